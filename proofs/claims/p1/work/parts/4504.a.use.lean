set_option maxRecDepth 20000 in
theorem ggX10_numberOf_X10_size : GoodIn wsX10_numberOf wsX10_size := goodIn_r _ [6, 7, 8, 9, 10, 11, 12, 13, 14, 15, 16, 17, 18, 19, 20, 21, 22, 23, 24, 25, 26, 27, 28, 29, 30, 31, 32, 33, 34, 35, 36, 37, 38, 39, 40, 41, 42, 43, 44, 45, 46, 47, 48, 49, 50, 51, 52, 53, 54, 55, 56, 57, 58, 59, 60, 61, 62, 63] (by decide +kernel) (by decide +kernel)
set_option maxRecDepth 20000 in
theorem gX10_numberOf_X10_size : GoodIn wsX10_numberOf (wsV RX10 125 RX10 yX10_size wsX10_size) := goodIn_app (goodIn_of _ (by decide +kernel)) ggX10_numberOf_X10_size
theorem dX10_numberOf_0 : decode cX10_numberOf 0 = .ok (.iconst 0, 1) := by decide +kernel
theorem dX10_numberOf_1 : decode cX10_numberOf 1 = .ok (.istore_n 1, 1) := by decide +kernel
theorem dX10_numberOf_2 : decode cX10_numberOf 2 = .ok (.iconst 0, 1) := by decide +kernel
theorem dX10_numberOf_3 : decode cX10_numberOf 3 = .ok (.istore_n 2, 1) := by decide +kernel
theorem dX10_numberOf_4 : decode cX10_numberOf 4 = .ok (.iload_n 2, 1) := by decide +kernel
theorem dX10_numberOf_5 : decode cX10_numberOf 5 = .ok (.aload_n 0, 1) := by decide +kernel
theorem dX10_numberOf_6 : decode cX10_numberOf 6 = .ok (.invokevirtual 125, 3) := by decide +kernel
theorem dX10_numberOf_9 : decode cX10_numberOf 9 = .ok (.if_icmp .ge 66, 3) := by decide +kernel
theorem dX10_numberOf_75 : decode cX10_numberOf 75 = .ok (.iload_n 1, 1) := by decide +kernel
theorem dX10_numberOf_76 : decode cX10_numberOf 76 = .ok (.ireturn, 1) := by decide +kernel
set_option maxRecDepth 20000 in
theorem ggX10_towerNow_X10_size : GoodIn wsX10_towerNow wsX10_size := goodIn_r _ [7, 2, 16, 17, 18, 19, 20, 21, 22, 23, 24, 25, 26, 27, 28, 29, 30, 31, 32, 33, 34, 35, 36, 37, 38, 39, 40, 41, 42, 43, 44, 45, 46, 47, 48, 49, 50, 51, 52, 53, 54, 55, 56, 57, 58, 59, 60, 61, 62, 63, 64, 65, 66, 67, 68, 69, 70, 71] (by decide +kernel) (by decide +kernel)
set_option maxRecDepth 20000 in
theorem gX10_towerNow_X10_size : GoodIn wsX10_towerNow (wsV RX10 125 RX10 yX10_size wsX10_size) := goodIn_app (goodIn_of _ (by decide +kernel)) ggX10_towerNow_X10_size
set_option maxRecDepth 20000 in
theorem ggX10_towerNow_X10_numberOf : GoodIn wsX10_towerNow wsX10_numberOf := goodIn_r _ [15, 1, 3, 4, 5, 6, 7, 2, 16, 17, 18, 19, 20, 21, 22, 23, 24, 25, 26, 27, 28, 29, 30, 31, 32, 33, 34, 35, 36, 37, 38, 39, 40, 41, 42, 43, 44, 45, 46, 47, 48, 49, 50, 51, 52, 53, 54, 55, 56, 57, 58, 59, 60, 61, 62, 63, 64, 65, 66, 67, 68, 69, 70, 71] (by decide +kernel) (by decide +kernel)
set_option maxRecDepth 20000 in
theorem gX10_towerNow_X10_numberOf : GoodIn wsX10_towerNow (wsV RX10 395 RX10 yX10_numberOf wsX10_numberOf) := goodIn_app (goodIn_of _ (by decide +kernel)) ggX10_towerNow_X10_numberOf
theorem dX10_towerNow_0 : decode cX10_towerNow 0 = .ok (.iconst 0, 1) := by decide +kernel
theorem dX10_towerNow_1 : decode cX10_towerNow 1 = .ok (.istore_n 1, 1) := by decide +kernel
theorem dX10_towerNow_2 : decode cX10_towerNow 2 = .ok (.iconst 0, 1) := by decide +kernel
theorem dX10_towerNow_3 : decode cX10_towerNow 3 = .ok (.istore_n 2, 1) := by decide +kernel
theorem dX10_towerNow_4 : decode cX10_towerNow 4 = .ok (.iload_n 2, 1) := by decide +kernel
theorem dX10_towerNow_5 : decode cX10_towerNow 5 = .ok (.aload_n 0, 1) := by decide +kernel
theorem dX10_towerNow_6 : decode cX10_towerNow 6 = .ok (.invokevirtual 125, 3) := by decide +kernel
theorem dX10_towerNow_9 : decode cX10_towerNow 9 = .ok (.if_icmp .ge 41, 3) := by decide +kernel
theorem dX10_towerNow_50 : decode cX10_towerNow 50 = .ok (.bipush 64, 2) := by decide +kernel
theorem dX10_towerNow_52 : decode cX10_towerNow 52 = .ok (.aload_n 0, 1) := by decide +kernel
theorem dX10_towerNow_53 : decode cX10_towerNow 53 = .ok (.invokevirtual 395, 3) := by decide +kernel
theorem dX10_towerNow_56 : decode cX10_towerNow 56 = .ok (.imul, 1) := by decide +kernel
theorem dX10_towerNow_57 : decode cX10_towerNow 57 = .ok (.iload_n 1, 1) := by decide +kernel
theorem dX10_towerNow_58 : decode cX10_towerNow 58 = .ok (.iadd, 1) := by decide +kernel
theorem dX10_towerNow_59 : decode cX10_towerNow 59 = .ok (.ireturn, 1) := by decide +kernel
theorem dX10_isThere_0 : decode cX10_isThere 0 = .ok (.iload_n 1, 1) := by decide +kernel
theorem dX10_isThere_1 : decode cX10_isThere 1 = .ok (.bipush 64, 2) := by decide +kernel
theorem dX10_isThere_3 : decode cX10_isThere 3 = .ok (.irem, 1) := by decide +kernel
theorem dX10_isThere_4 : decode cX10_isThere 4 = .ok (.aload_n 0, 1) := by decide +kernel
theorem dX10_isThere_5 : decode cX10_isThere 5 = .ok (.getfield 389, 3) := by decide +kernel
theorem dX10_isThere_8 : decode cX10_isThere 8 = .ok (.if_icmp .ge 18, 3) := by decide +kernel
theorem dX10_isThere_11 : decode cX10_isThere 11 = .ok (.iload_n 1, 1) := by decide +kernel
theorem dX10_isThere_12 : decode cX10_isThere 12 = .ok (.bipush 64, 2) := by decide +kernel
theorem dX10_isThere_14 : decode cX10_isThere 14 = .ok (.idiv, 1) := by decide +kernel
theorem dX10_isThere_15 : decode cX10_isThere 15 = .ok (.aload_n 0, 1) := by decide +kernel
theorem dX10_isThere_16 : decode cX10_isThere 16 = .ok (.getfield 386, 3) := by decide +kernel
theorem dX10_isThere_19 : decode cX10_isThere 19 = .ok (.if_icmp .ge 7, 3) := by decide +kernel
theorem dX10_isThere_22 : decode cX10_isThere 22 = .ok (.iconst 1, 1) := by decide +kernel
theorem dX10_isThere_23 : decode cX10_isThere 23 = .ok (.goto 4, 3) := by decide +kernel
theorem dX10_isThere_26 : decode cX10_isThere 26 = .ok (.iconst 0, 1) := by decide +kernel
theorem dX10_isThere_27 : decode cX10_isThere 27 = .ok (.ireturn, 1) := by decide +kernel
theorem dX10_isOrdered_0 : decode cX10_isOrdered 0 = .ok (.iload_n 1, 1) := by decide +kernel
theorem dX10_isOrdered_1 : decode cX10_isOrdered 1 = .ok (.bipush 64, 2) := by decide +kernel
theorem dX10_isOrdered_3 : decode cX10_isOrdered 3 = .ok (.idiv, 1) := by decide +kernel
theorem dX10_isOrdered_4 : decode cX10_isOrdered 4 = .ok (.ifCond .ne 24, 3) := by decide +kernel
theorem dX10_isOrdered_7 : decode cX10_isOrdered 7 = .ok (.aload_n 0, 1) := by decide +kernel
theorem dX10_isOrdered_8 : decode cX10_isOrdered 8 = .ok (.getfield 28, 3) := by decide +kernel
theorem dX10_isOrdered_11 : decode cX10_isOrdered 11 = .ok (.bipush 28, 2) := by decide +kernel
theorem dX10_isOrdered_13 : decode cX10_isOrdered 13 = .ok (.iaload, 1) := by decide +kernel
theorem dX10_isOrdered_14 : decode cX10_isOrdered 14 = .ok (.ifCond .eq 10, 3) := by decide +kernel
theorem dX10_isOrdered_17 : decode cX10_isOrdered 17 = .ok (.iload_n 1, 1) := by decide +kernel
theorem dX10_isOrdered_18 : decode cX10_isOrdered 18 = .ok (.bipush 64, 2) := by decide +kernel
theorem dX10_isOrdered_20 : decode cX10_isOrdered 20 = .ok (.irem, 1) := by decide +kernel
theorem dX10_isOrdered_21 : decode cX10_isOrdered 21 = .ok (.ifCond .ne 7, 3) := by decide +kernel
theorem dX10_isOrdered_24 : decode cX10_isOrdered 24 = .ok (.iconst 1, 1) := by decide +kernel
theorem dX10_isOrdered_25 : decode cX10_isOrdered 25 = .ok (.goto 4, 3) := by decide +kernel
theorem dX10_isOrdered_28 : decode cX10_isOrdered 28 = .ok (.iconst 0, 1) := by decide +kernel
theorem dX10_isOrdered_29 : decode cX10_isOrdered 29 = .ok (.ireturn, 1) := by decide +kernel
set_option maxRecDepth 20000 in
theorem ggX10_laysDist_X10_laysPrices : GoodIn wsX10_laysDist wsX10_laysPrices := goodIn_r _ [11, 12, 13, 14, 15, 10, 16, 1, 17, 18, 19, 20, 21, 22, 23, 24, 25, 26, 27, 28, 29, 30, 31, 32, 33, 34, 35, 36, 37, 38, 39, 40, 41, 42, 43, 44, 45, 46, 47, 48, 49, 50, 51, 52, 53, 54, 55, 56, 57, 58, 59, 60, 61, 62, 63, 64, 65, 66, 67, 68, 69, 70, 71, 72, 73, 74, 75, 76, 77, 78, 79, 80, 81, 82, 83, 84, 85, 86, 87, 88, 89, 90, 91, 92, 93, 94, 95, 96, 97, 98, 99, 100, 101, 102, 103, 104, 105, 106, 107, 108, 109, 110, 111, 112, 113, 114, 115, 116, 117, 118, 119, 120, 121, 122, 123, 124, 125, 126, 127, 128, 129, 130, 131, 132, 133, 134, 135, 136, 137, 138, 139, 140, 141, 142, 143, 163, 164, 165, 166, 167, 168, 169, 170, 171, 172, 173, 174, 175, 176, 177, 178, 179, 180, 181, 182, 183, 184, 185, 186, 187, 188, 189, 190, 191, 192, 193, 194, 195, 196, 197, 198, 199, 200, 201, 202, 203, 204, 205, 206, 207, 208, 209, 210, 211, 212, 213, 214, 215, 216, 217, 218] (by decide +kernel) (by decide +kernel)
set_option maxRecDepth 20000 in
theorem gX10_laysDist_X10_laysPrices : GoodIn wsX10_laysDist (wsV RX10 414 RX10 yX10_laysPrices wsX10_laysPrices) := goodIn_app (goodIn_of _ (by decide +kernel)) ggX10_laysDist_X10_laysPrices
set_option maxRecDepth 20000 in
theorem ggX10_laysDist_X10_isThere : GoodIn wsX10_laysDist wsX10_isThere := goodIn_r _ [147, 17, 1, 163, 164, 165, 166, 167, 168, 169, 170, 171, 172, 173, 174, 175, 176, 177, 178, 179, 180, 181, 182, 183, 184, 185, 186, 187, 188, 189, 190, 191, 192, 193, 194, 195, 196, 197, 198, 199, 200, 201, 202, 203, 204, 205, 206, 207, 208, 209, 210, 211, 212, 213, 214, 215, 216, 217, 218] (by decide +kernel) (by decide +kernel)
set_option maxRecDepth 20000 in
theorem gX10_laysDist_X10_isThere : GoodIn wsX10_laysDist (wsV RX10 417 RX10 yX10_isThere wsX10_isThere) := goodIn_app (goodIn_of _ (by decide +kernel)) ggX10_laysDist_X10_isThere
set_option maxRecDepth 20000 in
theorem ggX10_laysDist_X10_isOrdered : GoodIn wsX10_laysDist wsX10_isOrdered := goodIn_r _ [151, 26, 163, 164, 165, 166, 167, 168, 169, 170, 171, 172, 173, 174, 175, 176, 177, 178, 179, 180, 181, 182, 183, 184, 185, 186, 187, 188, 189, 190, 191, 192, 193, 194, 195, 196, 197, 198, 199, 200, 201, 202, 203, 204, 205, 206, 207, 208, 209, 210, 211, 212, 213, 214, 215, 216, 217, 218] (by decide +kernel) (by decide +kernel)
set_option maxRecDepth 20000 in
theorem gX10_laysDist_X10_isOrdered : GoodIn wsX10_laysDist (wsV RX10 420 RX10 yX10_isOrdered wsX10_isOrdered) := goodIn_app (goodIn_of _ (by decide +kernel)) ggX10_laysDist_X10_isOrdered
set_option maxRecDepth 20000 in
theorem ggX10_laysDist_X10_size : GoodIn wsX10_laysDist wsX10_size := goodIn_r _ [25, 26, 163, 164, 165, 166, 167, 168, 169, 170, 171, 172, 173, 174, 175, 176, 177, 178, 179, 180, 181, 182, 183, 184, 185, 186, 187, 188, 189, 190, 191, 192, 193, 194, 195, 196, 197, 198, 199, 200, 201, 202, 203, 204, 205, 206, 207, 208, 209, 210, 211, 212, 213, 214, 215, 216, 217, 218] (by decide +kernel) (by decide +kernel)
set_option maxRecDepth 20000 in
theorem gX10_laysDist_X10_size : GoodIn wsX10_laysDist (wsV RX10 125 RX10 yX10_size wsX10_size) := goodIn_app (goodIn_of _ (by decide +kernel)) ggX10_laysDist_X10_size
theorem dX10_laysDist_0 : decode cX10_laysDist 0 = .ok (.aload_n 0, 1) := by decide +kernel
theorem dX10_laysDist_1 : decode cX10_laysDist 1 = .ok (.invokevirtual 414, 3) := by decide +kernel
theorem dX10_laysDist_4 : decode cX10_laysDist 4 = .ok (.iconst 0, 1) := by decide +kernel
theorem dX10_laysDist_5 : decode cX10_laysDist 5 = .ok (.istore_n 1, 1) := by decide +kernel
theorem dX10_laysDist_6 : decode cX10_laysDist 6 = .ok (.iconst 0, 1) := by decide +kernel
theorem dX10_laysDist_7 : decode cX10_laysDist 7 = .ok (.istore_n 2, 1) := by decide +kernel
theorem dX10_laysDist_8 : decode cX10_laysDist 8 = .ok (.iload_n 2, 1) := by decide +kernel
theorem dX10_laysDist_9 : decode cX10_laysDist 9 = .ok (.bipush 64, 2) := by decide +kernel
theorem dX10_laysDist_11 : decode cX10_laysDist 11 = .ok (.aload_n 0, 1) := by decide +kernel
theorem dX10_laysDist_12 : decode cX10_laysDist 12 = .ok (.getfield 386, 3) := by decide +kernel
theorem dX10_laysDist_15 : decode cX10_laysDist 15 = .ok (.imul, 1) := by decide +kernel
theorem dX10_laysDist_16 : decode cX10_laysDist 16 = .ok (.if_icmp .ge 79, 3) := by decide +kernel
theorem dX10_laysDist_19 : decode cX10_laysDist 19 = .ok (.aload_n 0, 1) := by decide +kernel
theorem dX10_laysDist_20 : decode cX10_laysDist 20 = .ok (.iload_n 2, 1) := by decide +kernel
theorem dX10_laysDist_21 : decode cX10_laysDist 21 = .ok (.invokevirtual 417, 3) := by decide +kernel
theorem dX10_laysDist_24 : decode cX10_laysDist 24 = .ok (.ifCond .eq 15, 3) := by decide +kernel
theorem dX10_laysDist_27 : decode cX10_laysDist 27 = .ok (.aload_n 0, 1) := by decide +kernel
theorem dX10_laysDist_28 : decode cX10_laysDist 28 = .ok (.iload_n 2, 1) := by decide +kernel
theorem dX10_laysDist_29 : decode cX10_laysDist 29 = .ok (.invokevirtual 420, 3) := by decide +kernel
theorem dX10_laysDist_32 : decode cX10_laysDist 32 = .ok (.ifCond .eq 7, 3) := by decide +kernel
theorem dX10_laysDist_35 : decode cX10_laysDist 35 = .ok (.iconst 1, 1) := by decide +kernel
theorem dX10_laysDist_36 : decode cX10_laysDist 36 = .ok (.goto 4, 3) := by decide +kernel
theorem dX10_laysDist_39 : decode cX10_laysDist 39 = .ok (.iconst 0, 1) := by decide +kernel
theorem dX10_laysDist_40 : decode cX10_laysDist 40 = .ok (.istore_n 3, 1) := by decide +kernel
theorem dX10_laysDist_41 : decode cX10_laysDist 41 = .ok (.aload_n 0, 1) := by decide +kernel
theorem dX10_laysDist_42 : decode cX10_laysDist 42 = .ok (.getfield 91, 3) := by decide +kernel
theorem dX10_laysDist_45 : decode cX10_laysDist 45 = .ok (.iload_n 2, 1) := by decide +kernel
theorem dX10_laysDist_46 : decode cX10_laysDist 46 = .ok (.iload_n 3, 1) := by decide +kernel
theorem dX10_laysDist_47 : decode cX10_laysDist 47 = .ok (.ifCond .eq 7, 3) := by decide +kernel
theorem dX10_laysDist_50 : decode cX10_laysDist 50 = .ok (.iconst 0, 1) := by decide +kernel
theorem dX10_laysDist_51 : decode cX10_laysDist 51 = .ok (.goto 5, 3) := by decide +kernel
theorem dX10_laysDist_54 : decode cX10_laysDist 54 = .ok (.ldc 188, 2) := by decide +kernel
theorem dX10_laysDist_56 : decode cX10_laysDist 56 = .ok (.iastore, 1) := by decide +kernel
theorem dX10_laysDist_57 : decode cX10_laysDist 57 = .ok (.aload_n 0, 1) := by decide +kernel
theorem dX10_laysDist_58 : decode cX10_laysDist 58 = .ok (.getfield 94, 3) := by decide +kernel
theorem dX10_laysDist_61 : decode cX10_laysDist 61 = .ok (.iload_n 2, 1) := by decide +kernel
theorem dX10_laysDist_62 : decode cX10_laysDist 62 = .ok (.iload_n 3, 1) := by decide +kernel
theorem dX10_laysDist_63 : decode cX10_laysDist 63 = .ok (.ifCond .eq 7, 3) := by decide +kernel
theorem dX10_laysDist_66 : decode cX10_laysDist 66 = .ok (.iconst 1, 1) := by decide +kernel
theorem dX10_laysDist_67 : decode cX10_laysDist 67 = .ok (.goto 4, 3) := by decide +kernel
theorem dX10_laysDist_70 : decode cX10_laysDist 70 = .ok (.iconst 0, 1) := by decide +kernel
theorem dX10_laysDist_71 : decode cX10_laysDist 71 = .ok (.iastore, 1) := by decide +kernel
theorem dX10_laysDist_72 : decode cX10_laysDist 72 = .ok (.iload_n 3, 1) := by decide +kernel
theorem dX10_laysDist_73 : decode cX10_laysDist 73 = .ok (.ifCond .ne 6, 3) := by decide +kernel
theorem dX10_laysDist_76 : decode cX10_laysDist 76 = .ok (.goto 13, 3) := by decide +kernel
theorem dX10_laysDist_79 : decode cX10_laysDist 79 = .ok (.aload_n 0, 1) := by decide +kernel
theorem dX10_laysDist_80 : decode cX10_laysDist 80 = .ok (.getfield 97, 3) := by decide +kernel
theorem dX10_laysDist_83 : decode cX10_laysDist 83 = .ok (.iload_n 1, 1) := by decide +kernel
theorem dX10_laysDist_84 : decode cX10_laysDist 84 = .ok (.iload_n 2, 1) := by decide +kernel
theorem dX10_laysDist_85 : decode cX10_laysDist 85 = .ok (.iastore, 1) := by decide +kernel
theorem dX10_laysDist_86 : decode cX10_laysDist 86 = .ok (.iinc 1 1, 3) := by decide +kernel
theorem dX10_laysDist_89 : decode cX10_laysDist 89 = .ok (.iinc 2 1, 3) := by decide +kernel
theorem dX10_laysDist_92 : decode cX10_laysDist 92 = .ok (.goto (-84), 3) := by decide +kernel
theorem dX10_laysDist_95 : decode cX10_laysDist 95 = .ok (.iconst 0, 1) := by decide +kernel
theorem dX10_laysDist_96 : decode cX10_laysDist 96 = .ok (.istore_n 2, 1) := by decide +kernel
theorem dX10_laysDist_97 : decode cX10_laysDist 97 = .ok (.iload_n 2, 1) := by decide +kernel
theorem dX10_laysDist_98 : decode cX10_laysDist 98 = .ok (.iload_n 1, 1) := by decide +kernel
theorem dX10_laysDist_99 : decode cX10_laysDist 99 = .ok (.if_icmp .ge 145, 3) := by decide +kernel
theorem dX10_laysDist_102 : decode cX10_laysDist 102 = .ok (.aload_n 0, 1) := by decide +kernel
theorem dX10_laysDist_103 : decode cX10_laysDist 103 = .ok (.getfield 97, 3) := by decide +kernel
theorem dX10_laysDist_106 : decode cX10_laysDist 106 = .ok (.iload_n 2, 1) := by decide +kernel
theorem dX10_laysDist_107 : decode cX10_laysDist 107 = .ok (.iaload, 1) := by decide +kernel
theorem dX10_laysDist_108 : decode cX10_laysDist 108 = .ok (.istore_n 3, 1) := by decide +kernel
theorem dX10_laysDist_109 : decode cX10_laysDist 109 = .ok (.iconst 1, 1) := by decide +kernel
theorem dX10_laysDist_110 : decode cX10_laysDist 110 = .ok (.istore 4, 2) := by decide +kernel
theorem dX10_laysDist_112 : decode cX10_laysDist 112 = .ok (.iload 4, 2) := by decide +kernel
theorem dX10_laysDist_114 : decode cX10_laysDist 114 = .ok (.aload_n 0, 1) := by decide +kernel
theorem dX10_laysDist_115 : decode cX10_laysDist 115 = .ok (.invokevirtual 125, 3) := by decide +kernel
theorem dX10_laysDist_118 : decode cX10_laysDist 118 = .ok (.if_icmp .gt 120, 3) := by decide +kernel
theorem dX10_laysDist_238 : decode cX10_laysDist 238 = .ok (.iinc 2 1, 3) := by decide +kernel
theorem dX10_laysDist_241 : decode cX10_laysDist 241 = .ok (.goto (-144), 3) := by decide +kernel
theorem dX10_laysDist_244 : decode cX10_laysDist 244 = .ok (.return_, 1) := by decide +kernel
set_option maxRecDepth 20000 in
theorem ggX10_fewest_X10_laysDist : GoodIn wsX10_fewest wsX10_laysDist := goodIn_r _ [7, 8, 1, 2, 9, 10, 11, 12, 13, 14, 6, 15, 16, 17, 18, 19, 20, 21, 22, 23, 24, 25, 26, 27, 28, 29, 30, 31, 32, 33, 34, 35, 36, 37, 38, 39, 40, 41, 42, 43, 44, 45, 46, 47, 48, 49, 50, 51, 52, 53, 54, 55, 56, 57, 58, 59, 60, 61, 62, 63, 64, 65, 66, 67, 68, 69, 70, 71, 72, 73, 74, 75, 76, 77, 78, 79, 80, 81, 82, 83, 84, 85, 86, 87, 88, 89, 90, 91, 92, 93, 94, 95, 96, 97, 98, 99, 100, 101, 102, 103, 104, 105, 106, 107, 108, 109, 110, 111, 112, 113, 114, 115, 116, 117, 118, 119, 120, 121, 122, 123, 124, 125, 126, 127, 128, 129, 130, 131, 132, 133, 134, 135, 136, 137, 138, 139, 140, 141, 142, 143, 144, 145, 146, 147, 148, 149, 150, 151, 152, 153, 154, 155, 156, 157, 158, 159, 160, 161, 162, 163, 164, 165, 166, 171, 172, 173, 174, 175, 176, 177, 178, 179, 180, 181, 182, 183, 184, 185, 186, 187, 188, 189, 190, 191, 192, 193, 194, 195, 196, 197, 198, 199, 200, 201, 202, 203, 204, 205, 206, 207, 208, 209, 210, 211, 212, 213, 214, 215, 216, 217, 218, 219, 220, 221, 222, 223, 224, 225, 226] (by decide +kernel) (by decide +kernel)
set_option maxRecDepth 20000 in
theorem gX10_fewest_X10_laysDist : GoodIn wsX10_fewest (wsV RX10 430 RX10 yX10_laysDist wsX10_laysDist) := goodIn_app (goodIn_of _ (by decide +kernel)) ggX10_fewest_X10_laysDist
set_option maxRecDepth 20000 in
theorem ggX10_fewest_X10_towerNow : GoodIn wsX10_fewest wsX10_towerNow := goodIn_r _ [170, 22, 30, 26, 27, 28, 6, 29, 53, 54, 55, 56, 41, 42, 43, 44, 171, 172, 173, 174, 175, 176, 177, 178, 179, 180, 181, 182, 183, 184, 185, 186, 187, 188, 189, 190, 191, 192, 193, 194, 195, 196, 197, 198, 199, 200, 201, 202, 203, 204, 205, 206, 207, 208, 209, 210, 211, 212, 213, 214, 215, 216, 217, 218, 219, 220, 221, 222, 223, 224, 225, 226] (by decide +kernel) (by decide +kernel)
set_option maxRecDepth 20000 in
theorem gX10_fewest_X10_towerNow : GoodIn wsX10_fewest (wsV RX10 433 RX10 yX10_towerNow wsX10_towerNow) := goodIn_app (goodIn_of _ (by decide +kernel)) ggX10_fewest_X10_towerNow
theorem dX10_fewest_0 : decode cX10_fewest 0 = .ok (.iload_n 1, 1) := by decide +kernel
theorem dX10_fewest_1 : decode cX10_fewest 1 = .ok (.iconst (-1), 1) := by decide +kernel
theorem dX10_fewest_2 : decode cX10_fewest 2 = .ok (.if_icmp .ge 5, 3) := by decide +kernel
theorem dX10_fewest_5 : decode cX10_fewest 5 = .ok (.iconst (-1), 1) := by decide +kernel
theorem dX10_fewest_6 : decode cX10_fewest 6 = .ok (.ireturn, 1) := by decide +kernel
theorem dX10_fewest_7 : decode cX10_fewest 7 = .ok (.aload_n 0, 1) := by decide +kernel
theorem dX10_fewest_8 : decode cX10_fewest 8 = .ok (.invokevirtual 430, 3) := by decide +kernel
theorem dX10_fewest_11 : decode cX10_fewest 11 = .ok (.aload_n 0, 1) := by decide +kernel
theorem dX10_fewest_12 : decode cX10_fewest 12 = .ok (.invokevirtual 433, 3) := by decide +kernel
theorem dX10_fewest_15 : decode cX10_fewest 15 = .ok (.istore_n 2, 1) := by decide +kernel
theorem dX10_fewest_16 : decode cX10_fewest 16 = .ok (.aload_n 0, 1) := by decide +kernel
theorem dX10_fewest_17 : decode cX10_fewest 17 = .ok (.getfield 91, 3) := by decide +kernel
theorem dX10_fewest_20 : decode cX10_fewest 20 = .ok (.iload_n 2, 1) := by decide +kernel
theorem dX10_fewest_21 : decode cX10_fewest 21 = .ok (.iaload, 1) := by decide +kernel
theorem dX10_fewest_22 : decode cX10_fewest 22 = .ok (.ldc 188, 2) := by decide +kernel
theorem dX10_fewest_24 : decode cX10_fewest 24 = .ok (.if_icmp .eq 8, 3) := by decide +kernel
theorem dX10_fewest_27 : decode cX10_fewest 27 = .ok (.iload_n 1, 1) := by decide +kernel
theorem dX10_fewest_28 : decode cX10_fewest 28 = .ok (.iconst (-1), 1) := by decide +kernel
theorem dX10_fewest_29 : decode cX10_fewest 29 = .ok (.if_icmp .ne 25, 3) := by decide +kernel
theorem dX10_fewest_32 : decode cX10_fewest 32 = .ok (.aload_n 0, 1) := by decide +kernel
theorem dX10_fewest_33 : decode cX10_fewest 33 = .ok (.getfield 91, 3) := by decide +kernel
theorem dX10_fewest_36 : decode cX10_fewest 36 = .ok (.iload_n 2, 1) := by decide +kernel
theorem dX10_fewest_37 : decode cX10_fewest 37 = .ok (.iaload, 1) := by decide +kernel
theorem dX10_fewest_38 : decode cX10_fewest 38 = .ok (.ldc 188, 2) := by decide +kernel
theorem dX10_fewest_40 : decode cX10_fewest 40 = .ok (.if_icmp .ne 7, 3) := by decide +kernel
theorem dX10_fewest_47 : decode cX10_fewest 47 = .ok (.aload_n 0, 1) := by decide +kernel
theorem dX10_fewest_48 : decode cX10_fewest 48 = .ok (.getfield 91, 3) := by decide +kernel
theorem dX10_fewest_51 : decode cX10_fewest 51 = .ok (.iload_n 2, 1) := by decide +kernel
theorem dX10_fewest_52 : decode cX10_fewest 52 = .ok (.iaload, 1) := by decide +kernel
theorem dX10_fewest_53 : decode cX10_fewest 53 = .ok (.ireturn, 1) := by decide +kernel
theorem dX10_fewest_54 : decode cX10_fewest 54 = .ok (.iload_n 1, 1) := by decide +kernel
theorem dX10_fewest_55 : decode cX10_fewest 55 = .ok (.aload_n 0, 1) := by decide +kernel
theorem dX10_fewest_56 : decode cX10_fewest 56 = .ok (.getfield 91, 3) := by decide +kernel
theorem dX10_fewest_59 : decode cX10_fewest 59 = .ok (.iload_n 2, 1) := by decide +kernel
theorem dX10_fewest_60 : decode cX10_fewest 60 = .ok (.iaload, 1) := by decide +kernel
theorem dX10_fewest_61 : decode cX10_fewest 61 = .ok (.if_icmp .lt 5, 3) := by decide +kernel
theorem dX10_fewest_64 : decode cX10_fewest 64 = .ok (.iconst (-1), 1) := by decide +kernel
theorem dX10_fewest_65 : decode cX10_fewest 65 = .ok (.ireturn, 1) := by decide +kernel
set_option maxRecDepth 20000 in
theorem ggX10_many_X10_laysDist : GoodIn wsX10_many wsX10_laysDist := goodIn_r _ [6, 7, 8, 9, 1, 10, 11, 12, 13, 14, 5, 15, 16, 17, 18, 19, 20, 21, 22, 23, 24, 25, 26, 27, 28, 29, 30, 31, 32, 33, 34, 35, 36, 37, 38, 39, 40, 41, 42, 43, 44, 45, 46, 47, 48, 49, 50, 51, 52, 53, 54, 55, 56, 57, 58, 59, 60, 61, 62, 63, 64, 65, 66, 67, 68, 69, 70, 71, 72, 73, 74, 75, 76, 77, 78, 79, 80, 81, 82, 83, 84, 85, 86, 87, 88, 89, 90, 91, 92, 93, 94, 95, 96, 97, 98, 99, 100, 101, 102, 103, 104, 105, 106, 107, 108, 109, 110, 111, 112, 113, 114, 115, 116, 117, 118, 119, 120, 121, 122, 123, 124, 125, 126, 127, 128, 129, 130, 131, 132, 133, 134, 135, 136, 137, 138, 139, 140, 141, 142, 143, 144, 145, 146, 147, 148, 149, 150, 151, 152, 153, 154, 155, 156, 157, 158, 159, 160, 161, 162, 163, 164, 165, 166, 171, 172, 173, 174, 175, 176, 177, 178, 179, 180, 181, 182, 183, 184, 185, 186, 187, 188, 189, 190, 191, 192, 193, 194, 195, 196, 197, 198, 199, 200, 201, 202, 203, 204, 205, 206, 207, 208, 209, 210, 211, 212, 213, 214, 215, 216, 217, 218, 219, 220, 221, 222, 223, 224, 225, 226] (by decide +kernel) (by decide +kernel)
set_option maxRecDepth 20000 in
theorem gX10_many_X10_laysDist : GoodIn wsX10_many (wsV RX10 430 RX10 yX10_laysDist wsX10_laysDist) := goodIn_app (goodIn_of _ (by decide +kernel)) ggX10_many_X10_laysDist
set_option maxRecDepth 20000 in
theorem ggX10_many_X10_towerNow : GoodIn wsX10_many wsX10_towerNow := goodIn_r _ [170, 22, 30, 26, 27, 28, 5, 29, 53, 54, 55, 56, 41, 42, 43, 44, 171, 172, 173, 174, 175, 176, 177, 178, 179, 180, 181, 182, 183, 184, 185, 186, 187, 188, 189, 190, 191, 192, 193, 194, 195, 196, 197, 198, 199, 200, 201, 202, 203, 204, 205, 206, 207, 208, 209, 210, 211, 212, 213, 214, 215, 216, 217, 218, 219, 220, 221, 222, 223, 224, 225, 226] (by decide +kernel) (by decide +kernel)
set_option maxRecDepth 20000 in
theorem gX10_many_X10_towerNow : GoodIn wsX10_many (wsV RX10 433 RX10 yX10_towerNow wsX10_towerNow) := goodIn_app (goodIn_of _ (by decide +kernel)) ggX10_many_X10_towerNow
theorem dX10_many_0 : decode cX10_many 0 = .ok (.aload_n 0, 1) := by decide +kernel
theorem dX10_many_1 : decode cX10_many 1 = .ok (.invokevirtual 430, 3) := by decide +kernel
theorem dX10_many_4 : decode cX10_many 4 = .ok (.aload_n 0, 1) := by decide +kernel
theorem dX10_many_5 : decode cX10_many 5 = .ok (.getfield 94, 3) := by decide +kernel
theorem dX10_many_8 : decode cX10_many 8 = .ok (.aload_n 0, 1) := by decide +kernel
theorem dX10_many_9 : decode cX10_many 9 = .ok (.invokevirtual 433, 3) := by decide +kernel
theorem dX10_many_12 : decode cX10_many 12 = .ok (.iaload, 1) := by decide +kernel
theorem dX10_many_13 : decode cX10_many 13 = .ok (.ireturn, 1) := by decide +kernel
set_option maxRecDepth 20000 in
theorem ggX10_worst_X10_lies : GoodIn wsX10_worst wsX10_lies := goodIn_r _ [7] (by decide +kernel) (by decide +kernel)
set_option maxRecDepth 20000 in
theorem gX10_worst_X10_lies : GoodIn wsX10_worst (va_wsS RX10 18 yX10_lies wsX10_lies) := goodIn_app (goodIn_of _ (by decide +kernel)) ggX10_worst_X10_lies
set_option maxRecDepth 20000 in
theorem ggX10_worst_X10_laysDist : GoodIn wsX10_worst wsX10_laysDist := goodIn_r _ [11, 1, 2, 3, 12, 13, 14, 15, 16, 17, 6, 18, 19, 20, 21, 22, 23, 24, 25, 26, 27, 28, 29, 30, 31, 32, 33, 34, 35, 36, 37, 38, 39, 40, 41, 42, 43, 44, 45, 46, 47, 48, 49, 50, 51, 52, 53, 54, 55, 56, 57, 58, 59, 60, 61, 62, 63, 64, 65, 66, 67, 68, 69, 70, 71, 72, 73, 74, 75, 76, 77, 78, 79, 80, 81, 82, 83, 84, 85, 86, 87, 88, 89, 90, 91, 92, 93, 94, 95, 96, 97, 98, 99, 100, 101, 102, 103, 104, 105, 106, 107, 108, 109, 110, 111, 112, 113, 114, 115, 116, 117, 118, 119, 4, 5, 7, 120, 121, 122, 123, 124, 125, 126, 127, 128, 129, 130, 131, 132, 133, 134, 135, 136, 137, 138, 139, 140, 141, 142, 143, 144, 145, 146, 147, 148, 149, 150, 151, 152, 153, 154, 155, 156, 157, 158, 159, 160, 161, 162, 163, 164, 165, 166, 170, 171, 172, 173, 174, 175, 176, 177, 178, 179, 180, 181, 182, 183, 184, 185, 186, 187, 188, 189, 190, 191, 192, 193, 194, 195, 196, 197, 198, 199, 200, 201, 202, 203, 204, 205, 206, 207, 208, 209, 210, 211, 212, 213, 214, 215, 216, 217, 218, 219, 220, 221, 222, 223, 224, 225] (by decide +kernel) (by decide +kernel)
set_option maxRecDepth 20000 in
theorem gX10_worst_X10_laysDist : GoodIn wsX10_worst (wsV RX10 430 RX10 yX10_laysDist wsX10_laysDist) := goodIn_app (goodIn_of _ (by decide +kernel)) ggX10_worst_X10_laysDist
set_option maxRecDepth 20000 in
theorem ggX10_worst_X10_isThere : GoodIn wsX10_worst wsX10_isThere := goodIn_r _ [151, 24, 1, 170, 171, 172, 173, 174, 175, 176, 177, 178, 179, 180, 181, 182, 183, 184, 185, 186, 187, 188, 189, 190, 191, 192, 193, 194, 195, 196, 197, 198, 199, 200, 201, 202, 203, 204, 205, 206, 207, 208, 209, 210, 211, 212, 213, 214, 215, 216, 217, 218, 219, 220, 221, 222, 223, 224, 225] (by decide +kernel) (by decide +kernel)
set_option maxRecDepth 20000 in
theorem gX10_worst_X10_isThere : GoodIn wsX10_worst (wsV RX10 417 RX10 yX10_isThere wsX10_isThere) := goodIn_app (goodIn_of _ (by decide +kernel)) ggX10_worst_X10_isThere
set_option maxRecDepth 20000 in
theorem ggX10_worst_X10_greater : GoodIn wsX10_worst wsX10_greater := goodIn_r _ [169] (by decide +kernel) (by decide +kernel)
set_option maxRecDepth 20000 in
theorem gX10_worst_X10_greater : GoodIn wsX10_worst (va_wsS RX10 439 yX10_greater wsX10_greater) := goodIn_app (goodIn_of _ (by decide +kernel)) ggX10_worst_X10_greater
theorem dX10_worst_0 : decode cX10_worst 0 = .ok (.iload_n 1, 1) := by decide +kernel
theorem dX10_worst_1 : decode cX10_worst 1 = .ok (.iconst 0, 1) := by decide +kernel
theorem dX10_worst_2 : decode cX10_worst 2 = .ok (.iconst 2, 1) := by decide +kernel
theorem dX10_worst_3 : decode cX10_worst 3 = .ok (.invokestatic 18, 3) := by decide +kernel
theorem dX10_worst_6 : decode cX10_worst 6 = .ok (.ifCond .ne 5, 3) := by decide +kernel
theorem dX10_worst_9 : decode cX10_worst 9 = .ok (.iconst (-1), 1) := by decide +kernel
theorem dX10_worst_10 : decode cX10_worst 10 = .ok (.ireturn, 1) := by decide +kernel
theorem dX10_worst_11 : decode cX10_worst 11 = .ok (.aload_n 0, 1) := by decide +kernel
theorem dX10_worst_12 : decode cX10_worst 12 = .ok (.invokevirtual 430, 3) := by decide +kernel
theorem dX10_worst_15 : decode cX10_worst 15 = .ok (.iconst 0, 1) := by decide +kernel
theorem dX10_worst_16 : decode cX10_worst 16 = .ok (.istore_n 2, 1) := by decide +kernel
theorem dX10_worst_17 : decode cX10_worst 17 = .ok (.iconst 0, 1) := by decide +kernel
theorem dX10_worst_18 : decode cX10_worst 18 = .ok (.istore_n 3, 1) := by decide +kernel
theorem dX10_worst_19 : decode cX10_worst 19 = .ok (.iconst 0, 1) := by decide +kernel
theorem dX10_worst_20 : decode cX10_worst 20 = .ok (.istore 4, 2) := by decide +kernel
theorem dX10_worst_22 : decode cX10_worst 22 = .ok (.iconst 0, 1) := by decide +kernel
theorem dX10_worst_23 : decode cX10_worst 23 = .ok (.istore 5, 2) := by decide +kernel
theorem dX10_worst_25 : decode cX10_worst 25 = .ok (.iload 5, 2) := by decide +kernel
theorem dX10_worst_27 : decode cX10_worst 27 = .ok (.bipush 64, 2) := by decide +kernel
theorem dX10_worst_29 : decode cX10_worst 29 = .ok (.aload_n 0, 1) := by decide +kernel
theorem dX10_worst_30 : decode cX10_worst 30 = .ok (.getfield 386, 3) := by decide +kernel
theorem dX10_worst_33 : decode cX10_worst 33 = .ok (.imul, 1) := by decide +kernel
theorem dX10_worst_34 : decode cX10_worst 34 = .ok (.if_icmp .ge 82, 3) := by decide +kernel
theorem dX10_worst_37 : decode cX10_worst 37 = .ok (.aload_n 0, 1) := by decide +kernel
theorem dX10_worst_38 : decode cX10_worst 38 = .ok (.iload 5, 2) := by decide +kernel
theorem dX10_worst_40 : decode cX10_worst 40 = .ok (.invokevirtual 417, 3) := by decide +kernel
theorem dX10_worst_43 : decode cX10_worst 43 = .ok (.ifCond .eq 67, 3) := by decide +kernel
theorem dX10_worst_46 : decode cX10_worst 46 = .ok (.aload_n 0, 1) := by decide +kernel
theorem dX10_worst_47 : decode cX10_worst 47 = .ok (.getfield 91, 3) := by decide +kernel
theorem dX10_worst_50 : decode cX10_worst 50 = .ok (.iload 5, 2) := by decide +kernel
theorem dX10_worst_52 : decode cX10_worst 52 = .ok (.iaload, 1) := by decide +kernel
theorem dX10_worst_53 : decode cX10_worst 53 = .ok (.ldc 188, 2) := by decide +kernel
theorem dX10_worst_55 : decode cX10_worst 55 = .ok (.if_icmp .ne 6, 3) := by decide +kernel
theorem dX10_worst_61 : decode cX10_worst 61 = .ok (.aload_n 0, 1) := by decide +kernel
theorem dX10_worst_62 : decode cX10_worst 62 = .ok (.getfield 91, 3) := by decide +kernel
theorem dX10_worst_65 : decode cX10_worst 65 = .ok (.iload 5, 2) := by decide +kernel
theorem dX10_worst_67 : decode cX10_worst 67 = .ok (.iaload, 1) := by decide +kernel
theorem dX10_worst_68 : decode cX10_worst 68 = .ok (.iload_n 2, 1) := by decide +kernel
theorem dX10_worst_69 : decode cX10_worst 69 = .ok (.if_icmp .le 7, 3) := by decide +kernel
theorem dX10_worst_76 : decode cX10_worst 76 = .ok (.aload_n 0, 1) := by decide +kernel
theorem dX10_worst_77 : decode cX10_worst 77 = .ok (.getfield 91, 3) := by decide +kernel
theorem dX10_worst_80 : decode cX10_worst 80 = .ok (.iload 5, 2) := by decide +kernel
theorem dX10_worst_82 : decode cX10_worst 82 = .ok (.iaload, 1) := by decide +kernel
theorem dX10_worst_83 : decode cX10_worst 83 = .ok (.iload_n 2, 1) := by decide +kernel
theorem dX10_worst_84 : decode cX10_worst 84 = .ok (.if_icmp .ne 9, 3) := by decide +kernel
theorem dX10_worst_87 : decode cX10_worst 87 = .ok (.iload_n 3, 1) := by decide +kernel
theorem dX10_worst_88 : decode cX10_worst 88 = .ok (.iconst 1, 1) := by decide +kernel
theorem dX10_worst_89 : decode cX10_worst 89 = .ok (.iadd, 1) := by decide +kernel
theorem dX10_worst_90 : decode cX10_worst 90 = .ok (.goto 4, 3) := by decide +kernel
theorem dX10_worst_94 : decode cX10_worst 94 = .ok (.istore_n 3, 1) := by decide +kernel
theorem dX10_worst_95 : decode cX10_worst 95 = .ok (.iload_n 2, 1) := by decide +kernel
theorem dX10_worst_96 : decode cX10_worst 96 = .ok (.aload_n 0, 1) := by decide +kernel
theorem dX10_worst_97 : decode cX10_worst 97 = .ok (.getfield 91, 3) := by decide +kernel
theorem dX10_worst_100 : decode cX10_worst 100 = .ok (.iload 5, 2) := by decide +kernel
theorem dX10_worst_102 : decode cX10_worst 102 = .ok (.iaload, 1) := by decide +kernel
theorem dX10_worst_103 : decode cX10_worst 103 = .ok (.invokestatic 439, 3) := by decide +kernel
theorem dX10_worst_106 : decode cX10_worst 106 = .ok (.istore_n 2, 1) := by decide +kernel
theorem dX10_worst_107 : decode cX10_worst 107 = .ok (.iinc 4 1, 3) := by decide +kernel
theorem dX10_worst_110 : decode cX10_worst 110 = .ok (.iinc 5 1, 3) := by decide +kernel
theorem dX10_worst_113 : decode cX10_worst 113 = .ok (.goto (-88), 3) := by decide +kernel
theorem dX10_worst_116 : decode cX10_worst 116 = .ok (.iload_n 1, 1) := by decide +kernel
theorem dX10_worst_117 : decode cX10_worst 117 = .ok (.ifCond .ne 7, 3) := by decide +kernel
theorem dX10_worst_120 : decode cX10_worst 120 = .ok (.iload_n 2, 1) := by decide +kernel
theorem dX10_worst_121 : decode cX10_worst 121 = .ok (.goto 14, 3) := by decide +kernel
theorem dX10_worst_124 : decode cX10_worst 124 = .ok (.iload_n 1, 1) := by decide +kernel
theorem dX10_worst_125 : decode cX10_worst 125 = .ok (.iconst 1, 1) := by decide +kernel
theorem dX10_worst_126 : decode cX10_worst 126 = .ok (.if_icmp .ne 7, 3) := by decide +kernel
theorem dX10_worst_129 : decode cX10_worst 129 = .ok (.iload_n 3, 1) := by decide +kernel
theorem dX10_worst_130 : decode cX10_worst 130 = .ok (.goto 5, 3) := by decide +kernel
theorem dX10_worst_133 : decode cX10_worst 133 = .ok (.iload 4, 2) := by decide +kernel
theorem dX10_worst_135 : decode cX10_worst 135 = .ok (.ireturn, 1) := by decide +kernel
set_option maxRecDepth 20000 in
theorem ggX10_cheapest_X10_laysPrices : GoodIn wsX10_cheapest wsX10_laysPrices := goodIn_r _ [11, 12, 13, 14, 15, 10, 16, 1, 17, 18, 19, 20, 21, 22, 23, 24, 25, 26, 27, 28, 29, 30, 31, 32, 33, 34, 35, 36, 37, 38, 39, 40, 41, 42, 43, 44, 45, 46, 47, 48, 49, 50, 51, 52, 53, 54, 55, 56, 57, 58, 59, 60, 61, 62, 63, 64, 65, 66, 67, 68, 69, 70, 71, 72, 73, 74, 75, 76, 77, 78, 79, 80, 81, 82, 83, 84, 85, 86, 87, 88, 89, 90, 91, 92, 93, 94, 95, 96, 97, 98, 99, 100, 101, 102, 103, 104, 105, 106, 107, 108, 109, 110, 111, 112, 113, 114, 115, 116, 117, 118, 119, 120, 121, 122, 123, 124, 125, 126, 127, 128, 129, 130, 131, 132, 133, 134, 135, 136, 137, 138, 139, 140, 141, 142, 143, 164, 165, 166, 167, 168, 169, 170, 171, 172, 173, 174, 175, 176, 177, 178, 179, 180, 181, 182, 183, 184, 185, 186, 187, 188, 189, 190, 191, 192, 193, 194, 195, 196, 197, 198, 199, 200, 201, 202, 203, 204, 205, 206, 207, 208, 209, 210, 211, 212, 213, 214, 215, 216, 217, 218, 219] (by decide +kernel) (by decide +kernel)
set_option maxRecDepth 20000 in
theorem gX10_cheapest_X10_laysPrices : GoodIn wsX10_cheapest (wsV RX10 414 RX10 yX10_laysPrices wsX10_laysPrices) := goodIn_app (goodIn_of _ (by decide +kernel)) ggX10_cheapest_X10_laysPrices
set_option maxRecDepth 20000 in
theorem ggX10_cheapest_X10_isThere : GoodIn wsX10_cheapest wsX10_isThere := goodIn_r _ [147, 17, 1, 164, 165, 166, 167, 168, 169, 170, 171, 172, 173, 174, 175, 176, 177, 178, 179, 180, 181, 182, 183, 184, 185, 186, 187, 188, 189, 190, 191, 192, 193, 194, 195, 196, 197, 198, 199, 200, 201, 202, 203, 204, 205, 206, 207, 208, 209, 210, 211, 212, 213, 214, 215, 216, 217, 218, 219] (by decide +kernel) (by decide +kernel)
set_option maxRecDepth 20000 in
theorem gX10_cheapest_X10_isThere : GoodIn wsX10_cheapest (wsV RX10 417 RX10 yX10_isThere wsX10_isThere) := goodIn_app (goodIn_of _ (by decide +kernel)) ggX10_cheapest_X10_isThere
set_option maxRecDepth 20000 in
theorem ggX10_cheapest_X10_isOrdered : GoodIn wsX10_cheapest wsX10_isOrdered := goodIn_r _ [151, 26, 164, 165, 166, 167, 168, 169, 170, 171, 172, 173, 174, 175, 176, 177, 178, 179, 180, 181, 182, 183, 184, 185, 186, 187, 188, 189, 190, 191, 192, 193, 194, 195, 196, 197, 198, 199, 200, 201, 202, 203, 204, 205, 206, 207, 208, 209, 210, 211, 212, 213, 214, 215, 216, 217, 218, 219] (by decide +kernel) (by decide +kernel)
set_option maxRecDepth 20000 in
theorem gX10_cheapest_X10_isOrdered : GoodIn wsX10_cheapest (wsV RX10 420 RX10 yX10_isOrdered wsX10_isOrdered) := goodIn_app (goodIn_of _ (by decide +kernel)) ggX10_cheapest_X10_isOrdered
set_option maxRecDepth 20000 in
theorem ggX10_cheapest_X10_size : GoodIn wsX10_cheapest wsX10_size := goodIn_r _ [25, 26, 164, 165, 166, 167, 168, 169, 170, 171, 172, 173, 174, 175, 176, 177, 178, 179, 180, 181, 182, 183, 184, 185, 186, 187, 188, 189, 190, 191, 192, 193, 194, 195, 196, 197, 198, 199, 200, 201, 202, 203, 204, 205, 206, 207, 208, 209, 210, 211, 212, 213, 214, 215, 216, 217, 218, 219] (by decide +kernel) (by decide +kernel)
set_option maxRecDepth 20000 in
theorem gX10_cheapest_X10_size : GoodIn wsX10_cheapest (wsV RX10 125 RX10 yX10_size wsX10_size) := goodIn_app (goodIn_of _ (by decide +kernel)) ggX10_cheapest_X10_size
set_option maxRecDepth 20000 in
theorem ggX10_cheapest_X10_towerNow : GoodIn wsX10_cheapest wsX10_towerNow := goodIn_r _ [163, 18, 26, 22, 23, 24, 10, 25, 49, 50, 51, 52, 37, 38, 39, 40, 164, 165, 166, 167, 168, 169, 170, 171, 172, 173, 174, 175, 176, 177, 178, 179, 180, 181, 182, 183, 184, 185, 186, 187, 188, 189, 190, 191, 192, 193, 194, 195, 196, 197, 198, 199, 200, 201, 202, 203, 204, 205, 206, 207, 208, 209, 210, 211, 212, 213, 214, 215, 216, 217, 218, 219] (by decide +kernel) (by decide +kernel)
set_option maxRecDepth 20000 in
theorem gX10_cheapest_X10_towerNow : GoodIn wsX10_cheapest (wsV RX10 433 RX10 yX10_towerNow wsX10_towerNow) := goodIn_app (goodIn_of _ (by decide +kernel)) ggX10_cheapest_X10_towerNow
theorem dX10_cheapest_0 : decode cX10_cheapest 0 = .ok (.aload_n 0, 1) := by decide +kernel
theorem dX10_cheapest_1 : decode cX10_cheapest 1 = .ok (.invokevirtual 414, 3) := by decide +kernel
theorem dX10_cheapest_4 : decode cX10_cheapest 4 = .ok (.iconst 0, 1) := by decide +kernel
theorem dX10_cheapest_5 : decode cX10_cheapest 5 = .ok (.istore_n 1, 1) := by decide +kernel
theorem dX10_cheapest_6 : decode cX10_cheapest 6 = .ok (.iconst 0, 1) := by decide +kernel
theorem dX10_cheapest_7 : decode cX10_cheapest 7 = .ok (.istore_n 2, 1) := by decide +kernel
theorem dX10_cheapest_8 : decode cX10_cheapest 8 = .ok (.iload_n 2, 1) := by decide +kernel
theorem dX10_cheapest_9 : decode cX10_cheapest 9 = .ok (.bipush 64, 2) := by decide +kernel
theorem dX10_cheapest_11 : decode cX10_cheapest 11 = .ok (.aload_n 0, 1) := by decide +kernel
theorem dX10_cheapest_12 : decode cX10_cheapest 12 = .ok (.getfield 386, 3) := by decide +kernel
theorem dX10_cheapest_15 : decode cX10_cheapest 15 = .ok (.imul, 1) := by decide +kernel
theorem dX10_cheapest_16 : decode cX10_cheapest 16 = .ok (.if_icmp .ge 71, 3) := by decide +kernel
theorem dX10_cheapest_19 : decode cX10_cheapest 19 = .ok (.aload_n 0, 1) := by decide +kernel
theorem dX10_cheapest_20 : decode cX10_cheapest 20 = .ok (.iload_n 2, 1) := by decide +kernel
theorem dX10_cheapest_21 : decode cX10_cheapest 21 = .ok (.invokevirtual 417, 3) := by decide +kernel
theorem dX10_cheapest_24 : decode cX10_cheapest 24 = .ok (.ifCond .eq 15, 3) := by decide +kernel
theorem dX10_cheapest_27 : decode cX10_cheapest 27 = .ok (.aload_n 0, 1) := by decide +kernel
theorem dX10_cheapest_28 : decode cX10_cheapest 28 = .ok (.iload_n 2, 1) := by decide +kernel
theorem dX10_cheapest_29 : decode cX10_cheapest 29 = .ok (.invokevirtual 420, 3) := by decide +kernel
theorem dX10_cheapest_32 : decode cX10_cheapest 32 = .ok (.ifCond .eq 7, 3) := by decide +kernel
theorem dX10_cheapest_35 : decode cX10_cheapest 35 = .ok (.iconst 1, 1) := by decide +kernel
theorem dX10_cheapest_36 : decode cX10_cheapest 36 = .ok (.goto 4, 3) := by decide +kernel
theorem dX10_cheapest_39 : decode cX10_cheapest 39 = .ok (.iconst 0, 1) := by decide +kernel
theorem dX10_cheapest_40 : decode cX10_cheapest 40 = .ok (.istore_n 3, 1) := by decide +kernel
theorem dX10_cheapest_41 : decode cX10_cheapest 41 = .ok (.aload_n 0, 1) := by decide +kernel
theorem dX10_cheapest_42 : decode cX10_cheapest 42 = .ok (.getfield 91, 3) := by decide +kernel
theorem dX10_cheapest_45 : decode cX10_cheapest 45 = .ok (.iload_n 2, 1) := by decide +kernel
theorem dX10_cheapest_46 : decode cX10_cheapest 46 = .ok (.iload_n 3, 1) := by decide +kernel
theorem dX10_cheapest_47 : decode cX10_cheapest 47 = .ok (.ifCond .eq 7, 3) := by decide +kernel
theorem dX10_cheapest_50 : decode cX10_cheapest 50 = .ok (.iconst 0, 1) := by decide +kernel
theorem dX10_cheapest_51 : decode cX10_cheapest 51 = .ok (.goto 5, 3) := by decide +kernel
theorem dX10_cheapest_54 : decode cX10_cheapest 54 = .ok (.ldc 188, 2) := by decide +kernel
theorem dX10_cheapest_56 : decode cX10_cheapest 56 = .ok (.iastore, 1) := by decide +kernel
theorem dX10_cheapest_57 : decode cX10_cheapest 57 = .ok (.aload_n 0, 1) := by decide +kernel
theorem dX10_cheapest_58 : decode cX10_cheapest 58 = .ok (.getfield 100, 3) := by decide +kernel
theorem dX10_cheapest_61 : decode cX10_cheapest 61 = .ok (.iload_n 2, 1) := by decide +kernel
theorem dX10_cheapest_62 : decode cX10_cheapest 62 = .ok (.iload_n 3, 1) := by decide +kernel
theorem dX10_cheapest_63 : decode cX10_cheapest 63 = .ok (.bastore, 1) := by decide +kernel
theorem dX10_cheapest_64 : decode cX10_cheapest 64 = .ok (.iload_n 3, 1) := by decide +kernel
theorem dX10_cheapest_65 : decode cX10_cheapest 65 = .ok (.ifCond .ne 6, 3) := by decide +kernel
theorem dX10_cheapest_68 : decode cX10_cheapest 68 = .ok (.goto 13, 3) := by decide +kernel
theorem dX10_cheapest_71 : decode cX10_cheapest 71 = .ok (.aload_n 0, 1) := by decide +kernel
theorem dX10_cheapest_72 : decode cX10_cheapest 72 = .ok (.getfield 97, 3) := by decide +kernel
theorem dX10_cheapest_75 : decode cX10_cheapest 75 = .ok (.iload_n 1, 1) := by decide +kernel
theorem dX10_cheapest_76 : decode cX10_cheapest 76 = .ok (.iload_n 2, 1) := by decide +kernel
theorem dX10_cheapest_77 : decode cX10_cheapest 77 = .ok (.iastore, 1) := by decide +kernel
theorem dX10_cheapest_78 : decode cX10_cheapest 78 = .ok (.iinc 1 1, 3) := by decide +kernel
theorem dX10_cheapest_81 : decode cX10_cheapest 81 = .ok (.iinc 2 1, 3) := by decide +kernel
theorem dX10_cheapest_84 : decode cX10_cheapest 84 = .ok (.goto (-76), 3) := by decide +kernel
theorem dX10_cheapest_87 : decode cX10_cheapest 87 = .ok (.iconst 0, 1) := by decide +kernel
theorem dX10_cheapest_88 : decode cX10_cheapest 88 = .ok (.istore_n 2, 1) := by decide +kernel
theorem dX10_cheapest_89 : decode cX10_cheapest 89 = .ok (.iload_n 1, 1) := by decide +kernel
theorem dX10_cheapest_90 : decode cX10_cheapest 90 = .ok (.ifCond .le 148, 3) := by decide +kernel
theorem dX10_cheapest_93 : decode cX10_cheapest 93 = .ok (.aload_n 0, 1) := by decide +kernel
theorem dX10_cheapest_94 : decode cX10_cheapest 94 = .ok (.getfield 97, 3) := by decide +kernel
theorem dX10_cheapest_97 : decode cX10_cheapest 97 = .ok (.iload_n 2, 1) := by decide +kernel
theorem dX10_cheapest_98 : decode cX10_cheapest 98 = .ok (.iaload, 1) := by decide +kernel
theorem dX10_cheapest_99 : decode cX10_cheapest 99 = .ok (.istore_n 3, 1) := by decide +kernel
theorem dX10_cheapest_100 : decode cX10_cheapest 100 = .ok (.iload_n 2, 1) := by decide +kernel
theorem dX10_cheapest_101 : decode cX10_cheapest 101 = .ok (.iconst 1, 1) := by decide +kernel
theorem dX10_cheapest_102 : decode cX10_cheapest 102 = .ok (.iadd, 1) := by decide +kernel
theorem dX10_cheapest_103 : decode cX10_cheapest 103 = .ok (.ldc 90, 2) := by decide +kernel
theorem dX10_cheapest_105 : decode cX10_cheapest 105 = .ok (.irem, 1) := by decide +kernel
theorem dX10_cheapest_106 : decode cX10_cheapest 106 = .ok (.istore_n 2, 1) := by decide +kernel
theorem dX10_cheapest_107 : decode cX10_cheapest 107 = .ok (.iinc 1 (-1), 3) := by decide +kernel
theorem dX10_cheapest_110 : decode cX10_cheapest 110 = .ok (.aload_n 0, 1) := by decide +kernel
theorem dX10_cheapest_111 : decode cX10_cheapest 111 = .ok (.getfield 100, 3) := by decide +kernel
theorem dX10_cheapest_114 : decode cX10_cheapest 114 = .ok (.iload_n 3, 1) := by decide +kernel
theorem dX10_cheapest_115 : decode cX10_cheapest 115 = .ok (.iconst 0, 1) := by decide +kernel
theorem dX10_cheapest_116 : decode cX10_cheapest 116 = .ok (.bastore, 1) := by decide +kernel
theorem dX10_cheapest_117 : decode cX10_cheapest 117 = .ok (.iconst 1, 1) := by decide +kernel
theorem dX10_cheapest_118 : decode cX10_cheapest 118 = .ok (.istore 4, 2) := by decide +kernel
theorem dX10_cheapest_120 : decode cX10_cheapest 120 = .ok (.iload 4, 2) := by decide +kernel
theorem dX10_cheapest_122 : decode cX10_cheapest 122 = .ok (.aload_n 0, 1) := by decide +kernel
theorem dX10_cheapest_123 : decode cX10_cheapest 123 = .ok (.invokevirtual 125, 3) := by decide +kernel
theorem dX10_cheapest_126 : decode cX10_cheapest 126 = .ok (.if_icmp .gt 109, 3) := by decide +kernel
theorem dX10_cheapest_235 : decode cX10_cheapest 235 = .ok (.goto (-146), 3) := by decide +kernel
theorem dX10_cheapest_238 : decode cX10_cheapest 238 = .ok (.aload_n 0, 1) := by decide +kernel
theorem dX10_cheapest_239 : decode cX10_cheapest 239 = .ok (.getfield 91, 3) := by decide +kernel
theorem dX10_cheapest_242 : decode cX10_cheapest 242 = .ok (.aload_n 0, 1) := by decide +kernel
theorem dX10_cheapest_243 : decode cX10_cheapest 243 = .ok (.invokevirtual 433, 3) := by decide +kernel
theorem dX10_cheapest_246 : decode cX10_cheapest 246 = .ok (.iaload, 1) := by decide +kernel
theorem dX10_cheapest_247 : decode cX10_cheapest 247 = .ok (.istore_n 3, 1) := by decide +kernel
theorem dX10_cheapest_248 : decode cX10_cheapest 248 = .ok (.iload_n 3, 1) := by decide +kernel
theorem dX10_cheapest_249 : decode cX10_cheapest 249 = .ok (.ldc 188, 2) := by decide +kernel
theorem dX10_cheapest_251 : decode cX10_cheapest 251 = .ok (.if_icmp .ne 7, 3) := by decide +kernel
theorem dX10_cheapest_258 : decode cX10_cheapest 258 = .ok (.iload_n 3, 1) := by decide +kernel
theorem dX10_cheapest_259 : decode cX10_cheapest 259 = .ok (.ireturn, 1) := by decide +kernel
set_option maxRecDepth 20000 in
theorem ggX10_laysReach_X10_laysPrices : GoodIn wsX10_laysReach wsX10_laysPrices := goodIn_r _ [9, 10, 11, 12, 13, 8, 14, 1, 15, 16, 17, 18, 19, 20, 21, 22, 23, 24, 25, 26, 27, 28, 29, 30, 31, 32, 33, 34, 35, 36, 37, 38, 39, 40, 41, 42, 43, 44, 45, 46, 47, 48, 49, 50, 51, 52, 53, 54, 55, 56, 57, 58, 59, 60, 61, 62, 63, 64, 65, 66, 67, 68, 69, 70, 71, 72, 73, 74, 75, 76, 77, 78, 79, 80, 81, 82, 83, 84, 85, 86, 87, 88, 89, 90, 91, 92, 93, 94, 95, 96, 97, 98, 99, 100, 101, 102, 103, 104, 105, 106, 107, 108, 109, 110, 111, 112, 113, 114, 115, 116, 117, 118, 119, 120, 121, 122, 123, 124, 125, 126, 127, 128, 129, 130, 131, 132, 133, 134, 135, 136, 137, 138, 139, 140, 141, 154, 155, 156, 157, 158, 159, 160, 161, 162, 163, 164, 165, 166, 167, 168, 169, 170, 171, 172, 173, 174, 175, 176, 177, 178, 179, 180, 181, 182, 183, 184, 185, 186, 187, 188, 189, 190, 191, 192, 193, 194, 195, 196, 197, 198, 199, 200, 201, 202, 203, 204, 205, 206, 207, 208, 209] (by decide +kernel) (by decide +kernel)
set_option maxRecDepth 20000 in
theorem gX10_laysReach_X10_laysPrices : GoodIn wsX10_laysReach (wsV RX10 414 RX10 yX10_laysPrices wsX10_laysPrices) := goodIn_app (goodIn_of _ (by decide +kernel)) ggX10_laysReach_X10_laysPrices
set_option maxRecDepth 20000 in
theorem ggX10_laysReach_X10_towerNow : GoodIn wsX10_laysReach wsX10_towerNow := goodIn_r _ [145, 16, 24, 20, 21, 22, 8, 23, 47, 48, 49, 50, 35, 36, 37, 38, 154, 155, 156, 157, 158, 159, 160, 161, 162, 163, 164, 165, 166, 167, 168, 169, 170, 171, 172, 173, 174, 175, 176, 177, 178, 179, 180, 181, 182, 183, 184, 185, 186, 187, 188, 189, 190, 191, 192, 193, 194, 195, 196, 197, 198, 199, 200, 201, 202, 203, 204, 205, 206, 207, 208, 209] (by decide +kernel) (by decide +kernel)
set_option maxRecDepth 20000 in
theorem gX10_laysReach_X10_towerNow : GoodIn wsX10_laysReach (wsV RX10 433 RX10 yX10_towerNow wsX10_towerNow) := goodIn_app (goodIn_of _ (by decide +kernel)) ggX10_laysReach_X10_towerNow
set_option maxRecDepth 20000 in
theorem ggX10_laysReach_X10_size : GoodIn wsX10_laysReach wsX10_size := goodIn_r _ [23, 24, 154, 155, 156, 157, 158, 159, 160, 161, 162, 163, 164, 165, 166, 167, 168, 169, 170, 171, 172, 173, 174, 175, 176, 177, 178, 179, 180, 181, 182, 183, 184, 185, 186, 187, 188, 189, 190, 191, 192, 193, 194, 195, 196, 197, 198, 199, 200, 201, 202, 203, 204, 205, 206, 207, 208, 209] (by decide +kernel) (by decide +kernel)
set_option maxRecDepth 20000 in
theorem gX10_laysReach_X10_size : GoodIn wsX10_laysReach (wsV RX10 125 RX10 yX10_size wsX10_size) := goodIn_app (goodIn_of _ (by decide +kernel)) ggX10_laysReach_X10_size
theorem dX10_laysReach_0 : decode cX10_laysReach 0 = .ok (.aload_n 0, 1) := by decide +kernel
theorem dX10_laysReach_1 : decode cX10_laysReach 1 = .ok (.invokevirtual 414, 3) := by decide +kernel
theorem dX10_laysReach_4 : decode cX10_laysReach 4 = .ok (.iconst 0, 1) := by decide +kernel
theorem dX10_laysReach_5 : decode cX10_laysReach 5 = .ok (.istore_n 1, 1) := by decide +kernel
theorem dX10_laysReach_6 : decode cX10_laysReach 6 = .ok (.iload_n 1, 1) := by decide +kernel
theorem dX10_laysReach_7 : decode cX10_laysReach 7 = .ok (.bipush 64, 2) := by decide +kernel
theorem dX10_laysReach_9 : decode cX10_laysReach 9 = .ok (.aload_n 0, 1) := by decide +kernel
theorem dX10_laysReach_10 : decode cX10_laysReach 10 = .ok (.getfield 386, 3) := by decide +kernel
theorem dX10_laysReach_13 : decode cX10_laysReach 13 = .ok (.imul, 1) := by decide +kernel
theorem dX10_laysReach_14 : decode cX10_laysReach 14 = .ok (.if_icmp .ge 17, 3) := by decide +kernel
theorem dX10_laysReach_17 : decode cX10_laysReach 17 = .ok (.aload_n 0, 1) := by decide +kernel
theorem dX10_laysReach_18 : decode cX10_laysReach 18 = .ok (.getfield 91, 3) := by decide +kernel
theorem dX10_laysReach_21 : decode cX10_laysReach 21 = .ok (.iload_n 1, 1) := by decide +kernel
theorem dX10_laysReach_22 : decode cX10_laysReach 22 = .ok (.ldc 188, 2) := by decide +kernel
theorem dX10_laysReach_24 : decode cX10_laysReach 24 = .ok (.iastore, 1) := by decide +kernel
theorem dX10_laysReach_25 : decode cX10_laysReach 25 = .ok (.iinc 1 1, 3) := by decide +kernel
theorem dX10_laysReach_28 : decode cX10_laysReach 28 = .ok (.goto (-22), 3) := by decide +kernel
theorem dX10_laysReach_31 : decode cX10_laysReach 31 = .ok (.iconst 1, 1) := by decide +kernel
theorem dX10_laysReach_32 : decode cX10_laysReach 32 = .ok (.istore_n 1, 1) := by decide +kernel
theorem dX10_laysReach_33 : decode cX10_laysReach 33 = .ok (.aload_n 0, 1) := by decide +kernel
theorem dX10_laysReach_34 : decode cX10_laysReach 34 = .ok (.getfield 97, 3) := by decide +kernel
theorem dX10_laysReach_37 : decode cX10_laysReach 37 = .ok (.iconst 0, 1) := by decide +kernel
theorem dX10_laysReach_38 : decode cX10_laysReach 38 = .ok (.aload_n 0, 1) := by decide +kernel
theorem dX10_laysReach_39 : decode cX10_laysReach 39 = .ok (.invokevirtual 433, 3) := by decide +kernel
theorem dX10_laysReach_42 : decode cX10_laysReach 42 = .ok (.iastore, 1) := by decide +kernel
theorem dX10_laysReach_43 : decode cX10_laysReach 43 = .ok (.aload_n 0, 1) := by decide +kernel
theorem dX10_laysReach_44 : decode cX10_laysReach 44 = .ok (.getfield 91, 3) := by decide +kernel
theorem dX10_laysReach_47 : decode cX10_laysReach 47 = .ok (.aload_n 0, 1) := by decide +kernel
theorem dX10_laysReach_48 : decode cX10_laysReach 48 = .ok (.getfield 97, 3) := by decide +kernel
theorem dX10_laysReach_51 : decode cX10_laysReach 51 = .ok (.iconst 0, 1) := by decide +kernel
theorem dX10_laysReach_52 : decode cX10_laysReach 52 = .ok (.iaload, 1) := by decide +kernel
theorem dX10_laysReach_53 : decode cX10_laysReach 53 = .ok (.iconst 0, 1) := by decide +kernel
theorem dX10_laysReach_54 : decode cX10_laysReach 54 = .ok (.iastore, 1) := by decide +kernel
theorem dX10_laysReach_55 : decode cX10_laysReach 55 = .ok (.iconst 0, 1) := by decide +kernel
theorem dX10_laysReach_56 : decode cX10_laysReach 56 = .ok (.istore_n 2, 1) := by decide +kernel
theorem dX10_laysReach_57 : decode cX10_laysReach 57 = .ok (.iload_n 2, 1) := by decide +kernel
theorem dX10_laysReach_58 : decode cX10_laysReach 58 = .ok (.iload_n 1, 1) := by decide +kernel
theorem dX10_laysReach_59 : decode cX10_laysReach 59 = .ok (.if_icmp .ge 99, 3) := by decide +kernel
theorem dX10_laysReach_62 : decode cX10_laysReach 62 = .ok (.iconst 1, 1) := by decide +kernel
theorem dX10_laysReach_63 : decode cX10_laysReach 63 = .ok (.istore_n 3, 1) := by decide +kernel
theorem dX10_laysReach_64 : decode cX10_laysReach 64 = .ok (.iload_n 3, 1) := by decide +kernel
theorem dX10_laysReach_65 : decode cX10_laysReach 65 = .ok (.aload_n 0, 1) := by decide +kernel
theorem dX10_laysReach_66 : decode cX10_laysReach 66 = .ok (.invokevirtual 125, 3) := by decide +kernel
theorem dX10_laysReach_69 : decode cX10_laysReach 69 = .ok (.if_icmp .gt 83, 3) := by decide +kernel
theorem dX10_laysReach_152 : decode cX10_laysReach 152 = .ok (.iinc 2 1, 3) := by decide +kernel
theorem dX10_laysReach_155 : decode cX10_laysReach 155 = .ok (.goto (-98), 3) := by decide +kernel
theorem dX10_laysReach_158 : decode cX10_laysReach 158 = .ok (.iload_n 1, 1) := by decide +kernel
theorem dX10_laysReach_159 : decode cX10_laysReach 159 = .ok (.ireturn, 1) := by decide +kernel
set_option maxRecDepth 20000 in
theorem ggX10_reach_X10_laysReach : GoodIn wsX10_reach wsX10_laysReach := goodIn_r _ [5, 6, 7, 8, 9, 10, 11, 12, 4, 13, 14, 15, 16, 17, 18, 19, 20, 21, 22, 23, 24, 25, 26, 27, 28, 29, 30, 31, 32, 33, 34, 35, 36, 37, 38, 39, 40, 41, 42, 43, 44, 45, 46, 47, 48, 49, 50, 51, 52, 53, 54, 55, 56, 57, 58, 59, 60, 61, 62, 63, 64, 65, 66, 67, 68, 69, 70, 71, 72, 73, 74, 75, 76, 77, 78, 79, 80, 81, 82, 83, 84, 85, 86, 87, 88, 89, 90, 91, 92, 93, 94, 95, 96, 97, 98, 99, 100, 101, 102, 103, 104, 105, 106, 107, 108, 109, 110, 111, 112, 113, 114, 115, 116, 117, 118, 119, 120, 121, 122, 123, 124, 125, 126, 127, 128, 129, 130, 131, 132, 133, 134, 135, 136, 137, 138, 139, 140, 141, 142, 143, 144, 145, 146, 147, 148, 149, 150, 151, 152, 153, 154, 155, 156, 157, 158, 159, 160, 161, 162, 163, 164, 165, 166, 167, 168, 169, 170, 171, 172, 173, 174, 175, 176, 177, 178, 179, 180, 181, 182, 183, 184, 185, 186, 187, 188, 189, 190, 191, 192, 193, 194, 195, 196, 197, 198, 199, 200, 201, 202, 203, 204, 205, 206, 207, 208, 209, 210, 211, 212, 213] (by decide +kernel) (by decide +kernel)
set_option maxRecDepth 20000 in
theorem gX10_reach_X10_laysReach : GoodIn wsX10_reach (wsV RX10 442 RX10 yX10_laysReach wsX10_laysReach) := goodIn_app (goodIn_of _ (by decide +kernel)) ggX10_reach_X10_laysReach
theorem dX10_reach_0 : decode cX10_reach 0 = .ok (.aload_n 0, 1) := by decide +kernel
theorem dX10_reach_1 : decode cX10_reach 1 = .ok (.invokevirtual 442, 3) := by decide +kernel
theorem dX10_reach_4 : decode cX10_reach 4 = .ok (.ireturn, 1) := by decide +kernel
set_option maxRecDepth 20000 in
theorem ggX10_isOrder_X10_size : GoodIn wsX10_isOrder wsX10_size := goodIn_r _ [6, 7, 19, 20, 21, 22, 23, 24, 25, 26, 27, 28, 29, 30, 31, 32, 33, 34, 35, 36, 37, 38, 39, 40, 41, 42, 43, 44, 45, 46, 47, 48, 49, 50, 51, 52, 53, 54, 55, 56, 57, 58, 59, 60, 61, 62, 63, 64, 65, 66, 67, 68, 69, 70, 71, 72, 73, 74] (by decide +kernel) (by decide +kernel)
set_option maxRecDepth 20000 in
theorem gX10_isOrder_X10_size : GoodIn wsX10_isOrder (wsV RX10 125 RX10 yX10_size wsX10_size) := goodIn_app (goodIn_of _ (by decide +kernel)) ggX10_isOrder_X10_size
theorem dX10_isOrder_0 : decode cX10_isOrder 0 = .ok (.iload_n 1, 1) := by decide +kernel
theorem dX10_isOrder_1 : decode cX10_isOrder 1 = .ok (.istore_n 2, 1) := by decide +kernel
theorem dX10_isOrder_2 : decode cX10_isOrder 2 = .ok (.iconst 0, 1) := by decide +kernel
theorem dX10_isOrder_3 : decode cX10_isOrder 3 = .ok (.istore_n 3, 1) := by decide +kernel
theorem dX10_isOrder_4 : decode cX10_isOrder 4 = .ok (.iload_n 1, 1) := by decide +kernel
theorem dX10_isOrder_5 : decode cX10_isOrder 5 = .ok (.ifCond .lt 7, 3) := by decide +kernel
theorem dX10_isOrder_8 : decode cX10_isOrder 8 = .ok (.iconst 1, 1) := by decide +kernel
theorem dX10_isOrder_9 : decode cX10_isOrder 9 = .ok (.goto 4, 3) := by decide +kernel
theorem dX10_isOrder_12 : decode cX10_isOrder 12 = .ok (.iconst 0, 1) := by decide +kernel
theorem dX10_isOrder_13 : decode cX10_isOrder 13 = .ok (.istore 4, 2) := by decide +kernel
theorem dX10_isOrder_15 : decode cX10_isOrder 15 = .ok (.aload_n 0, 1) := by decide +kernel
theorem dX10_isOrder_16 : decode cX10_isOrder 16 = .ok (.invokevirtual 125, 3) := by decide +kernel
theorem dX10_isOrder_19 : decode cX10_isOrder 19 = .ok (.iconst 1, 1) := by decide +kernel
theorem dX10_isOrder_20 : decode cX10_isOrder 20 = .ok (.isub, 1) := by decide +kernel
theorem dX10_isOrder_21 : decode cX10_isOrder 21 = .ok (.istore 5, 2) := by decide +kernel
theorem dX10_isOrder_23 : decode cX10_isOrder 23 = .ok (.iload 5, 2) := by decide +kernel
theorem dX10_isOrder_25 : decode cX10_isOrder 25 = .ok (.ifCond .lt 82, 3) := by decide +kernel
theorem dX10_isOrder_107 : decode cX10_isOrder 107 = .ok (.iload 4, 2) := by decide +kernel
theorem dX10_isOrder_109 : decode cX10_isOrder 109 = .ok (.ifCond .eq 11, 3) := by decide +kernel
theorem dX10_isOrder_112 : decode cX10_isOrder 112 = .ok (.iload_n 2, 1) := by decide +kernel
theorem dX10_isOrder_113 : decode cX10_isOrder 113 = .ok (.ifCond .ne 7, 3) := by decide +kernel
theorem dX10_isOrder_116 : decode cX10_isOrder 116 = .ok (.iconst 1, 1) := by decide +kernel
theorem dX10_isOrder_117 : decode cX10_isOrder 117 = .ok (.goto 4, 3) := by decide +kernel
theorem dX10_isOrder_120 : decode cX10_isOrder 120 = .ok (.iconst 0, 1) := by decide +kernel
theorem dX10_isOrder_121 : decode cX10_isOrder 121 = .ok (.ireturn, 1) := by decide +kernel
set_option maxRecDepth 20000 in
theorem ggX10_gaps_X10_size : GoodIn wsX10_gaps wsX10_size := goodIn_r _ [6, 1, 11, 12, 13, 14, 15, 16, 17, 18, 19, 20, 21, 22, 23, 24, 25, 26, 27, 28, 29, 30, 31, 32, 33, 34, 35, 36, 37, 38, 39, 40, 41, 42, 43, 44, 45, 46, 47, 48, 49, 50, 51, 52, 53, 54, 55, 56, 57, 58, 59, 60, 61, 62, 63, 64, 65, 66] (by decide +kernel) (by decide +kernel)
set_option maxRecDepth 20000 in
theorem gX10_gaps_X10_size : GoodIn wsX10_gaps (wsV RX10 125 RX10 yX10_size wsX10_size) := goodIn_app (goodIn_of _ (by decide +kernel)) ggX10_gaps_X10_size
theorem dX10_gaps_0 : decode cX10_gaps 0 = .ok (.aload_n 0, 1) := by decide +kernel
theorem dX10_gaps_1 : decode cX10_gaps 1 = .ok (.invokevirtual 125, 3) := by decide +kernel
theorem dX10_gaps_4 : decode cX10_gaps 4 = .ok (.ifCond .le 33, 3) := by decide +kernel
theorem dX10_gaps_37 : decode cX10_gaps 37 = .ok (.iconst 0, 1) := by decide +kernel
theorem dX10_gaps_38 : decode cX10_gaps 38 = .ok (.istore_n 1, 1) := by decide +kernel
theorem dX10_gaps_39 : decode cX10_gaps 39 = .ok (.iconst 0, 1) := by decide +kernel
theorem dX10_gaps_40 : decode cX10_gaps 40 = .ok (.istore_n 2, 1) := by decide +kernel
theorem dX10_gaps_41 : decode cX10_gaps 41 = .ok (.iload_n 2, 1) := by decide +kernel
theorem dX10_gaps_42 : decode cX10_gaps 42 = .ok (.iconst 1, 1) := by decide +kernel
theorem dX10_gaps_43 : decode cX10_gaps 43 = .ok (.iadd, 1) := by decide +kernel
theorem dX10_gaps_44 : decode cX10_gaps 44 = .ok (.aload_n 0, 1) := by decide +kernel
theorem dX10_gaps_45 : decode cX10_gaps 45 = .ok (.invokevirtual 125, 3) := by decide +kernel
theorem dX10_gaps_48 : decode cX10_gaps 48 = .ok (.if_icmp .ge 55, 3) := by decide +kernel
theorem dX10_gaps_103 : decode cX10_gaps 103 = .ok (.iload_n 1, 1) := by decide +kernel
theorem dX10_gaps_104 : decode cX10_gaps 104 = .ok (.ireturn, 1) := by decide +kernel
