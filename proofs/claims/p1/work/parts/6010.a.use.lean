set_option maxRecDepth 20000 in
theorem ggX10_laysReach_X10_laysPrices : GoodIn wsX10_laysReach wsX10_laysPrices := goodIn_r _ [9, 10, 11, 12, 13, 8, 14, 1, 15, 16, 17, 18, 19, 20, 21, 22, 23, 24, 25, 26, 27, 28, 29, 30, 31, 32, 33, 34, 35, 36, 37, 38, 39, 40, 41, 42, 43, 44, 45, 46, 47, 48, 49, 50, 51, 52, 53, 54, 55, 56, 57, 58, 59, 60, 61, 62, 63, 64, 65, 66, 67, 68, 69, 70, 71, 72, 73, 74, 75, 76, 77, 78, 79, 80, 81, 82, 83, 84, 85, 86, 87, 88, 89, 90, 91, 92, 93, 94, 95, 96, 97, 98, 99, 100, 101, 102, 103, 104, 105, 106, 107, 108, 109, 110, 111, 112, 113, 114, 115, 116, 117, 118, 119, 120, 121, 122, 123, 124, 125, 126, 127, 128, 129, 130, 131, 132, 133, 134, 135, 136, 137, 138, 139, 140, 141, 154, 155, 156, 157, 158, 159, 160, 161, 162, 163, 164, 165, 166, 167, 168, 169, 170, 171, 172, 173, 174, 175, 176, 177, 178, 179, 180, 181, 182, 183, 184, 185, 186, 187, 188, 189, 190, 191, 192, 193, 194, 195, 196, 197, 198, 199, 200, 201, 202, 203, 204, 205, 206, 207, 208, 209] (by decide +kernel) (by decide +kernel)
set_option maxRecDepth 20000 in
theorem gX10_laysReach_X10_laysPrices : GoodIn wsX10_laysReach (wsV RX10 414 RX10 yX10_laysPrices wsX10_laysPrices) := goodIn_app (goodIn_of _ (by decide +kernel)) ggX10_laysReach_X10_laysPrices
set_option maxRecDepth 20000 in
theorem ggX10_laysReach_X10_towerNow : GoodIn wsX10_laysReach wsX10_towerNow := goodIn_r _ [145, 16, 24, 20, 21, 22, 8, 23, 47, 48, 49, 50, 35, 36, 37, 38, 154, 155, 156, 157, 158, 159, 160, 161, 162, 163, 164, 165, 166, 167, 168, 169, 170, 171, 172, 173, 174, 175, 176, 177, 178, 179, 180, 181, 182, 183, 184, 185, 186, 187, 188, 189, 190, 191, 192, 193, 194, 195, 196, 197, 198, 199, 200, 201, 202, 203, 204, 205, 206, 207, 208, 209] (by decide +kernel) (by decide +kernel)
set_option maxRecDepth 20000 in
theorem gX10_laysReach_X10_towerNow : GoodIn wsX10_laysReach (wsV RX10 433 RX10 yX10_towerNow wsX10_towerNow) := goodIn_app (goodIn_of _ (by decide +kernel)) ggX10_laysReach_X10_towerNow
set_option maxRecDepth 20000 in
theorem ggX10_laysReach_X10_size : GoodIn wsX10_laysReach wsX10_size := goodIn_r _ [23, 24, 154, 155, 156, 157, 158, 159, 160, 161, 162, 163, 164, 165, 166, 167, 168, 169, 170, 171, 172, 173, 174, 175, 176, 177, 178, 179, 180, 181, 182, 183, 184, 185, 186, 187, 188, 189, 190, 191, 192, 193, 194, 195, 196, 197, 198, 199, 200, 201, 202, 203, 204, 205, 206, 207, 208, 209] (by decide +kernel) (by decide +kernel)
set_option maxRecDepth 20000 in
theorem gX10_laysReach_X10_size : GoodIn wsX10_laysReach (wsV RX10 125 RX10 yX10_size wsX10_size) := goodIn_app (goodIn_of _ (by decide +kernel)) ggX10_laysReach_X10_size
theorem dX10_laysReach_0 : decode cX10_laysReach 0 = .ok (.aload_n 0, 1) := by decide +kernel
theorem dX10_laysReach_1 : decode cX10_laysReach 1 = .ok (.invokevirtual 414, 3) := by decide +kernel
theorem dX10_laysReach_4 : decode cX10_laysReach 4 = .ok (.iconst 0, 1) := by decide +kernel
theorem dX10_laysReach_5 : decode cX10_laysReach 5 = .ok (.istore_n 1, 1) := by decide +kernel
theorem dX10_laysReach_6 : decode cX10_laysReach 6 = .ok (.iload_n 1, 1) := by decide +kernel
theorem dX10_laysReach_7 : decode cX10_laysReach 7 = .ok (.bipush 64, 2) := by decide +kernel
theorem dX10_laysReach_9 : decode cX10_laysReach 9 = .ok (.aload_n 0, 1) := by decide +kernel
theorem dX10_laysReach_10 : decode cX10_laysReach 10 = .ok (.getfield 386, 3) := by decide +kernel
theorem dX10_laysReach_13 : decode cX10_laysReach 13 = .ok (.imul, 1) := by decide +kernel
theorem dX10_laysReach_14 : decode cX10_laysReach 14 = .ok (.if_icmp .ge 17, 3) := by decide +kernel
theorem dX10_laysReach_17 : decode cX10_laysReach 17 = .ok (.aload_n 0, 1) := by decide +kernel
theorem dX10_laysReach_18 : decode cX10_laysReach 18 = .ok (.getfield 91, 3) := by decide +kernel
theorem dX10_laysReach_21 : decode cX10_laysReach 21 = .ok (.iload_n 1, 1) := by decide +kernel
theorem dX10_laysReach_22 : decode cX10_laysReach 22 = .ok (.ldc 188, 2) := by decide +kernel
theorem dX10_laysReach_24 : decode cX10_laysReach 24 = .ok (.iastore, 1) := by decide +kernel
theorem dX10_laysReach_25 : decode cX10_laysReach 25 = .ok (.iinc 1 1, 3) := by decide +kernel
theorem dX10_laysReach_28 : decode cX10_laysReach 28 = .ok (.goto (-22), 3) := by decide +kernel
theorem dX10_laysReach_31 : decode cX10_laysReach 31 = .ok (.iconst 1, 1) := by decide +kernel
theorem dX10_laysReach_32 : decode cX10_laysReach 32 = .ok (.istore_n 1, 1) := by decide +kernel
theorem dX10_laysReach_33 : decode cX10_laysReach 33 = .ok (.aload_n 0, 1) := by decide +kernel
theorem dX10_laysReach_34 : decode cX10_laysReach 34 = .ok (.getfield 97, 3) := by decide +kernel
theorem dX10_laysReach_37 : decode cX10_laysReach 37 = .ok (.iconst 0, 1) := by decide +kernel
theorem dX10_laysReach_38 : decode cX10_laysReach 38 = .ok (.aload_n 0, 1) := by decide +kernel
theorem dX10_laysReach_39 : decode cX10_laysReach 39 = .ok (.invokevirtual 433, 3) := by decide +kernel
theorem dX10_laysReach_42 : decode cX10_laysReach 42 = .ok (.iastore, 1) := by decide +kernel
theorem dX10_laysReach_43 : decode cX10_laysReach 43 = .ok (.aload_n 0, 1) := by decide +kernel
theorem dX10_laysReach_44 : decode cX10_laysReach 44 = .ok (.getfield 91, 3) := by decide +kernel
theorem dX10_laysReach_47 : decode cX10_laysReach 47 = .ok (.aload_n 0, 1) := by decide +kernel
theorem dX10_laysReach_48 : decode cX10_laysReach 48 = .ok (.getfield 97, 3) := by decide +kernel
theorem dX10_laysReach_51 : decode cX10_laysReach 51 = .ok (.iconst 0, 1) := by decide +kernel
theorem dX10_laysReach_52 : decode cX10_laysReach 52 = .ok (.iaload, 1) := by decide +kernel
theorem dX10_laysReach_53 : decode cX10_laysReach 53 = .ok (.iconst 0, 1) := by decide +kernel
theorem dX10_laysReach_54 : decode cX10_laysReach 54 = .ok (.iastore, 1) := by decide +kernel
theorem dX10_laysReach_55 : decode cX10_laysReach 55 = .ok (.iconst 0, 1) := by decide +kernel
theorem dX10_laysReach_56 : decode cX10_laysReach 56 = .ok (.istore_n 2, 1) := by decide +kernel
theorem dX10_laysReach_57 : decode cX10_laysReach 57 = .ok (.iload_n 2, 1) := by decide +kernel
theorem dX10_laysReach_58 : decode cX10_laysReach 58 = .ok (.iload_n 1, 1) := by decide +kernel
theorem dX10_laysReach_59 : decode cX10_laysReach 59 = .ok (.if_icmp .ge 99, 3) := by decide +kernel
theorem dX10_laysReach_62 : decode cX10_laysReach 62 = .ok (.iconst 1, 1) := by decide +kernel
theorem dX10_laysReach_63 : decode cX10_laysReach 63 = .ok (.istore_n 3, 1) := by decide +kernel
theorem dX10_laysReach_64 : decode cX10_laysReach 64 = .ok (.iload_n 3, 1) := by decide +kernel
theorem dX10_laysReach_65 : decode cX10_laysReach 65 = .ok (.aload_n 0, 1) := by decide +kernel
theorem dX10_laysReach_66 : decode cX10_laysReach 66 = .ok (.invokevirtual 125, 3) := by decide +kernel
theorem dX10_laysReach_69 : decode cX10_laysReach 69 = .ok (.if_icmp .gt 83, 3) := by decide +kernel
theorem dX10_laysReach_152 : decode cX10_laysReach 152 = .ok (.iinc 2 1, 3) := by decide +kernel
theorem dX10_laysReach_155 : decode cX10_laysReach 155 = .ok (.goto (-98), 3) := by decide +kernel
theorem dX10_laysReach_158 : decode cX10_laysReach 158 = .ok (.iload_n 1, 1) := by decide +kernel
theorem dX10_laysReach_159 : decode cX10_laysReach 159 = .ok (.ireturn, 1) := by decide +kernel
