set_option maxRecDepth 20000 in
theorem ggX3_turnsToNumber_X3_numberOfOrder : GoodIn wsX3_turnsToNumber wsX3_numberOfOrder := goodIn_r _ [12, 1, 13, 14, 15, 16, 49, 50, 51, 52, 53, 54, 55, 56, 57, 58, 59, 60, 61, 62, 63, 64, 65, 66, 67, 68] (by decide +kernel) (by decide +kernel)
set_option maxRecDepth 20000 in
theorem gX3_turnsToNumber_X3_numberOfOrder : GoodIn wsX3_turnsToNumber (wsV RX3 96 RX3 yX3_numberOfOrder wsX3_numberOfOrder) := goodIn_app (goodIn_of _ (by decide +kernel)) ggX3_turnsToNumber_X3_numberOfOrder
set_option maxRecDepth 20000 in
theorem ggX3_turnsToNumber_X3_nearest : GoodIn wsX3_turnsToNumber wsX3_nearest := goodIn_r _ [20, 21, 22, 23, 24, 25, 2, 26, 27, 28, 29, 30, 31, 32, 33, 6, 34, 35, 36, 37, 38, 39, 40, 41, 42, 43, 44, 45, 46, 47, 48, 49, 50, 51, 52, 53, 54, 55, 56, 57, 58, 59, 60, 61, 62, 63, 64, 65, 66, 67, 68] (by decide +kernel) (by decide +kernel)
set_option maxRecDepth 20000 in
theorem gX3_turnsToNumber_X3_nearest : GoodIn wsX3_turnsToNumber (wsV RX3 137 RX3 yX3_nearest wsX3_nearest) := goodIn_app (goodIn_of _ (by decide +kernel)) ggX3_turnsToNumber_X3_nearest
theorem dX3_turnsToNumber_0 : decode cX3_turnsToNumber 0 = .ok (.iload_n 1, 1) := by decide +kernel
theorem dX3_turnsToNumber_1 : decode cX3_turnsToNumber 1 = .ok (.ifCond .ge 5, 3) := by decide +kernel
theorem dX3_turnsToNumber_4 : decode cX3_turnsToNumber 4 = .ok (.iconst (-1), 1) := by decide +kernel
theorem dX3_turnsToNumber_5 : decode cX3_turnsToNumber 5 = .ok (.ireturn, 1) := by decide +kernel
theorem dX3_turnsToNumber_6 : decode cX3_turnsToNumber 6 = .ok (.iload_n 1, 1) := by decide +kernel
theorem dX3_turnsToNumber_7 : decode cX3_turnsToNumber 7 = .ok (.istore_n 2, 1) := by decide +kernel
theorem dX3_turnsToNumber_8 : decode cX3_turnsToNumber 8 = .ok (.iconst 0, 1) := by decide +kernel
theorem dX3_turnsToNumber_9 : decode cX3_turnsToNumber 9 = .ok (.istore_n 3, 1) := by decide +kernel
theorem dX3_turnsToNumber_10 : decode cX3_turnsToNumber 10 = .ok (.iconst 5, 1) := by decide +kernel
theorem dX3_turnsToNumber_11 : decode cX3_turnsToNumber 11 = .ok (.istore 4, 2) := by decide +kernel
theorem dX3_turnsToNumber_13 : decode cX3_turnsToNumber 13 = .ok (.iload 4, 2) := by decide +kernel
theorem dX3_turnsToNumber_15 : decode cX3_turnsToNumber 15 = .ok (.ifCond .lt 74, 3) := by decide +kernel
theorem dX3_turnsToNumber_18 : decode cX3_turnsToNumber 18 = .ok (.aload_n 0, 1) := by decide +kernel
theorem dX3_turnsToNumber_19 : decode cX3_turnsToNumber 19 = .ok (.getfield 15, 3) := by decide +kernel
theorem dX3_turnsToNumber_22 : decode cX3_turnsToNumber 22 = .ok (.iload 4, 2) := by decide +kernel
theorem dX3_turnsToNumber_24 : decode cX3_turnsToNumber 24 = .ok (.iload 4, 2) := by decide +kernel
theorem dX3_turnsToNumber_26 : decode cX3_turnsToNumber 26 = .ok (.iastore, 1) := by decide +kernel
theorem dX3_turnsToNumber_27 : decode cX3_turnsToNumber 27 = .ok (.iload 4, 2) := by decide +kernel
theorem dX3_turnsToNumber_29 : decode cX3_turnsToNumber 29 = .ok (.aload_n 0, 1) := by decide +kernel
theorem dX3_turnsToNumber_30 : decode cX3_turnsToNumber 30 = .ok (.getfield 51, 3) := by decide +kernel
theorem dX3_turnsToNumber_33 : decode cX3_turnsToNumber 33 = .ok (.if_icmp .ge 50, 3) := by decide +kernel
theorem dX3_turnsToNumber_83 : decode cX3_turnsToNumber 83 = .ok (.iinc 4 (-1), 3) := by decide +kernel
theorem dX3_turnsToNumber_86 : decode cX3_turnsToNumber 86 = .ok (.goto (-73), 3) := by decide +kernel
theorem dX3_turnsToNumber_89 : decode cX3_turnsToNumber 89 = .ok (.iload_n 2, 1) := by decide +kernel
theorem dX3_turnsToNumber_90 : decode cX3_turnsToNumber 90 = .ok (.ifCond .ne 15, 3) := by decide +kernel
theorem dX3_turnsToNumber_93 : decode cX3_turnsToNumber 93 = .ok (.iload_n 3, 1) := by decide +kernel
theorem dX3_turnsToNumber_94 : decode cX3_turnsToNumber 94 = .ok (.iconst 1, 1) := by decide +kernel
theorem dX3_turnsToNumber_95 : decode cX3_turnsToNumber 95 = .ok (.aload_n 0, 1) := by decide +kernel
theorem dX3_turnsToNumber_96 : decode cX3_turnsToNumber 96 = .ok (.getfield 51, 3) := by decide +kernel
theorem dX3_turnsToNumber_99 : decode cX3_turnsToNumber 99 = .ok (.ishl, 1) := by decide +kernel
theorem dX3_turnsToNumber_100 : decode cX3_turnsToNumber 100 = .ok (.iconst 1, 1) := by decide +kernel
theorem dX3_turnsToNumber_101 : decode cX3_turnsToNumber 101 = .ok (.isub, 1) := by decide +kernel
theorem dX3_turnsToNumber_102 : decode cX3_turnsToNumber 102 = .ok (.if_icmp .eq 5, 3) := by decide +kernel
theorem dX3_turnsToNumber_105 : decode cX3_turnsToNumber 105 = .ok (.iconst (-1), 1) := by decide +kernel
theorem dX3_turnsToNumber_106 : decode cX3_turnsToNumber 106 = .ok (.ireturn, 1) := by decide +kernel
theorem dX3_turnsToNumber_107 : decode cX3_turnsToNumber 107 = .ok (.aload_n 0, 1) := by decide +kernel
theorem dX3_turnsToNumber_108 : decode cX3_turnsToNumber 108 = .ok (.iconst 1, 1) := by decide +kernel
theorem dX3_turnsToNumber_109 : decode cX3_turnsToNumber 109 = .ok (.aload_n 0, 1) := by decide +kernel
theorem dX3_turnsToNumber_110 : decode cX3_turnsToNumber 110 = .ok (.invokevirtual 96, 3) := by decide +kernel
theorem dX3_turnsToNumber_113 : decode cX3_turnsToNumber 113 = .ok (.invokevirtual 137, 3) := by decide +kernel
theorem dX3_turnsToNumber_116 : decode cX3_turnsToNumber 116 = .ok (.ireturn, 1) := by decide +kernel
theorem dX3_nearest_70 : decode cX3_nearest 70 = .ok (.aload_n 0, 1) := by decide +kernel
theorem dX3_nearest_71 : decode cX3_nearest 71 = .ok (.getfield 42, 3) := by decide +kernel
theorem dX3_nearest_74 : decode cX3_nearest 74 = .ok (.iload 4, 2) := by decide +kernel
theorem dX3_nearest_76 : decode cX3_nearest 76 = .ok (.iaload, 1) := by decide +kernel
theorem dX3_nearest_77 : decode cX3_nearest 77 = .ok (.ireturn, 1) := by decide +kernel
theorem dX3_fits_13 : decode cX3_fits 13 = .ok (.iload 4, 2) := by decide +kernel
theorem dX3_fits_15 : decode cX3_fits 15 = .ok (.iload_n 3, 1) := by decide +kernel
theorem dX3_fits_16 : decode cX3_fits 16 = .ok (.if_icmp .ne 7, 3) := by decide +kernel
theorem dX3_fits_19 : decode cX3_fits 19 = .ok (.iconst 1, 1) := by decide +kernel
theorem dX3_fits_20 : decode cX3_fits 20 = .ok (.goto 4, 3) := by decide +kernel
theorem dX3_fits_24 : decode cX3_fits 24 = .ok (.ireturn, 1) := by decide +kernel
theorem dX8_gapCount_0 : decode cX8_gapCount 0 = .ok (.iconst 0, 1) := by decide +kernel
theorem dX8_gapCount_1 : decode cX8_gapCount 1 = .ok (.istore_n 1, 1) := by decide +kernel
theorem dX8_gapCount_2 : decode cX8_gapCount 2 = .ok (.iconst 0, 1) := by decide +kernel
theorem dX8_gapCount_3 : decode cX8_gapCount 3 = .ok (.istore_n 2, 1) := by decide +kernel
theorem dX8_gapCount_4 : decode cX8_gapCount 4 = .ok (.iload_n 2, 1) := by decide +kernel
theorem dX8_gapCount_5 : decode cX8_gapCount 5 = .ok (.iconst 1, 1) := by decide +kernel
theorem dX8_gapCount_6 : decode cX8_gapCount 6 = .ok (.iadd, 1) := by decide +kernel
theorem dX8_gapCount_7 : decode cX8_gapCount 7 = .ok (.aload_n 0, 1) := by decide +kernel
theorem dX8_gapCount_8 : decode cX8_gapCount 8 = .ok (.getfield 18, 3) := by decide +kernel
theorem dX8_gapCount_11 : decode cX8_gapCount 11 = .ok (.if_icmp .ge 53, 3) := by decide +kernel
theorem dX8_gapCount_64 : decode cX8_gapCount 64 = .ok (.aload_n 0, 1) := by decide +kernel
theorem dX8_gapCount_65 : decode cX8_gapCount 65 = .ok (.getfield 18, 3) := by decide +kernel
theorem dX8_gapCount_68 : decode cX8_gapCount 68 = .ok (.ifCond .ne 7, 3) := by decide +kernel
theorem dX8_gapCount_71 : decode cX8_gapCount 71 = .ok (.iconst 0, 1) := by decide +kernel
theorem dX8_gapCount_72 : decode cX8_gapCount 72 = .ok (.goto 25, 3) := by decide +kernel
theorem dX8_gapCount_97 : decode cX8_gapCount 97 = .ok (.ireturn, 1) := by decide +kernel
set_option maxRecDepth 20000 in
theorem ggX9_reach_X9_seated : GoodIn wsX9_reach wsX9_seated := goodIn_r _ [6, 7, 8, 9, 10, 11, 12, 13, 14, 15, 16, 17, 18, 19, 20, 21, 22, 23, 24, 25, 26, 157, 158, 159, 160, 161, 162, 163, 164, 165, 166, 167, 168, 169, 170, 171, 172, 173, 174, 175, 176, 177, 178, 179, 180, 181, 182, 183, 184, 185, 186, 187, 188] (by decide +kernel) (by decide +kernel)
set_option maxRecDepth 20000 in
theorem gX9_reach_X9_seated : GoodIn wsX9_reach (wsV RX9 144 RX9 yX9_seated wsX9_seated) := goodIn_app (goodIn_of _ (by decide +kernel)) ggX9_reach_X9_seated
set_option maxRecDepth 20000 in
theorem ggX9_reach_X9_spread : GoodIn wsX9_reach wsX9_spread := goodIn_r _ [30, 1, 8, 31, 32, 33, 34, 35, 36, 37, 38, 39, 40, 41, 42, 43, 44, 45, 46, 47, 48, 49, 50, 51, 52, 53, 54, 55, 56, 57, 58, 59, 60, 61, 62, 63, 64, 65, 66, 67, 68, 5, 69, 70, 71, 72, 73, 74, 75, 76, 77, 78, 79, 80, 81, 82, 83, 84, 85, 86, 87, 88, 89, 90, 91, 92, 93, 94, 95, 96, 97, 98, 99, 100, 23, 101, 26, 102, 103, 104, 105, 106, 107, 108, 109, 25, 110, 111, 112, 113, 114, 115, 116, 117, 118, 119, 120, 121, 122, 123, 124, 125, 126, 127, 128, 129, 130, 131, 132, 133, 134, 135, 157, 158, 159, 160, 161, 162, 163, 164, 165, 166, 167, 168, 169, 170, 171, 172, 173, 174, 175, 176, 177, 178, 179, 180, 181, 182, 183, 184, 185, 189, 190, 191, 192, 193, 194, 195, 196, 197, 198, 199, 200, 201, 202, 203, 204, 205, 206, 207, 208, 209, 210, 211, 212, 213, 186, 187, 188, 214, 215, 216, 217, 218, 219, 220, 221, 222, 223] (by decide +kernel) (by decide +kernel)
set_option maxRecDepth 20000 in
theorem gX9_reach_X9_spread : GoodIn wsX9_reach (wsV RX9 226 RX9 yX9_spread wsX9_spread) := goodIn_app (goodIn_of _ (by decide +kernel)) ggX9_reach_X9_spread
set_option maxRecDepth 20000 in
theorem ggX9_reach_X3_towersReached : GoodIn wsX9_reach wsX3_towersReached := goodIn_r _ [139, 140, 141, 142, 143, 34, 144, 53, 47, 54, 39, 36, 92, 94, 95, 96, 97, 145, 146, 147, 148, 56, 149, 150, 151, 152, 57, 58, 153, 154, 155, 156, 133, 134, 135, 194, 195, 196, 197, 198, 199, 200, 201, 202, 203, 204, 205, 206, 207, 208, 209, 210, 211, 212, 213] (by decide +kernel) (by decide +kernel)
set_option maxRecDepth 20000 in
theorem gX9_reach_X3_towersReached : GoodIn wsX9_reach (wsV RX9 250 RX3 yX3_towersReached wsX3_towersReached) := goodIn_app (goodIn_of _ (by decide +kernel)) ggX9_reach_X3_towersReached
theorem dX9_reach_0 : decode cX9_reach 0 = .ok (.aload_n 0, 1) := by decide +kernel
theorem dX9_reach_1 : decode cX9_reach 1 = .ok (.aload_n 0, 1) := by decide +kernel
theorem dX9_reach_2 : decode cX9_reach 2 = .ok (.invokevirtual 144, 3) := by decide +kernel
theorem dX9_reach_5 : decode cX9_reach 5 = .ok (.invokevirtual 226, 3) := by decide +kernel
theorem dX9_reach_8 : decode cX9_reach 8 = .ok (.aload_n 0, 1) := by decide +kernel
theorem dX9_reach_9 : decode cX9_reach 9 = .ok (.getfield 80, 3) := by decide +kernel
theorem dX9_reach_12 : decode cX9_reach 12 = .ok (.invokevirtual 250, 3) := by decide +kernel
theorem dX9_reach_15 : decode cX9_reach 15 = .ok (.ireturn, 1) := by decide +kernel
set_option maxRecDepth 20000 in
theorem ggX9_gaps_X8_gapCount : GoodIn wsX9_gaps wsX8_gapCount := goodIn_r _ [6, 7, 8, 9, 10, 11, 12, 13, 14, 15, 16, 17, 18, 5, 19, 20, 21, 22, 52, 53, 54, 55, 56] (by decide +kernel) (by decide +kernel)
set_option maxRecDepth 20000 in
theorem gX9_gaps_X8_gapCount : GoodIn wsX9_gaps (wsV RX9 253 RX8 yX8_gapCount wsX8_gapCount) := goodIn_app (goodIn_of _ (by decide +kernel)) ggX9_gaps_X8_gapCount
theorem dX9_gaps_0 : decode cX9_gaps 0 = .ok (.aload_n 0, 1) := by decide +kernel
theorem dX9_gaps_1 : decode cX9_gaps 1 = .ok (.getfield 10, 3) := by decide +kernel
theorem dX9_gaps_4 : decode cX9_gaps 4 = .ok (.getfield 122, 3) := by decide +kernel
theorem dX9_gaps_7 : decode cX9_gaps 7 = .ok (.invokevirtual 253, 3) := by decide +kernel
theorem dX9_gaps_10 : decode cX9_gaps 10 = .ok (.ireturn, 1) := by decide +kernel
