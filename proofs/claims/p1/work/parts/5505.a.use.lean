set_option maxRecDepth 20000 in
theorem ggX3_worstTowers_X3_measure : GoodIn wsX3_worstTowers wsX3_measure := goodIn_r _ [7, 8, 9, 10, 11, 2, 1, 12, 13, 14, 15, 16, 17, 18, 19, 20, 21, 6, 22, 23, 24, 25, 26, 27, 28, 29, 30, 31, 32, 33, 34, 35, 36, 37, 38, 39, 40, 41, 42, 43, 44, 48, 49, 50, 51, 52, 53, 54, 55, 56, 57, 58, 59, 60, 61, 62, 63, 64, 65, 66, 67] rfl (by decide +kernel)
set_option maxRecDepth 20000 in
theorem gX3_worstTowers_X3_measure : GoodIn wsX3_worstTowers (wsV RX3 113 RX3 yX3_measure wsX3_measure) := goodIn_app (goodIn_of _ (by decide +kernel)) ggX3_worstTowers_X3_measure
set_option maxRecDepth 20000 in
theorem ggX3_worstTowers_X9_bit : GoodIn wsX3_worstTowers wsX9_bit := goodIn_r _ [47] rfl (by decide +kernel)
set_option maxRecDepth 20000 in
theorem gX3_worstTowers_X9_bit_n133 : GoodIn wsX3_worstTowers (wsX9_bit) := ggX3_worstTowers_X9_bit
theorem dX3_worstTowers_0 : decode cX3_worstTowers 0 = .ok (.aload_n 0, 1) := by decide +kernel
theorem dX3_worstTowers_1 : decode cX3_worstTowers 1 = .ok (.invokevirtual 113, 3) := by decide +kernel
theorem dX3_worstTowers_4 : decode cX3_worstTowers 4 = .ok (.iconst 0, 1) := by decide +kernel
theorem dX3_worstTowers_5 : decode cX3_worstTowers 5 = .ok (.istore_n 2, 1) := by decide +kernel
theorem dX3_worstTowers_6 : decode cX3_worstTowers 6 = .ok (.iconst 0, 1) := by decide +kernel
theorem dX3_worstTowers_7 : decode cX3_worstTowers 7 = .ok (.istore_n 3, 1) := by decide +kernel
theorem dX3_worstTowers_8 : decode cX3_worstTowers 8 = .ok (.iconst 0, 1) := by decide +kernel
theorem dX3_worstTowers_9 : decode cX3_worstTowers 9 = .ok (.istore 4, 2) := by decide +kernel
theorem dX3_worstTowers_11 : decode cX3_worstTowers 11 = .ok (.iconst 0, 1) := by decide +kernel
theorem dX3_worstTowers_12 : decode cX3_worstTowers 12 = .ok (.istore 5, 2) := by decide +kernel
theorem dX3_worstTowers_14 : decode cX3_worstTowers 14 = .ok (.iload 5, 2) := by decide +kernel
theorem dX3_worstTowers_16 : decode cX3_worstTowers 16 = .ok (.aload_n 0, 1) := by decide +kernel
theorem dX3_worstTowers_17 : decode cX3_worstTowers 17 = .ok (.getfield 55, 3) := by decide +kernel
theorem dX3_worstTowers_20 : decode cX3_worstTowers 20 = .ok (.if_icmp .ge 65, 3) := by decide +kernel
theorem dX3_worstTowers_23 : decode cX3_worstTowers 23 = .ok (.aload_n 0, 1) := by decide +kernel
theorem dX3_worstTowers_24 : decode cX3_worstTowers 24 = .ok (.getfield 39, 3) := by decide +kernel
theorem dX3_worstTowers_27 : decode cX3_worstTowers 27 = .ok (.iload 5, 2) := by decide +kernel
theorem dX3_worstTowers_29 : decode cX3_worstTowers 29 = .ok (.iaload, 1) := by decide +kernel
theorem dX3_worstTowers_30 : decode cX3_worstTowers 30 = .ok (.istore 6, 2) := by decide +kernel
theorem dX3_worstTowers_32 : decode cX3_worstTowers 32 = .ok (.iload 6, 2) := by decide +kernel
theorem dX3_worstTowers_34 : decode cX3_worstTowers 34 = .ok (.iload_n 2, 1) := by decide +kernel
theorem dX3_worstTowers_35 : decode cX3_worstTowers 35 = .ok (.if_icmp .le 8, 3) := by decide +kernel
theorem dX3_worstTowers_43 : decode cX3_worstTowers 43 = .ok (.iload_n 3, 1) := by decide +kernel
theorem dX3_worstTowers_44 : decode cX3_worstTowers 44 = .ok (.iload 6, 2) := by decide +kernel
theorem dX3_worstTowers_46 : decode cX3_worstTowers 46 = .ok (.iload_n 2, 1) := by decide +kernel
theorem dX3_worstTowers_47 : decode cX3_worstTowers 47 = .ok (.if_icmp .ne 7, 3) := by decide +kernel
theorem dX3_worstTowers_50 : decode cX3_worstTowers 50 = .ok (.iconst 1, 1) := by decide +kernel
theorem dX3_worstTowers_51 : decode cX3_worstTowers 51 = .ok (.goto 4, 3) := by decide +kernel
theorem dX3_worstTowers_55 : decode cX3_worstTowers 55 = .ok (.invokestatic 133, 3) := by decide +kernel
theorem dX3_worstTowers_58 : decode cX3_worstTowers 58 = .ok (.iadd, 1) := by decide +kernel
theorem dX3_worstTowers_59 : decode cX3_worstTowers 59 = .ok (.istore_n 3, 1) := by decide +kernel
theorem dX3_worstTowers_60 : decode cX3_worstTowers 60 = .ok (.iload 4, 2) := by decide +kernel
theorem dX3_worstTowers_62 : decode cX3_worstTowers 62 = .ok (.iload 6, 2) := by decide +kernel
theorem dX3_worstTowers_64 : decode cX3_worstTowers 64 = .ok (.iconst (-1), 1) := by decide +kernel
theorem dX3_worstTowers_65 : decode cX3_worstTowers 65 = .ok (.if_icmp .eq 7, 3) := by decide +kernel
theorem dX3_worstTowers_68 : decode cX3_worstTowers 68 = .ok (.iconst 1, 1) := by decide +kernel
theorem dX3_worstTowers_69 : decode cX3_worstTowers 69 = .ok (.goto 4, 3) := by decide +kernel
theorem dX3_worstTowers_73 : decode cX3_worstTowers 73 = .ok (.invokestatic 133, 3) := by decide +kernel
theorem dX3_worstTowers_76 : decode cX3_worstTowers 76 = .ok (.iadd, 1) := by decide +kernel
theorem dX3_worstTowers_77 : decode cX3_worstTowers 77 = .ok (.istore 4, 2) := by decide +kernel
theorem dX3_worstTowers_79 : decode cX3_worstTowers 79 = .ok (.iinc 5 1, 3) := by decide +kernel
theorem dX3_worstTowers_82 : decode cX3_worstTowers 82 = .ok (.goto (-68), 3) := by decide +kernel
theorem dX3_worstTowers_85 : decode cX3_worstTowers 85 = .ok (.iload_n 1, 1) := by decide +kernel
theorem dX3_worstTowers_86 : decode cX3_worstTowers 86 = .ok (.ifCond .ne 5, 3) := by decide +kernel
theorem dX3_worstTowers_89 : decode cX3_worstTowers 89 = .ok (.iload_n 2, 1) := by decide +kernel
theorem dX3_worstTowers_90 : decode cX3_worstTowers 90 = .ok (.ireturn, 1) := by decide +kernel
theorem dX3_worstTowers_91 : decode cX3_worstTowers 91 = .ok (.iload_n 1, 1) := by decide +kernel
theorem dX3_worstTowers_92 : decode cX3_worstTowers 92 = .ok (.iconst 1, 1) := by decide +kernel
theorem dX3_worstTowers_93 : decode cX3_worstTowers 93 = .ok (.if_icmp .ne 7, 3) := by decide +kernel
theorem dX3_worstTowers_96 : decode cX3_worstTowers 96 = .ok (.iload_n 3, 1) := by decide +kernel
theorem dX3_worstTowers_97 : decode cX3_worstTowers 97 = .ok (.goto 5, 3) := by decide +kernel
theorem dX3_worstTowers_100 : decode cX3_worstTowers 100 = .ok (.iload 4, 2) := by decide +kernel
theorem dX3_worstTowers_102 : decode cX3_worstTowers 102 = .ok (.ireturn, 1) := by decide +kernel
set_option maxRecDepth 20000 in
theorem ggX3_towersReached_X3_nearest : GoodIn wsX3_towersReached wsX3_nearest := goodIn_r _ [6, 7, 8, 9, 1, 10, 11, 12, 13, 14, 15, 16, 17, 18, 19, 5, 20, 21, 22, 23, 24, 25, 26, 27, 28, 29, 30, 31, 32, 33, 34, 35, 36, 37, 38, 39, 40, 41, 42, 43, 44, 45, 46, 47, 48, 49, 50, 51, 52, 53, 54] rfl (by decide +kernel)
set_option maxRecDepth 20000 in
theorem gX3_towersReached_X3_nearest : GoodIn wsX3_towersReached (wsV RX3 137 RX3 yX3_nearest wsX3_nearest) := goodIn_app (goodIn_of _ (by decide +kernel)) ggX3_towersReached_X3_nearest
theorem dX3_towersReached_0 : decode cX3_towersReached 0 = .ok (.aload_n 0, 1) := by decide +kernel
theorem dX3_towersReached_1 : decode cX3_towersReached 1 = .ok (.iconst 0, 1) := by decide +kernel
theorem dX3_towersReached_2 : decode cX3_towersReached 2 = .ok (.iconst 0, 1) := by decide +kernel
theorem dX3_towersReached_3 : decode cX3_towersReached 3 = .ok (.invokevirtual 137, 3) := by decide +kernel
theorem dX3_towersReached_6 : decode cX3_towersReached 6 = .ok (.pop, 1) := by decide +kernel
theorem dX3_towersReached_7 : decode cX3_towersReached 7 = .ok (.aload_n 0, 1) := by decide +kernel
theorem dX3_towersReached_8 : decode cX3_towersReached 8 = .ok (.getfield 70, 3) := by decide +kernel
theorem dX3_towersReached_11 : decode cX3_towersReached 11 = .ok (.ireturn, 1) := by decide +kernel
set_option maxRecDepth 20000 in
theorem ggX3_nearest_J7_fill_53178 : GoodIn wsX3_nearest wsJ7_fill_53178 := goodIn_r _ [11] rfl (by decide +kernel)
set_option maxRecDepth 20000 in
theorem gX3_nearest_J7_fill_53178 : GoodIn wsX3_nearest (va_wsS RX3 122 yJ7_fill_53178 wsJ7_fill_53178) := goodIn_app (goodIn_of _ (by decide +kernel)) ggX3_nearest_J7_fill_53178
set_option maxRecDepth 20000 in
theorem ggX3_nearest_X3_fits : GoodIn wsX3_nearest wsX3_fits := goodIn_r _ [16, 6, 17, 31, 32, 33, 34, 35, 36, 37, 38, 39, 40, 41, 42, 43, 44, 45, 46, 47, 48, 49, 50] rfl (by decide +kernel)
set_option maxRecDepth 20000 in
theorem gX3_nearest_X3_fits : GoodIn wsX3_nearest (wsV RX3 157 RX3 yX3_fits wsX3_fits) := goodIn_app (goodIn_of _ (by decide +kernel)) ggX3_nearest_X3_fits
theorem dX3_nearest_0 : decode cX3_nearest 0 = .ok (.aload_n 0, 1) := by decide +kernel
theorem dX3_nearest_1 : decode cX3_nearest 1 = .ok (.getfield 42, 3) := by decide +kernel
theorem dX3_nearest_4 : decode cX3_nearest 4 = .ok (.iconst (-1), 1) := by decide +kernel
theorem dX3_nearest_5 : decode cX3_nearest 5 = .ok (.invokestatic 122, 3) := by decide +kernel
theorem dX3_nearest_8 : decode cX3_nearest 8 = .ok (.aload_n 0, 1) := by decide +kernel
theorem dX3_nearest_9 : decode cX3_nearest 9 = .ok (.getfield 42, 3) := by decide +kernel
theorem dX3_nearest_12 : decode cX3_nearest 12 = .ok (.aload_n 0, 1) := by decide +kernel
theorem dX3_nearest_13 : decode cX3_nearest 13 = .ok (.getfield 58, 3) := by decide +kernel
theorem dX3_nearest_16 : decode cX3_nearest 16 = .ok (.iconst 0, 1) := by decide +kernel
theorem dX3_nearest_17 : decode cX3_nearest 17 = .ok (.iastore, 1) := by decide +kernel
theorem dX3_nearest_18 : decode cX3_nearest 18 = .ok (.aload_n 0, 1) := by decide +kernel
theorem dX3_nearest_19 : decode cX3_nearest 19 = .ok (.getfield 45, 3) := by decide +kernel
theorem dX3_nearest_22 : decode cX3_nearest 22 = .ok (.iconst 0, 1) := by decide +kernel
theorem dX3_nearest_23 : decode cX3_nearest 23 = .ok (.aload_n 0, 1) := by decide +kernel
theorem dX3_nearest_24 : decode cX3_nearest 24 = .ok (.getfield 58, 3) := by decide +kernel
theorem dX3_nearest_27 : decode cX3_nearest 27 = .ok (.iastore, 1) := by decide +kernel
theorem dX3_nearest_28 : decode cX3_nearest 28 = .ok (.aload_n 0, 1) := by decide +kernel
theorem dX3_nearest_29 : decode cX3_nearest 29 = .ok (.iconst 1, 1) := by decide +kernel
theorem dX3_nearest_30 : decode cX3_nearest 30 = .ok (.putfield 70, 3) := by decide +kernel
theorem dX3_nearest_33 : decode cX3_nearest 33 = .ok (.iconst 0, 1) := by decide +kernel
theorem dX3_nearest_34 : decode cX3_nearest 34 = .ok (.istore_n 3, 1) := by decide +kernel
theorem dX3_nearest_35 : decode cX3_nearest 35 = .ok (.iload_n 3, 1) := by decide +kernel
theorem dX3_nearest_36 : decode cX3_nearest 36 = .ok (.aload_n 0, 1) := by decide +kernel
theorem dX3_nearest_37 : decode cX3_nearest 37 = .ok (.getfield 55, 3) := by decide +kernel
theorem dX3_nearest_40 : decode cX3_nearest 40 = .ok (.if_icmp .ge 147, 3) := by decide +kernel
theorem dX3_nearest_43 : decode cX3_nearest 43 = .ok (.iload_n 3, 1) := by decide +kernel
theorem dX3_nearest_44 : decode cX3_nearest 44 = .ok (.aload_n 0, 1) := by decide +kernel
theorem dX3_nearest_45 : decode cX3_nearest 45 = .ok (.getfield 70, 3) := by decide +kernel
theorem dX3_nearest_48 : decode cX3_nearest 48 = .ok (.if_icmp .ge 139, 3) := by decide +kernel
theorem dX3_nearest_51 : decode cX3_nearest 51 = .ok (.aload_n 0, 1) := by decide +kernel
theorem dX3_nearest_52 : decode cX3_nearest 52 = .ok (.getfield 45, 3) := by decide +kernel
theorem dX3_nearest_55 : decode cX3_nearest 55 = .ok (.iload_n 3, 1) := by decide +kernel
theorem dX3_nearest_56 : decode cX3_nearest 56 = .ok (.iaload, 1) := by decide +kernel
theorem dX3_nearest_57 : decode cX3_nearest 57 = .ok (.istore 4, 2) := by decide +kernel
theorem dX3_nearest_59 : decode cX3_nearest 59 = .ok (.aload_n 0, 1) := by decide +kernel
theorem dX3_nearest_60 : decode cX3_nearest 60 = .ok (.iload 4, 2) := by decide +kernel
theorem dX3_nearest_62 : decode cX3_nearest 62 = .ok (.iload_n 1, 1) := by decide +kernel
theorem dX3_nearest_63 : decode cX3_nearest 63 = .ok (.iload_n 2, 1) := by decide +kernel
theorem dX3_nearest_64 : decode cX3_nearest 64 = .ok (.invokevirtual 157, 3) := by decide +kernel
theorem dX3_nearest_67 : decode cX3_nearest 67 = .ok (.ifCond .eq 11, 3) := by decide +kernel
theorem dX3_nearest_78 : decode cX3_nearest 78 = .ok (.iconst 1, 1) := by decide +kernel
theorem dX3_nearest_79 : decode cX3_nearest 79 = .ok (.istore 5, 2) := by decide +kernel
theorem dX3_nearest_81 : decode cX3_nearest 81 = .ok (.iload 5, 2) := by decide +kernel
theorem dX3_nearest_83 : decode cX3_nearest 83 = .ok (.aload_n 0, 1) := by decide +kernel
theorem dX3_nearest_84 : decode cX3_nearest 84 = .ok (.getfield 51, 3) := by decide +kernel
theorem dX3_nearest_87 : decode cX3_nearest 87 = .ok (.if_icmp .gt 94, 3) := by decide +kernel
theorem dX3_nearest_181 : decode cX3_nearest 181 = .ok (.iinc 3 1, 3) := by decide +kernel
theorem dX3_nearest_184 : decode cX3_nearest 184 = .ok (.goto (-149), 3) := by decide +kernel
theorem dX3_nearest_187 : decode cX3_nearest 187 = .ok (.iconst (-1), 1) := by decide +kernel
theorem dX3_nearest_188 : decode cX3_nearest 188 = .ok (.ireturn, 1) := by decide +kernel
theorem dX3_fits_0 : decode cX3_fits 0 = .ok (.iload_n 1, 1) := by decide +kernel
theorem dX3_fits_1 : decode cX3_fits 1 = .ok (.aload_n 0, 1) := by decide +kernel
theorem dX3_fits_2 : decode cX3_fits 2 = .ok (.getfield 51, 3) := by decide +kernel
theorem dX3_fits_5 : decode cX3_fits 5 = .ok (.ishr, 1) := by decide +kernel
theorem dX3_fits_6 : decode cX3_fits 6 = .ok (.istore 4, 2) := by decide +kernel
theorem dX3_fits_8 : decode cX3_fits 8 = .ok (.iload_n 2, 1) := by decide +kernel
theorem dX3_fits_9 : decode cX3_fits 9 = .ok (.iconst 1, 1) := by decide +kernel
theorem dX3_fits_10 : decode cX3_fits 10 = .ok (.if_icmp .ne 15, 3) := by decide +kernel
theorem dX3_fits_13 : decode cX3_fits 13 = .ok (.iload 4, 2) := by decide +kernel
theorem dX3_fits_15 : decode cX3_fits 15 = .ok (.iload_n 3, 1) := by decide +kernel
theorem dX3_fits_16 : decode cX3_fits 16 = .ok (.if_icmp .ne 7, 3) := by decide +kernel
theorem dX3_fits_19 : decode cX3_fits 19 = .ok (.iconst 1, 1) := by decide +kernel
theorem dX3_fits_20 : decode cX3_fits 20 = .ok (.goto 4, 3) := by decide +kernel
theorem dX3_fits_24 : decode cX3_fits 24 = .ok (.ireturn, 1) := by decide +kernel
theorem dX3_fits_25 : decode cX3_fits 25 = .ok (.iload_n 2, 1) := by decide +kernel
theorem dX3_fits_26 : decode cX3_fits 26 = .ok (.iconst 2, 1) := by decide +kernel
theorem dX3_fits_27 : decode cX3_fits 27 = .ok (.if_icmp .ne 21, 3) := by decide +kernel
theorem dX3_fits_48 : decode cX3_fits 48 = .ok (.iconst 0, 1) := by decide +kernel
theorem dX3_fits_49 : decode cX3_fits 49 = .ok (.ireturn, 1) := by decide +kernel
theorem dX8_gapCount_0 : decode cX8_gapCount 0 = .ok (.iconst 0, 1) := by decide +kernel
theorem dX8_gapCount_1 : decode cX8_gapCount 1 = .ok (.istore_n 1, 1) := by decide +kernel
theorem dX8_gapCount_2 : decode cX8_gapCount 2 = .ok (.iconst 0, 1) := by decide +kernel
theorem dX8_gapCount_3 : decode cX8_gapCount 3 = .ok (.istore_n 2, 1) := by decide +kernel
theorem dX8_gapCount_4 : decode cX8_gapCount 4 = .ok (.iload_n 2, 1) := by decide +kernel
theorem dX8_gapCount_5 : decode cX8_gapCount 5 = .ok (.iconst 1, 1) := by decide +kernel
theorem dX8_gapCount_6 : decode cX8_gapCount 6 = .ok (.iadd, 1) := by decide +kernel
theorem dX8_gapCount_7 : decode cX8_gapCount 7 = .ok (.aload_n 0, 1) := by decide +kernel
theorem dX8_gapCount_8 : decode cX8_gapCount 8 = .ok (.getfield 18, 3) := by decide +kernel
theorem dX8_gapCount_11 : decode cX8_gapCount 11 = .ok (.if_icmp .ge 53, 3) := by decide +kernel
theorem dX8_gapCount_64 : decode cX8_gapCount 64 = .ok (.aload_n 0, 1) := by decide +kernel
theorem dX8_gapCount_65 : decode cX8_gapCount 65 = .ok (.getfield 18, 3) := by decide +kernel
theorem dX8_gapCount_68 : decode cX8_gapCount 68 = .ok (.ifCond .ne 7, 3) := by decide +kernel
theorem dX8_gapCount_71 : decode cX8_gapCount 71 = .ok (.iconst 0, 1) := by decide +kernel
theorem dX8_gapCount_72 : decode cX8_gapCount 72 = .ok (.goto 25, 3) := by decide +kernel
theorem dX8_gapCount_97 : decode cX8_gapCount 97 = .ok (.ireturn, 1) := by decide +kernel
set_option maxRecDepth 20000 in
theorem ggX9_worst_X9_seated : GoodIn wsX9_worst wsX9_seated := goodIn_r _ [6, 7, 8, 9, 10, 11, 12, 13, 14, 15, 16, 17, 18, 19, 20, 21, 22, 23, 24, 25, 26, 166, 167, 168, 169, 170, 171, 172, 173, 174, 175, 176, 177, 178, 179, 180, 181, 182, 183, 184, 185, 186, 187, 188, 189, 190, 191, 192, 193, 194, 195, 196, 197] rfl (by decide +kernel)
set_option maxRecDepth 20000 in
theorem gX9_worst_X9_seated : GoodIn wsX9_worst (wsV RX9 144 RX9 yX9_seated wsX9_seated) := goodIn_app (goodIn_of _ (by decide +kernel)) ggX9_worst_X9_seated
set_option maxRecDepth 20000 in
theorem ggX9_worst_X9_spread : GoodIn wsX9_worst wsX9_spread := goodIn_r _ [30, 1, 8, 31, 32, 33, 34, 35, 36, 37, 38, 39, 40, 41, 42, 43, 44, 45, 46, 47, 48, 49, 50, 51, 52, 53, 54, 55, 56, 57, 58, 59, 60, 61, 62, 63, 64, 65, 66, 67, 68, 5, 69, 70, 71, 72, 73, 74, 75, 76, 77, 78, 79, 80, 81, 82, 83, 84, 85, 86, 87, 88, 89, 90, 91, 92, 93, 94, 95, 96, 97, 98, 99, 100, 23, 101, 26, 102, 103, 104, 105, 106, 107, 108, 109, 25, 110, 111, 112, 113, 114, 115, 116, 117, 118, 119, 120, 121, 122, 123, 124, 125, 126, 127, 128, 129, 130, 131, 132, 133, 134, 135, 166, 167, 168, 169, 170, 171, 172, 173, 174, 175, 176, 177, 178, 179, 180, 181, 182, 183, 184, 185, 186, 187, 188, 189, 190, 191, 192, 193, 194, 198, 199, 200, 201, 202, 203, 204, 205, 206, 207, 208, 209, 210, 211, 212, 213, 214, 215, 216, 217, 218, 219, 220, 221, 222, 195, 196, 197, 223, 224, 225, 226, 227, 228, 229, 230, 231, 232] rfl (by decide +kernel)
set_option maxRecDepth 20000 in
theorem gX9_worst_X9_spread : GoodIn wsX9_worst (wsV RX9 226 RX9 yX9_spread wsX9_spread) := goodIn_app (goodIn_of _ (by decide +kernel)) ggX9_worst_X9_spread
set_option maxRecDepth 20000 in
theorem ggX9_worst_X3_worstTowers : GoodIn wsX9_worst wsX3_worstTowers := goodIn_r _ [139, 39, 40, 140, 141, 142, 34, 143, 59, 36, 144, 37, 54, 92, 145, 146, 147, 148, 149, 150, 151, 152, 153, 94, 95, 96, 97, 154, 155, 156, 157, 158, 159, 160, 161, 57, 58, 162, 163, 164, 165, 56, 133, 134, 135, 68, 5, 69, 203, 204, 205, 206, 207, 208, 209, 210, 211, 212, 213, 214, 215, 216, 217, 218, 219, 220, 221, 222] rfl (by decide +kernel)
set_option maxRecDepth 20000 in
theorem gX9_worst_X3_worstTowers : GoodIn wsX9_worst (wsV RX9 247 RX3 yX3_worstTowers wsX3_worstTowers) := goodIn_app (goodIn_of _ (by decide +kernel)) ggX9_worst_X3_worstTowers
theorem dX9_worst_0 : decode cX9_worst 0 = .ok (.iload_n 1, 1) := by decide +kernel
theorem dX9_worst_1 : decode cX9_worst 1 = .ok (.ifCond .lt 8, 3) := by decide +kernel
theorem dX9_worst_4 : decode cX9_worst 4 = .ok (.iload_n 1, 1) := by decide +kernel
theorem dX9_worst_5 : decode cX9_worst 5 = .ok (.iconst 2, 1) := by decide +kernel
theorem dX9_worst_6 : decode cX9_worst 6 = .ok (.if_icmp .le 5, 3) := by decide +kernel
theorem dX9_worst_9 : decode cX9_worst 9 = .ok (.iconst (-1), 1) := by decide +kernel
theorem dX9_worst_10 : decode cX9_worst 10 = .ok (.ireturn, 1) := by decide +kernel
theorem dX9_worst_11 : decode cX9_worst 11 = .ok (.aload_n 0, 1) := by decide +kernel
theorem dX9_worst_12 : decode cX9_worst 12 = .ok (.aload_n 0, 1) := by decide +kernel
theorem dX9_worst_13 : decode cX9_worst 13 = .ok (.invokevirtual 144, 3) := by decide +kernel
theorem dX9_worst_16 : decode cX9_worst 16 = .ok (.invokevirtual 226, 3) := by decide +kernel
theorem dX9_worst_19 : decode cX9_worst 19 = .ok (.aload_n 0, 1) := by decide +kernel
theorem dX9_worst_20 : decode cX9_worst 20 = .ok (.getfield 80, 3) := by decide +kernel
theorem dX9_worst_23 : decode cX9_worst 23 = .ok (.iload_n 1, 1) := by decide +kernel
theorem dX9_worst_24 : decode cX9_worst 24 = .ok (.invokevirtual 247, 3) := by decide +kernel
theorem dX9_worst_27 : decode cX9_worst 27 = .ok (.ireturn, 1) := by decide +kernel
set_option maxRecDepth 20000 in
theorem ggX9_reach_X9_seated : GoodIn wsX9_reach wsX9_seated := goodIn_r _ [6, 7, 8, 9, 10, 11, 12, 13, 14, 15, 16, 17, 18, 19, 20, 21, 22, 23, 24, 25, 26, 157, 158, 159, 160, 161, 162, 163, 164, 165, 166, 167, 168, 169, 170, 171, 172, 173, 174, 175, 176, 177, 178, 179, 180, 181, 182, 183, 184, 185, 186, 187, 188] rfl (by decide +kernel)
set_option maxRecDepth 20000 in
theorem gX9_reach_X9_seated : GoodIn wsX9_reach (wsV RX9 144 RX9 yX9_seated wsX9_seated) := goodIn_app (goodIn_of _ (by decide +kernel)) ggX9_reach_X9_seated
set_option maxRecDepth 20000 in
theorem ggX9_reach_X9_spread : GoodIn wsX9_reach wsX9_spread := goodIn_r _ [30, 1, 8, 31, 32, 33, 34, 35, 36, 37, 38, 39, 40, 41, 42, 43, 44, 45, 46, 47, 48, 49, 50, 51, 52, 53, 54, 55, 56, 57, 58, 59, 60, 61, 62, 63, 64, 65, 66, 67, 68, 5, 69, 70, 71, 72, 73, 74, 75, 76, 77, 78, 79, 80, 81, 82, 83, 84, 85, 86, 87, 88, 89, 90, 91, 92, 93, 94, 95, 96, 97, 98, 99, 100, 23, 101, 26, 102, 103, 104, 105, 106, 107, 108, 109, 25, 110, 111, 112, 113, 114, 115, 116, 117, 118, 119, 120, 121, 122, 123, 124, 125, 126, 127, 128, 129, 130, 131, 132, 133, 134, 135, 157, 158, 159, 160, 161, 162, 163, 164, 165, 166, 167, 168, 169, 170, 171, 172, 173, 174, 175, 176, 177, 178, 179, 180, 181, 182, 183, 184, 185, 189, 190, 191, 192, 193, 194, 195, 196, 197, 198, 199, 200, 201, 202, 203, 204, 205, 206, 207, 208, 209, 210, 211, 212, 213, 186, 187, 188, 214, 215, 216, 217, 218, 219, 220, 221, 222, 223] rfl (by decide +kernel)
set_option maxRecDepth 20000 in
theorem gX9_reach_X9_spread : GoodIn wsX9_reach (wsV RX9 226 RX9 yX9_spread wsX9_spread) := goodIn_app (goodIn_of _ (by decide +kernel)) ggX9_reach_X9_spread
set_option maxRecDepth 20000 in
theorem ggX9_reach_X3_towersReached : GoodIn wsX9_reach wsX3_towersReached := goodIn_r _ [139, 140, 141, 142, 143, 34, 144, 53, 47, 54, 39, 36, 92, 94, 95, 96, 97, 145, 146, 147, 148, 56, 149, 150, 151, 152, 57, 58, 153, 154, 155, 156, 133, 134, 135, 194, 195, 196, 197, 198, 199, 200, 201, 202, 203, 204, 205, 206, 207, 208, 209, 210, 211, 212, 213] rfl (by decide +kernel)
set_option maxRecDepth 20000 in
theorem gX9_reach_X3_towersReached : GoodIn wsX9_reach (wsV RX9 250 RX3 yX3_towersReached wsX3_towersReached) := goodIn_app (goodIn_of _ (by decide +kernel)) ggX9_reach_X3_towersReached
theorem dX9_reach_0 : decode cX9_reach 0 = .ok (.aload_n 0, 1) := by decide +kernel
theorem dX9_reach_1 : decode cX9_reach 1 = .ok (.aload_n 0, 1) := by decide +kernel
theorem dX9_reach_2 : decode cX9_reach 2 = .ok (.invokevirtual 144, 3) := by decide +kernel
theorem dX9_reach_5 : decode cX9_reach 5 = .ok (.invokevirtual 226, 3) := by decide +kernel
theorem dX9_reach_8 : decode cX9_reach 8 = .ok (.aload_n 0, 1) := by decide +kernel
theorem dX9_reach_9 : decode cX9_reach 9 = .ok (.getfield 80, 3) := by decide +kernel
theorem dX9_reach_12 : decode cX9_reach 12 = .ok (.invokevirtual 250, 3) := by decide +kernel
theorem dX9_reach_15 : decode cX9_reach 15 = .ok (.ireturn, 1) := by decide +kernel
set_option maxRecDepth 20000 in
theorem ggX9_gaps_X8_gapCount : GoodIn wsX9_gaps wsX8_gapCount := goodIn_r _ [6, 7, 8, 9, 10, 11, 12, 13, 14, 15, 16, 17, 18, 5, 19, 20, 21, 22, 52, 53, 54, 55, 56] rfl (by decide +kernel)
set_option maxRecDepth 20000 in
theorem gX9_gaps_X8_gapCount : GoodIn wsX9_gaps (wsV RX9 253 RX8 yX8_gapCount wsX8_gapCount) := goodIn_app (goodIn_of _ (by decide +kernel)) ggX9_gaps_X8_gapCount
theorem dX9_gaps_0 : decode cX9_gaps 0 = .ok (.aload_n 0, 1) := by decide +kernel
theorem dX9_gaps_1 : decode cX9_gaps 1 = .ok (.getfield 10, 3) := by decide +kernel
theorem dX9_gaps_4 : decode cX9_gaps 4 = .ok (.getfield 122, 3) := by decide +kernel
theorem dX9_gaps_7 : decode cX9_gaps 7 = .ok (.invokevirtual 253, 3) := by decide +kernel
theorem dX9_gaps_10 : decode cX9_gaps 10 = .ok (.ireturn, 1) := by decide +kernel
