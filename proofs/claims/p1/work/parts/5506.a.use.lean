set_option maxRecDepth 20000 in
theorem ggX3_turnsToNumber_X3_numberOfOrder : GoodIn wsX3_turnsToNumber wsX3_numberOfOrder := goodIn_r _ [12, 1, 13, 14, 15, 16, 49, 50, 51, 52, 53, 54, 55, 56, 57, 58, 59, 60, 61, 62, 63, 64, 65, 66, 67, 68] rfl (by decide +kernel)
set_option maxRecDepth 20000 in
theorem gX3_turnsToNumber_X3_numberOfOrder : GoodIn wsX3_turnsToNumber (wsV RX3 96 RX3 yX3_numberOfOrder wsX3_numberOfOrder) := goodIn_app (goodIn_of _ (by decide +kernel)) ggX3_turnsToNumber_X3_numberOfOrder
set_option maxRecDepth 20000 in
theorem ggX3_turnsToNumber_X3_nearest : GoodIn wsX3_turnsToNumber wsX3_nearest := goodIn_r _ [20, 21, 22, 23, 24, 25, 2, 26, 27, 28, 29, 30, 31, 32, 33, 6, 34, 35, 36, 37, 38, 39, 40, 41, 42, 43, 44, 45, 46, 47, 48, 49, 50, 51, 52, 53, 54, 55, 56, 57, 58, 59, 60, 61, 62, 63, 64, 65, 66, 67, 68] rfl (by decide +kernel)
set_option maxRecDepth 20000 in
theorem gX3_turnsToNumber_X3_nearest : GoodIn wsX3_turnsToNumber (wsV RX3 137 RX3 yX3_nearest wsX3_nearest) := goodIn_app (goodIn_of _ (by decide +kernel)) ggX3_turnsToNumber_X3_nearest
theorem dX3_turnsToNumber_0 : decode cX3_turnsToNumber 0 = .ok (.iload_n 1, 1) := by decide +kernel
theorem dX3_turnsToNumber_1 : decode cX3_turnsToNumber 1 = .ok (.ifCond .ge 5, 3) := by decide +kernel
theorem dX3_turnsToNumber_4 : decode cX3_turnsToNumber 4 = .ok (.iconst (-1), 1) := by decide +kernel
theorem dX3_turnsToNumber_5 : decode cX3_turnsToNumber 5 = .ok (.ireturn, 1) := by decide +kernel
theorem dX3_turnsToNumber_6 : decode cX3_turnsToNumber 6 = .ok (.iload_n 1, 1) := by decide +kernel
theorem dX3_turnsToNumber_7 : decode cX3_turnsToNumber 7 = .ok (.istore_n 2, 1) := by decide +kernel
theorem dX3_turnsToNumber_8 : decode cX3_turnsToNumber 8 = .ok (.iconst 0, 1) := by decide +kernel
theorem dX3_turnsToNumber_9 : decode cX3_turnsToNumber 9 = .ok (.istore_n 3, 1) := by decide +kernel
theorem dX3_turnsToNumber_10 : decode cX3_turnsToNumber 10 = .ok (.iconst 5, 1) := by decide +kernel
theorem dX3_turnsToNumber_11 : decode cX3_turnsToNumber 11 = .ok (.istore 4, 2) := by decide +kernel
theorem dX3_turnsToNumber_13 : decode cX3_turnsToNumber 13 = .ok (.iload 4, 2) := by decide +kernel
theorem dX3_turnsToNumber_15 : decode cX3_turnsToNumber 15 = .ok (.ifCond .lt 74, 3) := by decide +kernel
theorem dX3_turnsToNumber_18 : decode cX3_turnsToNumber 18 = .ok (.aload_n 0, 1) := by decide +kernel
theorem dX3_turnsToNumber_19 : decode cX3_turnsToNumber 19 = .ok (.getfield 15, 3) := by decide +kernel
theorem dX3_turnsToNumber_22 : decode cX3_turnsToNumber 22 = .ok (.iload 4, 2) := by decide +kernel
theorem dX3_turnsToNumber_24 : decode cX3_turnsToNumber 24 = .ok (.iload 4, 2) := by decide +kernel
theorem dX3_turnsToNumber_26 : decode cX3_turnsToNumber 26 = .ok (.iastore, 1) := by decide +kernel
theorem dX3_turnsToNumber_27 : decode cX3_turnsToNumber 27 = .ok (.iload 4, 2) := by decide +kernel
theorem dX3_turnsToNumber_29 : decode cX3_turnsToNumber 29 = .ok (.aload_n 0, 1) := by decide +kernel
theorem dX3_turnsToNumber_30 : decode cX3_turnsToNumber 30 = .ok (.getfield 51, 3) := by decide +kernel
theorem dX3_turnsToNumber_33 : decode cX3_turnsToNumber 33 = .ok (.if_icmp .ge 50, 3) := by decide +kernel
theorem dX3_turnsToNumber_83 : decode cX3_turnsToNumber 83 = .ok (.iinc 4 (-1), 3) := by decide +kernel
theorem dX3_turnsToNumber_86 : decode cX3_turnsToNumber 86 = .ok (.goto (-73), 3) := by decide +kernel
theorem dX3_turnsToNumber_89 : decode cX3_turnsToNumber 89 = .ok (.iload_n 2, 1) := by decide +kernel
theorem dX3_turnsToNumber_90 : decode cX3_turnsToNumber 90 = .ok (.ifCond .ne 15, 3) := by decide +kernel
theorem dX3_turnsToNumber_93 : decode cX3_turnsToNumber 93 = .ok (.iload_n 3, 1) := by decide +kernel
theorem dX3_turnsToNumber_94 : decode cX3_turnsToNumber 94 = .ok (.iconst 1, 1) := by decide +kernel
theorem dX3_turnsToNumber_95 : decode cX3_turnsToNumber 95 = .ok (.aload_n 0, 1) := by decide +kernel
theorem dX3_turnsToNumber_96 : decode cX3_turnsToNumber 96 = .ok (.getfield 51, 3) := by decide +kernel
theorem dX3_turnsToNumber_99 : decode cX3_turnsToNumber 99 = .ok (.ishl, 1) := by decide +kernel
theorem dX3_turnsToNumber_100 : decode cX3_turnsToNumber 100 = .ok (.iconst 1, 1) := by decide +kernel
theorem dX3_turnsToNumber_101 : decode cX3_turnsToNumber 101 = .ok (.isub, 1) := by decide +kernel
theorem dX3_turnsToNumber_102 : decode cX3_turnsToNumber 102 = .ok (.if_icmp .eq 5, 3) := by decide +kernel
theorem dX3_turnsToNumber_105 : decode cX3_turnsToNumber 105 = .ok (.iconst (-1), 1) := by decide +kernel
theorem dX3_turnsToNumber_106 : decode cX3_turnsToNumber 106 = .ok (.ireturn, 1) := by decide +kernel
theorem dX3_turnsToNumber_107 : decode cX3_turnsToNumber 107 = .ok (.aload_n 0, 1) := by decide +kernel
theorem dX3_turnsToNumber_108 : decode cX3_turnsToNumber 108 = .ok (.iconst 1, 1) := by decide +kernel
theorem dX3_turnsToNumber_109 : decode cX3_turnsToNumber 109 = .ok (.aload_n 0, 1) := by decide +kernel
theorem dX3_turnsToNumber_110 : decode cX3_turnsToNumber 110 = .ok (.invokevirtual 96, 3) := by decide +kernel
theorem dX3_turnsToNumber_113 : decode cX3_turnsToNumber 113 = .ok (.invokevirtual 137, 3) := by decide +kernel
theorem dX3_turnsToNumber_116 : decode cX3_turnsToNumber 116 = .ok (.ireturn, 1) := by decide +kernel
theorem dX3_nearest_70 : decode cX3_nearest 70 = .ok (.aload_n 0, 1) := by decide +kernel
theorem dX3_nearest_71 : decode cX3_nearest 71 = .ok (.getfield 42, 3) := by decide +kernel
theorem dX3_nearest_74 : decode cX3_nearest 74 = .ok (.iload 4, 2) := by decide +kernel
theorem dX3_nearest_76 : decode cX3_nearest 76 = .ok (.iaload, 1) := by decide +kernel
theorem dX3_nearest_77 : decode cX3_nearest 77 = .ok (.ireturn, 1) := by decide +kernel
theorem dX8_unpack_0 : decode cX8_unpack 0 = .ok (.aload_n 0, 1) := by decide +kernel
theorem dX8_unpack_1 : decode cX8_unpack 1 = .ok (.lload_n 1, 1) := by decide +kernel
theorem dX8_unpack_2 : decode cX8_unpack 2 = .ok (.ldc2_w 35, 3) := by decide +kernel
theorem dX8_unpack_5 : decode cX8_unpack 5 = .ok (.land, 1) := by decide +kernel
theorem dX8_unpack_6 : decode cX8_unpack 6 = .ok (.l2i, 1) := by decide +kernel
theorem dX8_unpack_7 : decode cX8_unpack 7 = .ok (.putfield 25, 3) := by decide +kernel
theorem dX8_unpack_10 : decode cX8_unpack 10 = .ok (.aload_n 0, 1) := by decide +kernel
theorem dX8_unpack_11 : decode cX8_unpack 11 = .ok (.lload_n 1, 1) := by decide +kernel
theorem dX8_unpack_12 : decode cX8_unpack 12 = .ok (.bipush 10, 2) := by decide +kernel
theorem dX8_unpack_14 : decode cX8_unpack 14 = .ok (.lshr, 1) := by decide +kernel
theorem dX8_unpack_15 : decode cX8_unpack 15 = .ok (.ldc2_w 37, 3) := by decide +kernel
theorem dX8_unpack_18 : decode cX8_unpack 18 = .ok (.land, 1) := by decide +kernel
theorem dX8_unpack_19 : decode cX8_unpack 19 = .ok (.l2i, 1) := by decide +kernel
theorem dX8_unpack_20 : decode cX8_unpack 20 = .ok (.putfield 22, 3) := by decide +kernel
theorem dX8_unpack_23 : decode cX8_unpack 23 = .ok (.lload_n 1, 1) := by decide +kernel
theorem dX8_unpack_24 : decode cX8_unpack 24 = .ok (.bipush 24, 2) := by decide +kernel
theorem dX8_unpack_26 : decode cX8_unpack 26 = .ok (.lshr, 1) := by decide +kernel
theorem dX8_unpack_27 : decode cX8_unpack 27 = .ok (.lstore_n 3, 1) := by decide +kernel
theorem dX8_unpack_28 : decode cX8_unpack 28 = .ok (.iconst 5, 1) := by decide +kernel
theorem dX8_unpack_29 : decode cX8_unpack 29 = .ok (.istore 5, 2) := by decide +kernel
theorem dX8_unpack_31 : decode cX8_unpack 31 = .ok (.iload 5, 2) := by decide +kernel
theorem dX8_unpack_33 : decode cX8_unpack 33 = .ok (.ifCond .lt 39, 3) := by decide +kernel
theorem dX8_unpack_36 : decode cX8_unpack 36 = .ok (.aload_n 0, 1) := by decide +kernel
theorem dX8_unpack_37 : decode cX8_unpack 37 = .ok (.getfield 15, 3) := by decide +kernel
theorem dX8_unpack_40 : decode cX8_unpack 40 = .ok (.iload 5, 2) := by decide +kernel
theorem dX8_unpack_42 : decode cX8_unpack 42 = .ok (.lload_n 3, 1) := by decide +kernel
theorem dX8_unpack_43 : decode cX8_unpack 43 = .ok (.lconst 1, 1) := by decide +kernel
theorem dX8_unpack_44 : decode cX8_unpack 44 = .ok (.land, 1) := by decide +kernel
theorem dX8_unpack_45 : decode cX8_unpack 45 = .ok (.l2i, 1) := by decide +kernel
theorem dX8_unpack_46 : decode cX8_unpack 46 = .ok (.iastore, 1) := by decide +kernel
theorem dX8_unpack_47 : decode cX8_unpack 47 = .ok (.aload_n 0, 1) := by decide +kernel
theorem dX8_unpack_48 : decode cX8_unpack 48 = .ok (.getfield 9, 3) := by decide +kernel
theorem dX8_unpack_51 : decode cX8_unpack 51 = .ok (.iload 5, 2) := by decide +kernel
theorem dX8_unpack_53 : decode cX8_unpack 53 = .ok (.lload_n 3, 1) := by decide +kernel
theorem dX8_unpack_54 : decode cX8_unpack 54 = .ok (.iconst 1, 1) := by decide +kernel
theorem dX8_unpack_55 : decode cX8_unpack 55 = .ok (.lshr, 1) := by decide +kernel
theorem dX8_unpack_56 : decode cX8_unpack 56 = .ok (.ldc2_w 39, 3) := by decide +kernel
theorem dX8_unpack_59 : decode cX8_unpack 59 = .ok (.land, 1) := by decide +kernel
theorem dX8_unpack_60 : decode cX8_unpack 60 = .ok (.l2i, 1) := by decide +kernel
theorem dX8_unpack_61 : decode cX8_unpack 61 = .ok (.iastore, 1) := by decide +kernel
theorem dX8_unpack_62 : decode cX8_unpack 62 = .ok (.lload_n 3, 1) := by decide +kernel
theorem dX8_unpack_63 : decode cX8_unpack 63 = .ok (.iconst 4, 1) := by decide +kernel
theorem dX8_unpack_64 : decode cX8_unpack 64 = .ok (.lshr, 1) := by decide +kernel
theorem dX8_unpack_65 : decode cX8_unpack 65 = .ok (.lstore_n 3, 1) := by decide +kernel
theorem dX8_unpack_66 : decode cX8_unpack 66 = .ok (.iinc 5 (-1), 3) := by decide +kernel
theorem dX8_unpack_69 : decode cX8_unpack 69 = .ok (.goto (-38), 3) := by decide +kernel
theorem dX8_unpack_72 : decode cX8_unpack 72 = .ok (.aload_n 0, 1) := by decide +kernel
theorem dX8_unpack_73 : decode cX8_unpack 73 = .ok (.bipush 6, 2) := by decide +kernel
theorem dX8_unpack_75 : decode cX8_unpack 75 = .ok (.lload_n 3, 1) := by decide +kernel
theorem dX8_unpack_76 : decode cX8_unpack 76 = .ok (.l2i, 1) := by decide +kernel
theorem dX8_unpack_77 : decode cX8_unpack 77 = .ok (.invokestatic 41, 3) := by decide +kernel
theorem dX8_unpack_80 : decode cX8_unpack 80 = .ok (.putfield 18, 3) := by decide +kernel
theorem dX8_unpack_83 : decode cX8_unpack 83 = .ok (.return_, 1) := by decide +kernel
set_option maxRecDepth 20000 in
theorem ggX9_comes_X9_seated : GoodIn wsX9_comes wsX9_seated := goodIn_r _ [6, 7, 8, 9, 10, 11, 12, 13, 14, 15, 16, 17, 18, 19, 20, 21, 22, 23, 24, 25, 26, 157, 158, 159, 160, 161, 162, 163, 164, 165, 166, 167, 168, 169, 170, 171, 172, 173, 174, 175, 176, 177, 178, 179, 180, 181, 182, 183, 184, 185, 186, 187, 188] rfl (by decide +kernel)
set_option maxRecDepth 20000 in
theorem gX9_comes_X9_seated : GoodIn wsX9_comes (wsV RX9 144 RX9 yX9_seated wsX9_seated) := goodIn_app (goodIn_of _ (by decide +kernel)) ggX9_comes_X9_seated
set_option maxRecDepth 20000 in
theorem ggX9_comes_X9_spread : GoodIn wsX9_comes wsX9_spread := goodIn_r _ [30, 1, 8, 31, 32, 33, 34, 35, 36, 37, 38, 39, 40, 41, 42, 43, 44, 45, 46, 47, 48, 49, 50, 51, 52, 53, 54, 55, 56, 57, 58, 59, 60, 61, 62, 63, 64, 65, 66, 67, 68, 5, 69, 70, 71, 72, 73, 74, 75, 76, 77, 78, 79, 80, 81, 82, 83, 84, 85, 86, 87, 88, 89, 90, 91, 92, 93, 94, 95, 96, 97, 98, 99, 100, 23, 101, 26, 102, 103, 104, 105, 106, 107, 108, 109, 25, 110, 111, 112, 113, 114, 115, 116, 117, 118, 119, 120, 121, 122, 123, 124, 125, 126, 127, 128, 129, 130, 131, 132, 133, 134, 135, 157, 158, 159, 160, 161, 162, 163, 164, 165, 166, 167, 168, 169, 170, 171, 172, 173, 174, 175, 176, 177, 178, 179, 180, 181, 182, 183, 184, 185, 189, 190, 191, 192, 193, 194, 195, 196, 197, 198, 199, 200, 201, 202, 203, 204, 205, 206, 207, 208, 209, 210, 211, 212, 213, 186, 187, 188, 214, 215, 216, 217, 218, 219, 220, 221, 222, 223] rfl (by decide +kernel)
set_option maxRecDepth 20000 in
theorem gX9_comes_X9_spread : GoodIn wsX9_comes (wsV RX9 226 RX9 yX9_spread wsX9_spread) := goodIn_app (goodIn_of _ (by decide +kernel)) ggX9_comes_X9_spread
set_option maxRecDepth 20000 in
theorem ggX9_comes_X3_turnsToNumber : GoodIn wsX9_comes wsX3_turnsToNumber := goodIn_r _ [139, 42, 36, 84, 85, 86, 34, 87, 41, 70, 71, 72, 73, 38, 68, 5, 69, 140, 141, 142, 143, 53, 47, 54, 144, 39, 92, 94, 95, 96, 97, 145, 146, 147, 148, 56, 149, 150, 151, 152, 57, 58, 153, 154, 155, 156, 133, 134, 135, 194, 195, 196, 197, 198, 199, 200, 201, 202, 203, 204, 205, 206, 207, 208, 209, 210, 211, 212, 213] rfl (by decide +kernel)
set_option maxRecDepth 20000 in
theorem gX9_comes_X3_turnsToNumber : GoodIn wsX9_comes (wsV RX9 256 RX3 yX3_turnsToNumber wsX3_turnsToNumber) := goodIn_app (goodIn_of _ (by decide +kernel)) ggX9_comes_X3_turnsToNumber
theorem dX9_comes_0 : decode cX9_comes 0 = .ok (.aload_n 0, 1) := by decide +kernel
theorem dX9_comes_1 : decode cX9_comes 1 = .ok (.aload_n 0, 1) := by decide +kernel
theorem dX9_comes_2 : decode cX9_comes 2 = .ok (.invokevirtual 144, 3) := by decide +kernel
theorem dX9_comes_5 : decode cX9_comes 5 = .ok (.invokevirtual 226, 3) := by decide +kernel
theorem dX9_comes_8 : decode cX9_comes 8 = .ok (.aload_n 0, 1) := by decide +kernel
theorem dX9_comes_9 : decode cX9_comes 9 = .ok (.getfield 80, 3) := by decide +kernel
theorem dX9_comes_12 : decode cX9_comes 12 = .ok (.iload_n 1, 1) := by decide +kernel
theorem dX9_comes_13 : decode cX9_comes 13 = .ok (.invokevirtual 256, 3) := by decide +kernel
theorem dX9_comes_16 : decode cX9_comes 16 = .ok (.ireturn, 1) := by decide +kernel
set_option maxRecDepth 20000 in
theorem ggX9_view_X8_has : GoodIn wsX9_view wsX8_has := goodIn_r _ [7, 8, 9, 187, 188, 189, 190, 191] rfl (by decide +kernel)
set_option maxRecDepth 20000 in
theorem gX9_view_X8_has : GoodIn wsX9_view (wsV RX9 125 RX8 yX8_has wsX8_has) := goodIn_app (goodIn_of _ (by decide +kernel)) ggX9_view_X8_has
theorem dX9_view_0 : decode cX9_view 0 = .ok (.aload_n 0, 1) := by decide +kernel
theorem dX9_view_1 : decode cX9_view 1 = .ok (.getfield 10, 3) := by decide +kernel
theorem dX9_view_4 : decode cX9_view 4 = .ok (.getfield 122, 3) := by decide +kernel
theorem dX9_view_7 : decode cX9_view 7 = .ok (.iload_n 1, 1) := by decide +kernel
theorem dX9_view_8 : decode cX9_view 8 = .ok (.invokevirtual 125, 3) := by decide +kernel
theorem dX9_view_11 : decode cX9_view 11 = .ok (.ifCond .ne 5, 3) := by decide +kernel
theorem dX9_view_14 : decode cX9_view 14 = .ok (.iconst (-1), 1) := by decide +kernel
theorem dX9_view_15 : decode cX9_view 15 = .ok (.ireturn, 1) := by decide +kernel
set_option maxRecDepth 20000 in
theorem ggX9_stays_X9_isBit : GoodIn wsX9_stays wsX9_isBit := goodIn_r _ [5] rfl (by decide +kernel)
set_option maxRecDepth 20000 in
theorem gX9_stays_X9_isBit : GoodIn wsX9_stays (va_wsS RX9 115 yX9_isBit wsX9_isBit) := goodIn_app (goodIn_of _ (by decide +kernel)) ggX9_stays_X9_isBit
set_option maxRecDepth 20000 in
theorem ggX9_stays_J6_bitCount_0f7a4 : GoodIn wsX9_stays wsJ6_bitCount_0f7a4 := goodIn_r _ [9, 10, 11, 12] rfl (by decide +kernel)
set_option maxRecDepth 20000 in
theorem gX9_stays_J6_bitCount_0f7a4 : GoodIn wsX9_stays (va_wsS RX9 262 yJ6_bitCount_0f7a4 wsJ6_bitCount_0f7a4) := goodIn_app (goodIn_of _ (by decide +kernel)) ggX9_stays_J6_bitCount_0f7a4
theorem dX9_stays_0 : decode cX9_stays 0 = .ok (.iload_n 1, 1) := by decide +kernel
theorem dX9_stays_1 : decode cX9_stays 1 = .ok (.invokestatic 115, 3) := by decide +kernel
theorem dX9_stays_4 : decode cX9_stays 4 = .ok (.ifCond .ne 5, 3) := by decide +kernel
theorem dX9_stays_7 : decode cX9_stays 7 = .ok (.iconst (-1), 1) := by decide +kernel
theorem dX9_stays_8 : decode cX9_stays 8 = .ok (.ireturn, 1) := by decide +kernel
theorem dX9_stays_9 : decode cX9_stays 9 = .ok (.iconst 0, 1) := by decide +kernel
theorem dX9_stays_10 : decode cX9_stays 10 = .ok (.istore_n 2, 1) := by decide +kernel
theorem dX9_stays_11 : decode cX9_stays 11 = .ok (.iconst 1, 1) := by decide +kernel
theorem dX9_stays_12 : decode cX9_stays 12 = .ok (.istore_n 3, 1) := by decide +kernel
theorem dX9_stays_13 : decode cX9_stays 13 = .ok (.iload_n 3, 1) := by decide +kernel
theorem dX9_stays_14 : decode cX9_stays 14 = .ok (.iconst 1, 1) := by decide +kernel
theorem dX9_stays_15 : decode cX9_stays 15 = .ok (.aload_n 0, 1) := by decide +kernel
theorem dX9_stays_16 : decode cX9_stays 16 = .ok (.getfield 10, 3) := by decide +kernel
theorem dX9_stays_19 : decode cX9_stays 19 = .ok (.getfield 122, 3) := by decide +kernel
theorem dX9_stays_22 : decode cX9_stays 22 = .ok (.getfield 135, 3) := by decide +kernel
theorem dX9_stays_25 : decode cX9_stays 25 = .ok (.ishl, 1) := by decide +kernel
theorem dX9_stays_26 : decode cX9_stays 26 = .ok (.if_icmp .ge 43, 3) := by decide +kernel
theorem dX9_stays_69 : decode cX9_stays 69 = .ok (.iload_n 1, 1) := by decide +kernel
theorem dX9_stays_70 : decode cX9_stays 70 = .ok (.ifCond .ne 10, 3) := by decide +kernel
theorem dX9_stays_73 : decode cX9_stays 73 = .ok (.iload_n 2, 1) := by decide +kernel
theorem dX9_stays_74 : decode cX9_stays 74 = .ok (.invokestatic 262, 3) := by decide +kernel
theorem dX9_stays_77 : decode cX9_stays 77 = .ok (.goto 4, 3) := by decide +kernel
theorem dX9_stays_80 : decode cX9_stays 80 = .ok (.iload_n 2, 1) := by decide +kernel
theorem dX9_stays_81 : decode cX9_stays 81 = .ok (.ireturn, 1) := by decide +kernel
set_option maxRecDepth 20000 in
theorem ggX9_seen_X9_isRank : GoodIn wsX9_seen wsX9_isRank := goodIn_r _ [5] rfl (by decide +kernel)
set_option maxRecDepth 20000 in
theorem gX9_seen_X9_isRank : GoodIn wsX9_seen (va_wsS RX9 111 yX9_isRank wsX9_isRank) := goodIn_app (goodIn_of _ (by decide +kernel)) ggX9_seen_X9_isRank
set_option maxRecDepth 20000 in
theorem ggX9_seen_X9_refuse : GoodIn wsX9_seen wsX9_refuse := goodIn_r _ [9, 10, 11, 16, 17, 18, 19, 20, 21, 22, 23, 24, 25, 26, 27, 28, 29, 30, 31, 32, 33, 34] rfl (by decide +kernel)
set_option maxRecDepth 20000 in
theorem gX9_seen_X9_refuse : GoodIn wsX9_seen (wsV RX9 118 RX9 yX9_refuse wsX9_refuse) := goodIn_app (goodIn_of _ (by decide +kernel)) ggX9_seen_X9_refuse
set_option maxRecDepth 20000 in
theorem ggX9_seen_X9_accept : GoodIn wsX9_seen wsX9_accept := goodIn_r _ [15, 10, 16, 17, 18, 19, 20, 21, 22, 23, 24, 25, 26, 27, 28, 29, 30, 31, 32, 33, 34] rfl (by decide +kernel)
set_option maxRecDepth 20000 in
theorem gX9_seen_X9_accept : GoodIn wsX9_seen (wsV RX9 138 RX9 yX9_accept wsX9_accept) := goodIn_app (goodIn_of _ (by decide +kernel)) ggX9_seen_X9_accept
theorem dX9_seen_0 : decode cX9_seen 0 = .ok (.iload_n 1, 1) := by decide +kernel
theorem dX9_seen_1 : decode cX9_seen 1 = .ok (.ifCond .lt 16, 3) := by decide +kernel
theorem dX9_seen_4 : decode cX9_seen 4 = .ok (.iload_n 1, 1) := by decide +kernel
theorem dX9_seen_5 : decode cX9_seen 5 = .ok (.bipush 6, 2) := by decide +kernel
theorem dX9_seen_7 : decode cX9_seen 7 = .ok (.if_icmp .ge 10, 3) := by decide +kernel
theorem dX9_seen_10 : decode cX9_seen 10 = .ok (.iload_n 2, 1) := by decide +kernel
theorem dX9_seen_11 : decode cX9_seen 11 = .ok (.invokestatic 111, 3) := by decide +kernel
theorem dX9_seen_14 : decode cX9_seen 14 = .ok (.ifCond .ne 9, 3) := by decide +kernel
theorem dX9_seen_17 : decode cX9_seen 17 = .ok (.aload_n 0, 1) := by decide +kernel
theorem dX9_seen_18 : decode cX9_seen 18 = .ok (.iconst (-1), 1) := by decide +kernel
theorem dX9_seen_19 : decode cX9_seen 19 = .ok (.invokevirtual 118, 3) := by decide +kernel
theorem dX9_seen_22 : decode cX9_seen 22 = .ok (.ireturn, 1) := by decide +kernel
theorem dX9_seen_23 : decode cX9_seen 23 = .ok (.aload_n 0, 1) := by decide +kernel
theorem dX9_seen_24 : decode cX9_seen 24 = .ok (.getfield 10, 3) := by decide +kernel
theorem dX9_seen_27 : decode cX9_seen 27 = .ok (.getfield 273, 3) := by decide +kernel
theorem dX9_seen_30 : decode cX9_seen 30 = .ok (.bipush 6, 2) := by decide +kernel
theorem dX9_seen_32 : decode cX9_seen 32 = .ok (.if_icmp .lt 10, 3) := by decide +kernel
theorem dX9_seen_42 : decode cX9_seen 42 = .ok (.aload_n 0, 1) := by decide +kernel
theorem dX9_seen_43 : decode cX9_seen 43 = .ok (.getfield 10, 3) := by decide +kernel
theorem dX9_seen_46 : decode cX9_seen 46 = .ok (.getfield 276, 3) := by decide +kernel
theorem dX9_seen_49 : decode cX9_seen 49 = .ok (.aload_n 0, 1) := by decide +kernel
theorem dX9_seen_50 : decode cX9_seen 50 = .ok (.getfield 10, 3) := by decide +kernel
theorem dX9_seen_53 : decode cX9_seen 53 = .ok (.getfield 273, 3) := by decide +kernel
theorem dX9_seen_56 : decode cX9_seen 56 = .ok (.iload_n 1, 1) := by decide +kernel
theorem dX9_seen_57 : decode cX9_seen 57 = .ok (.iastore, 1) := by decide +kernel
theorem dX9_seen_58 : decode cX9_seen 58 = .ok (.aload_n 0, 1) := by decide +kernel
theorem dX9_seen_59 : decode cX9_seen 59 = .ok (.getfield 10, 3) := by decide +kernel
theorem dX9_seen_62 : decode cX9_seen 62 = .ok (.getfield 279, 3) := by decide +kernel
theorem dX9_seen_65 : decode cX9_seen 65 = .ok (.aload_n 0, 1) := by decide +kernel
theorem dX9_seen_66 : decode cX9_seen 66 = .ok (.getfield 10, 3) := by decide +kernel
theorem dX9_seen_69 : decode cX9_seen 69 = .ok (.getfield 273, 3) := by decide +kernel
theorem dX9_seen_72 : decode cX9_seen 72 = .ok (.iload_n 2, 1) := by decide +kernel
theorem dX9_seen_73 : decode cX9_seen 73 = .ok (.iastore, 1) := by decide +kernel
theorem dX9_seen_74 : decode cX9_seen 74 = .ok (.aload_n 0, 1) := by decide +kernel
theorem dX9_seen_75 : decode cX9_seen 75 = .ok (.getfield 10, 3) := by decide +kernel
theorem dX9_seen_78 : decode cX9_seen 78 = .ok (.dup, 1) := by decide +kernel
theorem dX9_seen_79 : decode cX9_seen 79 = .ok (.getfield 273, 3) := by decide +kernel
theorem dX9_seen_82 : decode cX9_seen 82 = .ok (.iconst 1, 1) := by decide +kernel
theorem dX9_seen_83 : decode cX9_seen 83 = .ok (.iadd, 1) := by decide +kernel
theorem dX9_seen_84 : decode cX9_seen 84 = .ok (.putfield 273, 3) := by decide +kernel
theorem dX9_seen_87 : decode cX9_seen 87 = .ok (.aload_n 0, 1) := by decide +kernel
theorem dX9_seen_88 : decode cX9_seen 88 = .ok (.aload_n 0, 1) := by decide +kernel
theorem dX9_seen_89 : decode cX9_seen 89 = .ok (.getfield 10, 3) := by decide +kernel
theorem dX9_seen_92 : decode cX9_seen 92 = .ok (.getfield 273, 3) := by decide +kernel
theorem dX9_seen_95 : decode cX9_seen 95 = .ok (.invokevirtual 138, 3) := by decide +kernel
theorem dX9_seen_98 : decode cX9_seen 98 = .ok (.ireturn, 1) := by decide +kernel
theorem dX9_forget_0 : decode cX9_forget 0 = .ok (.aload_n 0, 1) := by decide +kernel
theorem dX9_forget_1 : decode cX9_forget 1 = .ok (.getfield 10, 3) := by decide +kernel
theorem dX9_forget_4 : decode cX9_forget 4 = .ok (.getfield 273, 3) := by decide +kernel
theorem dX9_forget_7 : decode cX9_forget 7 = .ok (.istore_n 1, 1) := by decide +kernel
theorem dX9_forget_8 : decode cX9_forget 8 = .ok (.aload_n 0, 1) := by decide +kernel
theorem dX9_forget_9 : decode cX9_forget 9 = .ok (.getfield 10, 3) := by decide +kernel
theorem dX9_forget_12 : decode cX9_forget 12 = .ok (.iconst 0, 1) := by decide +kernel
theorem dX9_forget_13 : decode cX9_forget 13 = .ok (.putfield 273, 3) := by decide +kernel
theorem dX9_forget_16 : decode cX9_forget 16 = .ok (.iload_n 1, 1) := by decide +kernel
theorem dX9_forget_17 : decode cX9_forget 17 = .ok (.ireturn, 1) := by decide +kernel
set_option maxRecDepth 20000 in
theorem ggX9_was_X9_seated : GoodIn wsX9_was wsX9_seated := goodIn_r _ [6, 7, 1, 8, 9, 10, 11, 12, 13, 14, 15, 16, 17, 18, 19, 20, 21, 22, 23, 24, 25, 90, 91, 92, 93, 94, 95, 96, 97, 98, 99, 100, 101, 102, 103, 104, 105, 106, 107, 108, 109, 110, 111, 112, 113, 114, 115, 116, 117, 118, 124, 125, 126] rfl (by decide +kernel)
set_option maxRecDepth 20000 in
theorem gX9_was_X9_seated : GoodIn wsX9_was (wsV RX9 144 RX9 yX9_seated wsX9_seated) := goodIn_app (goodIn_of _ (by decide +kernel)) ggX9_was_X9_seated
theorem dX9_was_0 : decode cX9_was 0 = .ok (.aload_n 0, 1) := by decide +kernel
theorem dX9_was_1 : decode cX9_was 1 = .ok (.invokevirtual 144, 3) := by decide +kernel
theorem dX9_was_4 : decode cX9_was 4 = .ok (.astore_n 1, 1) := by decide +kernel
theorem dX9_was_5 : decode cX9_was 5 = .ok (.iconst 0, 1) := by decide +kernel
theorem dX9_was_6 : decode cX9_was 6 = .ok (.istore_n 2, 1) := by decide +kernel
theorem dX9_was_7 : decode cX9_was 7 = .ok (.iconst 1, 1) := by decide +kernel
theorem dX9_was_8 : decode cX9_was 8 = .ok (.istore_n 3, 1) := by decide +kernel
theorem dX9_was_9 : decode cX9_was 9 = .ok (.iload_n 3, 1) := by decide +kernel
theorem dX9_was_10 : decode cX9_was 10 = .ok (.aload_n 0, 1) := by decide +kernel
theorem dX9_was_11 : decode cX9_was 11 = .ok (.getfield 10, 3) := by decide +kernel
theorem dX9_was_14 : decode cX9_was 14 = .ok (.getfield 122, 3) := by decide +kernel
theorem dX9_was_17 : decode cX9_was 17 = .ok (.getfield 135, 3) := by decide +kernel
theorem dX9_was_20 : decode cX9_was 20 = .ok (.if_icmp .gt 41, 3) := by decide +kernel
theorem dX9_was_61 : decode cX9_was 61 = .ok (.iload_n 2, 1) := by decide +kernel
theorem dX9_was_62 : decode cX9_was 62 = .ok (.ireturn, 1) := by decide +kernel
set_option maxRecDepth 20000 in
theorem ggX9_look_X9_was : GoodIn wsX9_look wsX9_was := goodIn_r _ [6, 1, 7, 8, 9, 5, 10, 11, 12, 13, 14, 15, 16, 17, 18, 19, 20, 21, 22, 23, 24, 25, 26, 27, 28, 29, 30, 31, 32, 33, 34, 35, 36, 37, 38, 39, 40, 41, 42, 43, 44, 45, 46, 47, 48, 49, 50, 51, 52, 53, 54, 55, 56, 57, 58, 59, 60, 61, 62, 63, 64, 65, 66, 67, 68, 69, 70, 71, 72, 73, 74, 75, 76, 77, 78, 79, 80, 81, 82, 83, 84, 85, 86, 87, 88, 89, 90, 91, 92, 93, 105, 106, 107, 108, 109, 110, 111, 112, 113, 114, 115, 116, 117, 118, 119, 120, 121, 122, 123, 124, 125, 126, 127, 128, 129, 130, 131, 132, 133, 134, 135, 136, 137, 138, 139, 140, 141, 142, 143, 144, 145, 146, 147, 148, 149, 150, 151] rfl (by decide +kernel)
set_option maxRecDepth 20000 in
theorem gX9_look_X9_was : GoodIn wsX9_look (wsV RX9 285 RX9 yX9_was wsX9_was) := goodIn_app (goodIn_of _ (by decide +kernel)) ggX9_look_X9_was
theorem dX9_look_0 : decode cX9_look 0 = .ok (.aload_n 0, 1) := by decide +kernel
theorem dX9_look_1 : decode cX9_look 1 = .ok (.invokevirtual 285, 3) := by decide +kernel
theorem dX9_look_4 : decode cX9_look 4 = .ok (.istore_n 2, 1) := by decide +kernel
theorem dX9_look_5 : decode cX9_look 5 = .ok (.iload_n 2, 1) := by decide +kernel
theorem dX9_look_6 : decode cX9_look 6 = .ok (.ifCond .eq 10, 3) := by decide +kernel
theorem dX9_look_16 : decode cX9_look 16 = .ok (.iconst (-1), 1) := by decide +kernel
theorem dX9_look_17 : decode cX9_look 17 = .ok (.ireturn, 1) := by decide +kernel
set_option maxRecDepth 20000 in
theorem ggX9_compare_X6_isLaw : GoodIn wsX9_compare wsX6_isLaw := goodIn_r _ [8, 9, 182, 183, 184, 185, 186, 187, 188, 189, 190, 191] rfl (by decide +kernel)
set_option maxRecDepth 20000 in
theorem gX9_compare_X6_isLaw : GoodIn wsX9_compare (wsV RX9 205 RX6 yX6_isLaw wsX6_isLaw) := goodIn_app (goodIn_of _ (by decide +kernel)) ggX9_compare_X6_isLaw
set_option maxRecDepth 20000 in
theorem ggX9_compare_X6_lawAt : GoodIn wsX9_compare wsX6_lawAt := goodIn_r _ [13, 14, 15, 5, 6, 7, 8, 9, 182, 183, 184, 185, 186, 187, 188, 189, 190, 191] rfl (by decide +kernel)
set_option maxRecDepth 20000 in
theorem gX9_compare_X6_lawAt : GoodIn wsX9_compare (wsV RX9 306 RX6 yX6_lawAt wsX6_lawAt) := goodIn_app (goodIn_of _ (by decide +kernel)) ggX9_compare_X6_lawAt
set_option maxRecDepth 20000 in
theorem ggX9_compare_X1_seat : GoodIn wsX9_compare wsX1_seat := goodIn_r _ [20, 21, 22, 192, 193, 194] rfl (by decide +kernel)
set_option maxRecDepth 20000 in
theorem gX9_compare_X1_seat : GoodIn wsX9_compare (wsV RX9 313 RX1 yX1_seat wsX1_seat) := goodIn_app (goodIn_of _ (by decide +kernel)) ggX9_compare_X1_seat
set_option maxRecDepth 20000 in
theorem ggX9_compare_X9_spread : GoodIn wsX9_compare wsX9_spread := goodIn_r _ [27, 3, 1, 28, 29, 30, 31, 32, 33, 34, 35, 36, 37, 38, 39, 40, 41, 42, 43, 44, 45, 46, 47, 48, 49, 50, 51, 52, 53, 54, 55, 56, 57, 58, 59, 60, 61, 62, 63, 64, 65, 26, 66, 67, 68, 69, 70, 71, 72, 73, 74, 75, 76, 77, 78, 79, 80, 81, 82, 83, 84, 85, 86, 87, 88, 89, 90, 91, 92, 93, 94, 95, 96, 97, 19, 98, 22, 99, 100, 101, 102, 103, 104, 105, 106, 21, 107, 108, 109, 110, 111, 112, 113, 114, 115, 116, 117, 118, 119, 120, 121, 122, 123, 124, 125, 126, 127, 128, 129, 130, 131, 132, 163, 164, 165, 166, 167, 168, 169, 170, 171, 172, 173, 174, 175, 176, 177, 178, 179, 180, 181, 182, 183, 184, 185, 186, 187, 188, 189, 190, 191, 195, 196, 197, 198, 199, 200, 201, 202, 203, 204, 205, 206, 207, 208, 209, 210, 211, 212, 213, 214, 215, 216, 217, 218, 219, 192, 193, 194, 220, 221, 222, 223, 224, 225, 226, 227, 228, 229] rfl (by decide +kernel)
set_option maxRecDepth 20000 in
theorem gX9_compare_X9_spread : GoodIn wsX9_compare (wsV RX9 226 RX9 yX9_spread wsX9_spread) := goodIn_app (goodIn_of _ (by decide +kernel)) ggX9_compare_X9_spread
set_option maxRecDepth 20000 in
theorem ggX9_compare_X3_turnsToOrder : GoodIn wsX9_compare wsX3_turnsToOrder := goodIn_r _ [136, 37, 44, 137, 138, 139, 31, 140, 56, 33, 141, 34, 36, 51, 89, 142, 143, 144, 145, 146, 147, 148, 149, 150, 91, 92, 93, 94, 151, 152, 153, 154, 155, 156, 157, 158, 54, 55, 159, 160, 161, 162, 53, 130, 131, 132, 200, 201, 202, 203, 204, 205, 206, 207, 208, 209, 210, 211, 212, 213, 214, 215, 216, 217, 218, 219] rfl (by decide +kernel)
set_option maxRecDepth 20000 in
theorem gX9_compare_X3_turnsToOrder : GoodIn wsX9_compare (wsV RX9 230 RX3 yX3_turnsToOrder wsX3_turnsToOrder) := goodIn_app (goodIn_of _ (by decide +kernel)) ggX9_compare_X3_turnsToOrder
theorem dX9_compare_0 : decode cX9_compare 0 = .ok (.iload_n 1, 1) := by decide +kernel
theorem dX9_compare_1 : decode cX9_compare 1 = .ok (.iconst (-1), 1) := by decide +kernel
theorem dX9_compare_2 : decode cX9_compare 2 = .ok (.if_icmp .eq 16, 3) := by decide +kernel
theorem dX9_compare_5 : decode cX9_compare 5 = .ok (.aload_n 0, 1) := by decide +kernel
theorem dX9_compare_6 : decode cX9_compare 6 = .ok (.getfield 10, 3) := by decide +kernel
theorem dX9_compare_9 : decode cX9_compare 9 = .ok (.iload_n 1, 1) := by decide +kernel
theorem dX9_compare_10 : decode cX9_compare 10 = .ok (.invokevirtual 205, 3) := by decide +kernel
theorem dX9_compare_13 : decode cX9_compare 13 = .ok (.ifCond .ne 5, 3) := by decide +kernel
theorem dX9_compare_16 : decode cX9_compare 16 = .ok (.iconst (-1), 1) := by decide +kernel
theorem dX9_compare_17 : decode cX9_compare 17 = .ok (.ireturn, 1) := by decide +kernel
theorem dX9_compare_18 : decode cX9_compare 18 = .ok (.aload_n 0, 1) := by decide +kernel
theorem dX9_compare_19 : decode cX9_compare 19 = .ok (.getfield 50, 3) := by decide +kernel
theorem dX9_compare_22 : decode cX9_compare 22 = .ok (.aload_n 0, 1) := by decide +kernel
theorem dX9_compare_23 : decode cX9_compare 23 = .ok (.getfield 10, 3) := by decide +kernel
theorem dX9_compare_26 : decode cX9_compare 26 = .ok (.iload_n 1, 1) := by decide +kernel
theorem dX9_compare_27 : decode cX9_compare 27 = .ok (.invokevirtual 306, 3) := by decide +kernel
theorem dX9_compare_30 : decode cX9_compare 30 = .ok (.aload_n 0, 1) := by decide +kernel
theorem dX9_compare_31 : decode cX9_compare 31 = .ok (.getfield 10, 3) := by decide +kernel
theorem dX9_compare_34 : decode cX9_compare 34 = .ok (.getfield 310, 3) := by decide +kernel
theorem dX9_compare_37 : decode cX9_compare 37 = .ok (.invokevirtual 313, 3) := by decide +kernel
theorem dX9_compare_40 : decode cX9_compare 40 = .ok (.aload_n 0, 1) := by decide +kernel
theorem dX9_compare_41 : decode cX9_compare 41 = .ok (.aload_n 0, 1) := by decide +kernel
theorem dX9_compare_42 : decode cX9_compare 42 = .ok (.getfield 50, 3) := by decide +kernel
theorem dX9_compare_45 : decode cX9_compare 45 = .ok (.invokevirtual 226, 3) := by decide +kernel
theorem dX9_compare_48 : decode cX9_compare 48 = .ok (.aload_n 0, 1) := by decide +kernel
theorem dX9_compare_49 : decode cX9_compare 49 = .ok (.getfield 80, 3) := by decide +kernel
theorem dX9_compare_52 : decode cX9_compare 52 = .ok (.invokevirtual 230, 3) := by decide +kernel
theorem dX9_compare_55 : decode cX9_compare 55 = .ok (.ireturn, 1) := by decide +kernel
set_option maxRecDepth 20000 in
theorem ggX9_years_X9_refuse : GoodIn wsX9_years wsX9_refuse := goodIn_r _ [9, 10, 11, 160, 161, 162, 163, 164, 165, 166, 167, 168, 169, 170, 171, 172, 173, 174, 175, 176, 177, 178] rfl (by decide +kernel)
set_option maxRecDepth 20000 in
theorem gX9_years_X9_refuse : GoodIn wsX9_years (wsV RX9 118 RX9 yX9_refuse wsX9_refuse) := goodIn_app (goodIn_of _ (by decide +kernel)) ggX9_years_X9_refuse
theorem dX9_years_0 : decode cX9_years 0 = .ok (.iload_n 1, 1) := by decide +kernel
theorem dX9_years_1 : decode cX9_years 1 = .ok (.ifCond .lt 21, 3) := by decide +kernel
theorem dX9_years_4 : decode cX9_years 4 = .ok (.iload_n 1, 1) := by decide +kernel
theorem dX9_years_5 : decode cX9_years 5 = .ok (.ldc_w 317, 3) := by decide +kernel
theorem dX9_years_8 : decode cX9_years 8 = .ok (.if_icmp .gt 14, 3) := by decide +kernel
theorem dX9_years_11 : decode cX9_years 11 = .ok (.iload_n 2, 1) := by decide +kernel
theorem dX9_years_12 : decode cX9_years 12 = .ok (.iconst 1, 1) := by decide +kernel
theorem dX9_years_13 : decode cX9_years 13 = .ok (.if_icmp .lt 9, 3) := by decide +kernel
theorem dX9_years_16 : decode cX9_years 16 = .ok (.iload_n 2, 1) := by decide +kernel
theorem dX9_years_17 : decode cX9_years 17 = .ok (.bipush 60, 2) := by decide +kernel
theorem dX9_years_19 : decode cX9_years 19 = .ok (.if_icmp .le 9, 3) := by decide +kernel
theorem dX9_years_22 : decode cX9_years 22 = .ok (.aload_n 0, 1) := by decide +kernel
theorem dX9_years_23 : decode cX9_years 23 = .ok (.iconst (-1), 1) := by decide +kernel
theorem dX9_years_24 : decode cX9_years 24 = .ok (.invokevirtual 118, 3) := by decide +kernel
theorem dX9_years_27 : decode cX9_years 27 = .ok (.ireturn, 1) := by decide +kernel
theorem dX9_years_28 : decode cX9_years 28 = .ok (.aload_n 0, 1) := by decide +kernel
theorem dX9_years_29 : decode cX9_years 29 = .ok (.getfield 10, 3) := by decide +kernel
theorem dX9_years_32 : decode cX9_years 32 = .ok (.getfield 122, 3) := by decide +kernel
theorem dX9_years_35 : decode cX9_years 35 = .ok (.getfield 135, 3) := by decide +kernel
theorem dX9_years_38 : decode cX9_years 38 = .ok (.ifCond .ne 10, 3) := by decide +kernel
theorem dX9_years_41 : decode cX9_years 41 = .ok (.aload_n 0, 1) := by decide +kernel
theorem dX9_years_42 : decode cX9_years 42 = .ok (.bipush (-3), 2) := by decide +kernel
theorem dX9_years_44 : decode cX9_years 44 = .ok (.invokevirtual 118, 3) := by decide +kernel
theorem dX9_years_47 : decode cX9_years 47 = .ok (.ireturn, 1) := by decide +kernel
set_option maxRecDepth 20000 in
theorem ggX9_drawn_X8_tell : GoodIn wsX9_drawn wsX8_tell := goodIn_r _ [6, 7, 8, 9, 10, 11, 5, 12, 13, 14, 15, 16, 36, 37, 38, 39, 40] rfl (by decide +kernel)
set_option maxRecDepth 20000 in
theorem gX9_drawn_X8_tell : GoodIn wsX9_drawn (wsV RX9 156 RX8 yX8_tell wsX8_tell) := goodIn_app (goodIn_of _ (by decide +kernel)) ggX9_drawn_X8_tell
theorem dX9_drawn_0 : decode cX9_drawn 0 = .ok (.aload_n 0, 1) := by decide +kernel
theorem dX9_drawn_1 : decode cX9_drawn 1 = .ok (.getfield 34, 3) := by decide +kernel
theorem dX9_drawn_4 : decode cX9_drawn 4 = .ok (.iload_n 1, 1) := by decide +kernel
theorem dX9_drawn_5 : decode cX9_drawn 5 = .ok (.iload_n 2, 1) := by decide +kernel
theorem dX9_drawn_6 : decode cX9_drawn 6 = .ok (.invokevirtual 156, 3) := by decide +kernel
theorem dX9_drawn_9 : decode cX9_drawn 9 = .ok (.ireturn, 1) := by decide +kernel
