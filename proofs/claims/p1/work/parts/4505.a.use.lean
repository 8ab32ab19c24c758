theorem dX10_ones_0 : decode cX10_ones 0 = .ok (.iconst 0, 1) := by decide +kernel
theorem dX10_ones_1 : decode cX10_ones 1 = .ok (.istore_n 1, 1) := by decide +kernel
theorem dX10_ones_2 : decode cX10_ones 2 = .ok (.iconst 0, 1) := by decide +kernel
theorem dX10_ones_3 : decode cX10_ones 3 = .ok (.istore_n 2, 1) := by decide +kernel
theorem dX10_ones_4 : decode cX10_ones 4 = .ok (.iload_n 2, 1) := by decide +kernel
theorem dX10_ones_5 : decode cX10_ones 5 = .ok (.bipush 7, 2) := by decide +kernel
theorem dX10_ones_7 : decode cX10_ones 7 = .ok (.if_icmp .ge 17, 3) := by decide +kernel
theorem dX10_ones_10 : decode cX10_ones 10 = .ok (.iload_n 1, 1) := by decide +kernel
theorem dX10_ones_11 : decode cX10_ones 11 = .ok (.iload_n 0, 1) := by decide +kernel
theorem dX10_ones_12 : decode cX10_ones 12 = .ok (.iload_n 2, 1) := by decide +kernel
theorem dX10_ones_13 : decode cX10_ones 13 = .ok (.ishr, 1) := by decide +kernel
theorem dX10_ones_14 : decode cX10_ones 14 = .ok (.iconst 1, 1) := by decide +kernel
theorem dX10_ones_15 : decode cX10_ones 15 = .ok (.iand, 1) := by decide +kernel
theorem dX10_ones_16 : decode cX10_ones 16 = .ok (.iadd, 1) := by decide +kernel
theorem dX10_ones_17 : decode cX10_ones 17 = .ok (.istore_n 1, 1) := by decide +kernel
theorem dX10_ones_18 : decode cX10_ones 18 = .ok (.iinc 2 1, 3) := by decide +kernel
theorem dX10_ones_21 : decode cX10_ones 21 = .ok (.goto (-17), 3) := by decide +kernel
theorem dX10_ones_24 : decode cX10_ones 24 = .ok (.iload_n 1, 1) := by decide +kernel
theorem dX10_ones_25 : decode cX10_ones 25 = .ok (.ireturn, 1) := by decide +kernel
set_option maxRecDepth 20000 in
theorem ggX10_comes_X10_isOrder : GoodIn wsX10_comes wsX10_isOrder := goodIn_r _ [8, 9, 10, 11, 12, 7, 13, 14, 15, 16, 17, 18, 19, 20, 21, 22, 23, 24, 25, 169, 170, 171, 172, 173, 174, 175, 176, 177, 178, 179, 180, 181, 182, 183, 184, 185, 186, 187, 188, 189, 190, 191, 192, 193, 194, 195, 196, 197, 198, 199, 200, 201, 202, 203, 204, 205, 206, 207, 208, 209, 210, 211, 212, 213, 214, 215, 216, 217, 218, 219, 220, 221, 222, 223, 224] (by decide +kernel) (by decide +kernel)
set_option maxRecDepth 20000 in
theorem gX10_comes_X10_isOrder : GoodIn wsX10_comes (wsV RX10 445 RX10 yX10_isOrder wsX10_isOrder) := goodIn_app (goodIn_of _ (by decide +kernel)) ggX10_comes_X10_isOrder
set_option maxRecDepth 20000 in
theorem ggX10_comes_X10_numberOf : GoodIn wsX10_comes wsX10_numberOf := goodIn_r _ [29, 9, 10, 11, 12, 7, 13, 14, 169, 170, 171, 172, 173, 174, 175, 176, 177, 178, 179, 180, 181, 182, 183, 184, 185, 186, 187, 188, 189, 190, 191, 192, 193, 194, 195, 196, 197, 198, 199, 200, 201, 202, 203, 204, 205, 206, 207, 208, 209, 210, 211, 212, 213, 214, 215, 216, 217, 218, 219, 220, 221, 222, 223, 224] (by decide +kernel) (by decide +kernel)
set_option maxRecDepth 20000 in
theorem gX10_comes_X10_numberOf : GoodIn wsX10_comes (wsV RX10 395 RX10 yX10_numberOf wsX10_numberOf) := goodIn_app (goodIn_of _ (by decide +kernel)) ggX10_comes_X10_numberOf
set_option maxRecDepth 20000 in
theorem ggX10_comes_X10_laysReach : GoodIn wsX10_comes wsX10_laysReach := goodIn_r _ [33, 34, 3, 1, 35, 36, 37, 38, 7, 39, 40, 41, 42, 43, 44, 2, 9, 45, 46, 47, 10, 11, 12, 13, 14, 48, 49, 50, 51, 52, 53, 54, 19, 20, 21, 26, 27, 28, 29, 55, 56, 57, 58, 59, 60, 61, 62, 22, 23, 24, 25, 63, 64, 65, 66, 67, 68, 69, 70, 71, 72, 73, 74, 75, 76, 77, 78, 79, 80, 81, 82, 83, 84, 85, 86, 87, 88, 89, 90, 91, 92, 93, 94, 95, 96, 97, 98, 99, 100, 101, 102, 103, 104, 105, 106, 107, 108, 109, 110, 111, 112, 113, 114, 115, 116, 117, 118, 119, 120, 121, 122, 123, 124, 125, 126, 127, 128, 129, 130, 131, 132, 133, 134, 135, 136, 137, 138, 139, 140, 141, 142, 143, 144, 145, 146, 147, 148, 149, 150, 151, 152, 153, 154, 155, 156, 157, 158, 159, 160, 161, 162, 163, 164, 165, 169, 170, 171, 172, 173, 174, 175, 176, 177, 178, 179, 180, 181, 182, 183, 184, 185, 186, 187, 188, 189, 190, 191, 192, 193, 194, 195, 196, 197, 198, 199, 200, 201, 202, 203, 204, 205, 206, 207, 208, 209, 210, 211, 212, 213, 214, 215, 216, 217, 218, 219, 220, 221, 222, 223, 224] (by decide +kernel) (by decide +kernel)
set_option maxRecDepth 20000 in
theorem gX10_comes_X10_laysReach : GoodIn wsX10_comes (wsV RX10 442 RX10 yX10_laysReach wsX10_laysReach) := goodIn_app (goodIn_of _ (by decide +kernel)) ggX10_comes_X10_laysReach
set_option maxRecDepth 20000 in
theorem ggX10_comes_X10_lesser : GoodIn wsX10_comes wsX10_lesser := goodIn_r _ [168] (by decide +kernel) (by decide +kernel)
set_option maxRecDepth 20000 in
theorem gX10_comes_X10_lesser : GoodIn wsX10_comes (va_wsS RX10 350 yX10_lesser wsX10_lesser) := goodIn_app (goodIn_of _ (by decide +kernel)) ggX10_comes_X10_lesser
theorem dX10_comes_0 : decode cX10_comes 0 = .ok (.aload_n 0, 1) := by decide +kernel
theorem dX10_comes_1 : decode cX10_comes 1 = .ok (.iload_n 1, 1) := by decide +kernel
theorem dX10_comes_2 : decode cX10_comes 2 = .ok (.invokevirtual 445, 3) := by decide +kernel
theorem dX10_comes_5 : decode cX10_comes 5 = .ok (.ifCond .ne 5, 3) := by decide +kernel
theorem dX10_comes_8 : decode cX10_comes 8 = .ok (.iconst (-1), 1) := by decide +kernel
theorem dX10_comes_9 : decode cX10_comes 9 = .ok (.ireturn, 1) := by decide +kernel
theorem dX10_comes_10 : decode cX10_comes 10 = .ok (.aload_n 0, 1) := by decide +kernel
theorem dX10_comes_11 : decode cX10_comes 11 = .ok (.invokevirtual 395, 3) := by decide +kernel
theorem dX10_comes_14 : decode cX10_comes 14 = .ok (.istore_n 2, 1) := by decide +kernel
theorem dX10_comes_15 : decode cX10_comes 15 = .ok (.aload_n 0, 1) := by decide +kernel
theorem dX10_comes_16 : decode cX10_comes 16 = .ok (.invokevirtual 442, 3) := by decide +kernel
theorem dX10_comes_19 : decode cX10_comes 19 = .ok (.pop, 1) := by decide +kernel
theorem dX10_comes_20 : decode cX10_comes 20 = .ok (.ldc 188, 2) := by decide +kernel
theorem dX10_comes_22 : decode cX10_comes 22 = .ok (.istore_n 3, 1) := by decide +kernel
theorem dX10_comes_23 : decode cX10_comes 23 = .ok (.iconst 0, 1) := by decide +kernel
theorem dX10_comes_24 : decode cX10_comes 24 = .ok (.istore 4, 2) := by decide +kernel
theorem dX10_comes_26 : decode cX10_comes 26 = .ok (.iload 4, 2) := by decide +kernel
theorem dX10_comes_28 : decode cX10_comes 28 = .ok (.aload_n 0, 1) := by decide +kernel
theorem dX10_comes_29 : decode cX10_comes 29 = .ok (.getfield 389, 3) := by decide +kernel
theorem dX10_comes_32 : decode cX10_comes 32 = .ok (.if_icmp .ge 26, 3) := by decide +kernel
theorem dX10_comes_35 : decode cX10_comes 35 = .ok (.iload_n 3, 1) := by decide +kernel
theorem dX10_comes_36 : decode cX10_comes 36 = .ok (.aload_n 0, 1) := by decide +kernel
theorem dX10_comes_37 : decode cX10_comes 37 = .ok (.getfield 91, 3) := by decide +kernel
theorem dX10_comes_40 : decode cX10_comes 40 = .ok (.bipush 64, 2) := by decide +kernel
theorem dX10_comes_42 : decode cX10_comes 42 = .ok (.iload_n 2, 1) := by decide +kernel
theorem dX10_comes_43 : decode cX10_comes 43 = .ok (.imul, 1) := by decide +kernel
theorem dX10_comes_44 : decode cX10_comes 44 = .ok (.iload 4, 2) := by decide +kernel
theorem dX10_comes_46 : decode cX10_comes 46 = .ok (.iadd, 1) := by decide +kernel
theorem dX10_comes_47 : decode cX10_comes 47 = .ok (.iaload, 1) := by decide +kernel
theorem dX10_comes_48 : decode cX10_comes 48 = .ok (.invokestatic 350, 3) := by decide +kernel
theorem dX10_comes_51 : decode cX10_comes 51 = .ok (.istore_n 3, 1) := by decide +kernel
theorem dX10_comes_52 : decode cX10_comes 52 = .ok (.iinc 4 1, 3) := by decide +kernel
theorem dX10_comes_55 : decode cX10_comes 55 = .ok (.goto (-29), 3) := by decide +kernel
theorem dX10_comes_58 : decode cX10_comes 58 = .ok (.iload_n 3, 1) := by decide +kernel
theorem dX10_comes_59 : decode cX10_comes 59 = .ok (.ldc 188, 2) := by decide +kernel
theorem dX10_comes_61 : decode cX10_comes 61 = .ok (.if_icmp .ne 7, 3) := by decide +kernel
theorem dX10_comes_68 : decode cX10_comes 68 = .ok (.iload_n 3, 1) := by decide +kernel
theorem dX10_comes_69 : decode cX10_comes 69 = .ok (.ireturn, 1) := by decide +kernel
set_option maxRecDepth 20000 in
theorem ggX10_view_X10_isRank : GoodIn wsX10_view wsX10_isRank := goodIn_r _ [8, 9, 10, 7, 11] (by decide +kernel) (by decide +kernel)
set_option maxRecDepth 20000 in
theorem gX10_view_X10_isRank : GoodIn wsX10_view (va_wsS RX10 129 yX10_isRank wsX10_isRank) := goodIn_app (goodIn_of _ (by decide +kernel)) ggX10_view_X10_isRank
set_option maxRecDepth 20000 in
theorem ggX10_view_X10_placeOf : GoodIn wsX10_view wsX10_placeOf := goodIn_r _ [15, 16, 17, 18, 19, 7, 20, 172, 173, 174, 175, 176, 177, 178, 179, 180, 181, 182, 183, 184, 185, 186, 187, 188, 189, 190, 191, 192, 193, 194, 195, 196, 197, 198, 199, 200, 201, 202, 203, 204, 205, 206, 207, 208, 209, 210, 211, 212, 213, 214, 215, 216, 217, 218, 219, 220, 221, 222, 223, 224, 225, 226, 227] (by decide +kernel) (by decide +kernel)
set_option maxRecDepth 20000 in
theorem gX10_view_X10_placeOf : GoodIn wsX10_view (wsV RX10 136 RX10 yX10_placeOf wsX10_placeOf) := goodIn_app (goodIn_of _ (by decide +kernel)) ggX10_view_X10_placeOf
theorem dX10_view_0 : decode cX10_view 0 = .ok (.iload_n 1, 1) := by decide +kernel
theorem dX10_view_1 : decode cX10_view 1 = .ok (.invokestatic 129, 3) := by decide +kernel
theorem dX10_view_4 : decode cX10_view 4 = .ok (.ifCond .eq 12, 3) := by decide +kernel
theorem dX10_view_7 : decode cX10_view 7 = .ok (.aload_n 0, 1) := by decide +kernel
theorem dX10_view_8 : decode cX10_view 8 = .ok (.iload_n 1, 1) := by decide +kernel
theorem dX10_view_9 : decode cX10_view 9 = .ok (.invokevirtual 136, 3) := by decide +kernel
theorem dX10_view_12 : decode cX10_view 12 = .ok (.iconst (-1), 1) := by decide +kernel
theorem dX10_view_13 : decode cX10_view 13 = .ok (.if_icmp .ne 5, 3) := by decide +kernel
theorem dX10_view_16 : decode cX10_view 16 = .ok (.iconst (-1), 1) := by decide +kernel
theorem dX10_view_17 : decode cX10_view 17 = .ok (.ireturn, 1) := by decide +kernel
set_option maxRecDepth 20000 in
theorem ggX10_stays_X10_lies : GoodIn wsX10_stays wsX10_lies := goodIn_r _ [4] (by decide +kernel) (by decide +kernel)
set_option maxRecDepth 20000 in
theorem gX10_stays_X10_lies : GoodIn wsX10_stays (va_wsS RX10 18 yX10_lies wsX10_lies) := goodIn_app (goodIn_of _ (by decide +kernel)) ggX10_stays_X10_lies
set_option maxRecDepth 20000 in
theorem ggX10_stays_X10_size : GoodIn wsX10_stays wsX10_size := goodIn_r _ [8, 9, 20, 21, 22, 23, 24, 25, 26, 27, 28, 29, 30, 31, 32, 33, 34, 35, 36, 37, 38, 39, 40, 41, 42, 43, 44, 45, 46, 47, 48, 49, 50, 51, 52, 53, 54, 55, 56, 57, 58, 59, 60, 61, 62, 63, 64, 65, 66, 67, 68, 69, 70, 71, 72, 73, 74, 75] (by decide +kernel) (by decide +kernel)
set_option maxRecDepth 20000 in
theorem gX10_stays_X10_size : GoodIn wsX10_stays (wsV RX10 125 RX10 yX10_size wsX10_size) := goodIn_app (goodIn_of _ (by decide +kernel)) ggX10_stays_X10_size
set_option maxRecDepth 20000 in
theorem ggX10_stays_X10_ones : GoodIn wsX10_stays wsX10_ones := goodIn_r _ [12] (by decide +kernel) (by decide +kernel)
set_option maxRecDepth 20000 in
theorem gX10_stays_X10_ones : GoodIn wsX10_stays (va_wsS RX10 448 yX10_ones wsX10_ones) := goodIn_app (goodIn_of _ (by decide +kernel)) ggX10_stays_X10_ones
theorem dX10_stays_0 : decode cX10_stays 0 = .ok (.iload_n 1, 1) := by decide +kernel
theorem dX10_stays_1 : decode cX10_stays 1 = .ok (.iconst 0, 1) := by decide +kernel
theorem dX10_stays_2 : decode cX10_stays 2 = .ok (.iconst 1, 1) := by decide +kernel
theorem dX10_stays_3 : decode cX10_stays 3 = .ok (.invokestatic 18, 3) := by decide +kernel
theorem dX10_stays_6 : decode cX10_stays 6 = .ok (.ifCond .ne 5, 3) := by decide +kernel
theorem dX10_stays_9 : decode cX10_stays 9 = .ok (.iconst (-1), 1) := by decide +kernel
theorem dX10_stays_10 : decode cX10_stays 10 = .ok (.ireturn, 1) := by decide +kernel
theorem dX10_stays_11 : decode cX10_stays 11 = .ok (.iconst 0, 1) := by decide +kernel
theorem dX10_stays_12 : decode cX10_stays 12 = .ok (.istore_n 2, 1) := by decide +kernel
theorem dX10_stays_13 : decode cX10_stays 13 = .ok (.iconst 0, 1) := by decide +kernel
theorem dX10_stays_14 : decode cX10_stays 14 = .ok (.istore_n 3, 1) := by decide +kernel
theorem dX10_stays_15 : decode cX10_stays 15 = .ok (.iload_n 3, 1) := by decide +kernel
theorem dX10_stays_16 : decode cX10_stays 16 = .ok (.iconst 1, 1) := by decide +kernel
theorem dX10_stays_17 : decode cX10_stays 17 = .ok (.aload_n 0, 1) := by decide +kernel
theorem dX10_stays_18 : decode cX10_stays 18 = .ok (.invokevirtual 125, 3) := by decide +kernel
theorem dX10_stays_21 : decode cX10_stays 21 = .ok (.ishl, 1) := by decide +kernel
theorem dX10_stays_22 : decode cX10_stays 22 = .ok (.if_icmp .ge 30, 3) := by decide +kernel
theorem dX10_stays_25 : decode cX10_stays 25 = .ok (.iload_n 3, 1) := by decide +kernel
theorem dX10_stays_26 : decode cX10_stays 26 = .ok (.invokestatic 448, 3) := by decide +kernel
theorem dX10_stays_29 : decode cX10_stays 29 = .ok (.iload_n 2, 1) := by decide +kernel
theorem dX10_stays_30 : decode cX10_stays 30 = .ok (.invokestatic 448, 3) := by decide +kernel
theorem dX10_stays_33 : decode cX10_stays 33 = .ok (.if_icmp .le 13, 3) := by decide +kernel
theorem dX10_stays_46 : decode cX10_stays 46 = .ok (.iinc 3 1, 3) := by decide +kernel
theorem dX10_stays_49 : decode cX10_stays 49 = .ok (.goto (-34), 3) := by decide +kernel
theorem dX10_stays_52 : decode cX10_stays 52 = .ok (.iload_n 1, 1) := by decide +kernel
theorem dX10_stays_53 : decode cX10_stays 53 = .ok (.ifCond .ne 10, 3) := by decide +kernel
theorem dX10_stays_56 : decode cX10_stays 56 = .ok (.iload_n 2, 1) := by decide +kernel
theorem dX10_stays_57 : decode cX10_stays 57 = .ok (.invokestatic 448, 3) := by decide +kernel
theorem dX10_stays_60 : decode cX10_stays 60 = .ok (.goto 4, 3) := by decide +kernel
theorem dX10_stays_63 : decode cX10_stays 63 = .ok (.iload_n 2, 1) := by decide +kernel
theorem dX10_stays_64 : decode cX10_stays 64 = .ok (.ireturn, 1) := by decide +kernel
set_option maxRecDepth 20000 in
theorem ggX10_seen_X10_isRank : GoodIn wsX10_seen wsX10_isRank := goodIn_r _ [5, 6, 7, 4, 8] (by decide +kernel) (by decide +kernel)
set_option maxRecDepth 20000 in
theorem gX10_seen_X10_isRank : GoodIn wsX10_seen (va_wsS RX10 129 yX10_isRank wsX10_isRank) := goodIn_app (goodIn_of _ (by decide +kernel)) ggX10_seen_X10_isRank
set_option maxRecDepth 20000 in
theorem ggX10_seen_X10_refuses : GoodIn wsX10_seen wsX10_refuses := goodIn_r _ [12, 13, 14, 19, 20, 21, 22, 23, 24, 25, 26, 27, 28, 29, 30, 31, 32, 33, 34, 35, 36, 37, 38, 39, 40, 41, 42, 43, 44, 45, 46, 47, 48, 49, 50, 51, 52, 53, 54, 55, 56, 57, 58, 59, 60, 61, 62, 63, 64, 65, 66, 67, 68, 69, 70, 71, 72, 73, 74] (by decide +kernel) (by decide +kernel)
set_option maxRecDepth 20000 in
theorem gX10_seen_X10_refuses : GoodIn wsX10_seen (wsV RX10 119 RX10 yX10_refuses wsX10_refuses) := goodIn_app (goodIn_of _ (by decide +kernel)) ggX10_seen_X10_refuses
set_option maxRecDepth 20000 in
theorem ggX10_seen_X10_good : GoodIn wsX10_seen wsX10_good := goodIn_r _ [18, 13, 19, 20, 21, 22, 23, 24, 25, 26, 27, 28, 29, 30, 31, 32, 33, 34, 35, 36, 37, 38, 39, 40, 41, 42, 43, 44, 45, 46, 47, 48, 49, 50, 51, 52, 53, 54, 55, 56, 57, 58, 59, 60, 61, 62, 63, 64, 65, 66, 67, 68, 69, 70, 71, 72, 73, 74] (by decide +kernel) (by decide +kernel)
set_option maxRecDepth 20000 in
theorem gX10_seen_X10_good : GoodIn wsX10_seen (wsV RX10 14 RX10 yX10_good wsX10_good) := goodIn_app (goodIn_of _ (by decide +kernel)) ggX10_seen_X10_good
theorem dX10_seen_0 : decode cX10_seen 0 = .ok (.iload_n 1, 1) := by decide +kernel
theorem dX10_seen_1 : decode cX10_seen 1 = .ok (.invokestatic 129, 3) := by decide +kernel
theorem dX10_seen_4 : decode cX10_seen 4 = .ok (.ifCond .eq 10, 3) := by decide +kernel
theorem dX10_seen_7 : decode cX10_seen 7 = .ok (.iload_n 2, 1) := by decide +kernel
theorem dX10_seen_8 : decode cX10_seen 8 = .ok (.invokestatic 129, 3) := by decide +kernel
theorem dX10_seen_11 : decode cX10_seen 11 = .ok (.ifCond .ne 9, 3) := by decide +kernel
theorem dX10_seen_14 : decode cX10_seen 14 = .ok (.aload_n 0, 1) := by decide +kernel
theorem dX10_seen_15 : decode cX10_seen 15 = .ok (.iconst (-1), 1) := by decide +kernel
theorem dX10_seen_16 : decode cX10_seen 16 = .ok (.invokevirtual 119, 3) := by decide +kernel
theorem dX10_seen_19 : decode cX10_seen 19 = .ok (.ireturn, 1) := by decide +kernel
theorem dX10_seen_20 : decode cX10_seen 20 = .ok (.bipush 14, 2) := by decide +kernel
theorem dX10_seen_22 : decode cX10_seen 22 = .ok (.iconst 2, 1) := by decide +kernel
theorem dX10_seen_23 : decode cX10_seen 23 = .ok (.aload_n 0, 1) := by decide +kernel
theorem dX10_seen_24 : decode cX10_seen 24 = .ok (.getfield 28, 3) := by decide +kernel
theorem dX10_seen_27 : decode cX10_seen 27 = .ok (.bipush 30, 2) := by decide +kernel
theorem dX10_seen_29 : decode cX10_seen 29 = .ok (.iaload, 1) := by decide +kernel
theorem dX10_seen_30 : decode cX10_seen 30 = .ok (.imul, 1) := by decide +kernel
theorem dX10_seen_31 : decode cX10_seen 31 = .ok (.iadd, 1) := by decide +kernel
theorem dX10_seen_32 : decode cX10_seen 32 = .ok (.istore_n 3, 1) := by decide +kernel
theorem dX10_seen_33 : decode cX10_seen 33 = .ok (.aload_n 0, 1) := by decide +kernel
theorem dX10_seen_34 : decode cX10_seen 34 = .ok (.getfield 28, 3) := by decide +kernel
theorem dX10_seen_37 : decode cX10_seen 37 = .ok (.bipush 30, 2) := by decide +kernel
theorem dX10_seen_39 : decode cX10_seen 39 = .ok (.iaload, 1) := by decide +kernel
theorem dX10_seen_40 : decode cX10_seen 40 = .ok (.bipush 6, 2) := by decide +kernel
theorem dX10_seen_42 : decode cX10_seen 42 = .ok (.if_icmp .ne 10, 3) := by decide +kernel
theorem dX10_seen_52 : decode cX10_seen 52 = .ok (.aload_n 0, 1) := by decide +kernel
theorem dX10_seen_53 : decode cX10_seen 53 = .ok (.getfield 28, 3) := by decide +kernel
theorem dX10_seen_56 : decode cX10_seen 56 = .ok (.iload_n 3, 1) := by decide +kernel
theorem dX10_seen_57 : decode cX10_seen 57 = .ok (.iload_n 1, 1) := by decide +kernel
theorem dX10_seen_58 : decode cX10_seen 58 = .ok (.iastore, 1) := by decide +kernel
theorem dX10_seen_59 : decode cX10_seen 59 = .ok (.aload_n 0, 1) := by decide +kernel
theorem dX10_seen_60 : decode cX10_seen 60 = .ok (.getfield 28, 3) := by decide +kernel
theorem dX10_seen_63 : decode cX10_seen 63 = .ok (.iload_n 3, 1) := by decide +kernel
theorem dX10_seen_64 : decode cX10_seen 64 = .ok (.iconst 1, 1) := by decide +kernel
theorem dX10_seen_65 : decode cX10_seen 65 = .ok (.iadd, 1) := by decide +kernel
theorem dX10_seen_66 : decode cX10_seen 66 = .ok (.iload_n 2, 1) := by decide +kernel
theorem dX10_seen_67 : decode cX10_seen 67 = .ok (.iastore, 1) := by decide +kernel
theorem dX10_seen_68 : decode cX10_seen 68 = .ok (.aload_n 0, 1) := by decide +kernel
theorem dX10_seen_69 : decode cX10_seen 69 = .ok (.getfield 28, 3) := by decide +kernel
theorem dX10_seen_72 : decode cX10_seen 72 = .ok (.bipush 30, 2) := by decide +kernel
theorem dX10_seen_74 : decode cX10_seen 74 = .ok (.dup2, 1) := by decide +kernel
theorem dX10_seen_75 : decode cX10_seen 75 = .ok (.iaload, 1) := by decide +kernel
theorem dX10_seen_76 : decode cX10_seen 76 = .ok (.iconst 1, 1) := by decide +kernel
theorem dX10_seen_77 : decode cX10_seen 77 = .ok (.iadd, 1) := by decide +kernel
theorem dX10_seen_78 : decode cX10_seen 78 = .ok (.iastore, 1) := by decide +kernel
theorem dX10_seen_79 : decode cX10_seen 79 = .ok (.aload_n 0, 1) := by decide +kernel
theorem dX10_seen_80 : decode cX10_seen 80 = .ok (.aload_n 0, 1) := by decide +kernel
theorem dX10_seen_81 : decode cX10_seen 81 = .ok (.getfield 28, 3) := by decide +kernel
theorem dX10_seen_84 : decode cX10_seen 84 = .ok (.bipush 30, 2) := by decide +kernel
theorem dX10_seen_86 : decode cX10_seen 86 = .ok (.iaload, 1) := by decide +kernel
theorem dX10_seen_87 : decode cX10_seen 87 = .ok (.invokevirtual 14, 3) := by decide +kernel
theorem dX10_seen_90 : decode cX10_seen 90 = .ok (.ireturn, 1) := by decide +kernel
theorem dX10_forget_0 : decode cX10_forget 0 = .ok (.aload_n 0, 1) := by decide +kernel
theorem dX10_forget_1 : decode cX10_forget 1 = .ok (.getfield 28, 3) := by decide +kernel
theorem dX10_forget_4 : decode cX10_forget 4 = .ok (.bipush 30, 2) := by decide +kernel
theorem dX10_forget_6 : decode cX10_forget 6 = .ok (.iaload, 1) := by decide +kernel
theorem dX10_forget_7 : decode cX10_forget 7 = .ok (.istore_n 1, 1) := by decide +kernel
theorem dX10_forget_8 : decode cX10_forget 8 = .ok (.aload_n 0, 1) := by decide +kernel
theorem dX10_forget_9 : decode cX10_forget 9 = .ok (.getfield 28, 3) := by decide +kernel
theorem dX10_forget_12 : decode cX10_forget 12 = .ok (.bipush 30, 2) := by decide +kernel
theorem dX10_forget_14 : decode cX10_forget 14 = .ok (.iconst 0, 1) := by decide +kernel
theorem dX10_forget_15 : decode cX10_forget 15 = .ok (.iastore, 1) := by decide +kernel
theorem dX10_forget_16 : decode cX10_forget 16 = .ok (.iload_n 1, 1) := by decide +kernel
theorem dX10_forget_17 : decode cX10_forget 17 = .ok (.ireturn, 1) := by decide +kernel
set_option maxRecDepth 20000 in
theorem ggX10_was_X10_size : GoodIn wsX10_was wsX10_size := goodIn_r _ [5, 6, 111, 112, 113, 114, 115, 116, 117, 118, 119, 120, 121, 122, 123, 124, 125, 126, 127, 128, 129, 130, 131, 132, 133, 134, 135, 136, 137, 138, 139, 140, 141, 142, 143, 144, 145, 146, 147, 148, 149, 150, 151, 152, 153, 154, 155, 156, 157, 158, 159, 160, 161, 162, 163, 164, 165, 166] (by decide +kernel) (by decide +kernel)
set_option maxRecDepth 20000 in
theorem gX10_was_X10_size : GoodIn wsX10_was (wsV RX10 125 RX10 yX10_size wsX10_size) := goodIn_app (goodIn_of _ (by decide +kernel)) ggX10_was_X10_size
theorem dX10_was_0 : decode cX10_was 0 = .ok (.iconst 0, 1) := by decide +kernel
theorem dX10_was_1 : decode cX10_was 1 = .ok (.istore_n 1, 1) := by decide +kernel
theorem dX10_was_2 : decode cX10_was 2 = .ok (.iconst 1, 1) := by decide +kernel
theorem dX10_was_3 : decode cX10_was 3 = .ok (.istore_n 2, 1) := by decide +kernel
theorem dX10_was_4 : decode cX10_was 4 = .ok (.iload_n 2, 1) := by decide +kernel
theorem dX10_was_5 : decode cX10_was 5 = .ok (.aload_n 0, 1) := by decide +kernel
theorem dX10_was_6 : decode cX10_was 6 = .ok (.invokevirtual 125, 3) := by decide +kernel
theorem dX10_was_9 : decode cX10_was 9 = .ok (.if_icmp .gt 27, 3) := by decide +kernel
theorem dX10_was_36 : decode cX10_was 36 = .ok (.iload_n 1, 1) := by decide +kernel
theorem dX10_was_37 : decode cX10_was 37 = .ok (.ireturn, 1) := by decide +kernel
set_option maxRecDepth 20000 in
theorem ggX10_look_X10_lies : GoodIn wsX10_look wsX10_lies := goodIn_r _ [5] (by decide +kernel) (by decide +kernel)
set_option maxRecDepth 20000 in
theorem gX10_look_X10_lies : GoodIn wsX10_look (va_wsS RX10 18 yX10_lies wsX10_lies) := goodIn_app (goodIn_of _ (by decide +kernel)) ggX10_look_X10_lies
set_option maxRecDepth 20000 in
theorem ggX10_look_X10_was : GoodIn wsX10_look wsX10_was := goodIn_r _ [9, 10, 11, 12, 4, 13, 14, 15, 16, 17, 18, 19, 20, 21, 22, 23, 24, 25, 26, 27, 28, 29, 30, 31, 32, 33, 34, 35, 36, 37, 38, 39, 40, 41, 42, 43, 44, 45, 46, 47, 48, 49, 50, 51, 52, 53, 54, 55, 56, 57, 58, 59, 60, 61, 62, 63, 64, 65, 66, 67, 68, 69, 70, 71, 72, 73, 74, 75, 76, 77, 78, 79, 80, 81, 82, 83, 2, 3, 5, 84, 85, 86, 87, 88, 89, 90, 91, 92, 93, 94, 95, 96, 97, 98, 99, 100, 101, 102, 103, 104, 105, 106, 107, 108, 109, 110, 111, 112, 113, 114, 115, 127, 128, 129, 130, 131, 132, 133, 134, 135, 136, 137, 138, 139, 140, 141, 142, 143, 144, 145, 146, 147, 148, 149, 150, 151, 152, 153, 154, 155, 156, 157, 158, 159, 160, 161, 162, 163, 164, 165, 166, 167, 168, 169, 170, 171, 172, 173, 174, 175, 176, 177, 178, 179, 180, 181, 182] (by decide +kernel) (by decide +kernel)
set_option maxRecDepth 20000 in
theorem gX10_look_X10_was : GoodIn wsX10_look (wsV RX10 460 RX10 yX10_was wsX10_was) := goodIn_app (goodIn_of _ (by decide +kernel)) ggX10_look_X10_was
set_option maxRecDepth 20000 in
theorem ggX10_look_X10_size : GoodIn wsX10_look wsX10_size := goodIn_r _ [13, 14, 127, 128, 129, 130, 131, 132, 133, 134, 135, 136, 137, 138, 139, 140, 141, 142, 143, 144, 145, 146, 147, 148, 149, 150, 151, 152, 153, 154, 155, 156, 157, 158, 159, 160, 161, 162, 163, 164, 165, 166, 167, 168, 169, 170, 171, 172, 173, 174, 175, 176, 177, 178, 179, 180, 181, 182] (by decide +kernel) (by decide +kernel)
set_option maxRecDepth 20000 in
theorem gX10_look_X10_size : GoodIn wsX10_look (wsV RX10 125 RX10 yX10_size wsX10_size) := goodIn_app (goodIn_of _ (by decide +kernel)) ggX10_look_X10_size
theorem dX10_look_0 : decode cX10_look 0 = .ok (.iload_n 1, 1) := by decide +kernel
theorem dX10_look_1 : decode cX10_look 1 = .ok (.iconst 0, 1) := by decide +kernel
theorem dX10_look_2 : decode cX10_look 2 = .ok (.iconst 1, 1) := by decide +kernel
theorem dX10_look_3 : decode cX10_look 3 = .ok (.invokestatic 18, 3) := by decide +kernel
theorem dX10_look_6 : decode cX10_look 6 = .ok (.ifCond .ne 5, 3) := by decide +kernel
theorem dX10_look_9 : decode cX10_look 9 = .ok (.iconst (-1), 1) := by decide +kernel
theorem dX10_look_10 : decode cX10_look 10 = .ok (.ireturn, 1) := by decide +kernel
theorem dX10_look_11 : decode cX10_look 11 = .ok (.aload_n 0, 1) := by decide +kernel
theorem dX10_look_12 : decode cX10_look 12 = .ok (.invokevirtual 460, 3) := by decide +kernel
theorem dX10_look_15 : decode cX10_look 15 = .ok (.istore_n 2, 1) := by decide +kernel
theorem dX10_look_16 : decode cX10_look 16 = .ok (.iconst (-1), 1) := by decide +kernel
theorem dX10_look_17 : decode cX10_look 17 = .ok (.istore_n 3, 1) := by decide +kernel
theorem dX10_look_18 : decode cX10_look 18 = .ok (.ldc 188, 2) := by decide +kernel
theorem dX10_look_20 : decode cX10_look 20 = .ok (.istore 4, 2) := by decide +kernel
theorem dX10_look_22 : decode cX10_look 22 = .ok (.iconst 0, 1) := by decide +kernel
theorem dX10_look_23 : decode cX10_look 23 = .ok (.istore 5, 2) := by decide +kernel
theorem dX10_look_25 : decode cX10_look 25 = .ok (.iload 5, 2) := by decide +kernel
theorem dX10_look_27 : decode cX10_look 27 = .ok (.aload_n 0, 1) := by decide +kernel
theorem dX10_look_28 : decode cX10_look 28 = .ok (.invokevirtual 125, 3) := by decide +kernel
theorem dX10_look_31 : decode cX10_look 31 = .ok (.if_icmp .ge 39, 3) := by decide +kernel
theorem dX10_look_70 : decode cX10_look 70 = .ok (.iload_n 3, 1) := by decide +kernel
theorem dX10_look_71 : decode cX10_look 71 = .ok (.iconst (-1), 1) := by decide +kernel
theorem dX10_look_72 : decode cX10_look 72 = .ok (.if_icmp .eq 7, 3) := by decide +kernel
theorem dX10_look_79 : decode cX10_look 79 = .ok (.iload_n 3, 1) := by decide +kernel
theorem dX10_look_80 : decode cX10_look 80 = .ok (.goto 5, 3) := by decide +kernel
theorem dX10_look_85 : decode cX10_look 85 = .ok (.ireturn, 1) := by decide +kernel
