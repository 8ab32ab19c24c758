set_option maxRecDepth 20000 in
theorem ggX10_back_X10_lies : GoodIn wsX10_back wsX10_lies := goodIn_r _ [7] (by decide +kernel) (by decide +kernel)
set_option maxRecDepth 20000 in
theorem gX10_back_X10_lies : GoodIn wsX10_back (va_wsS RX10 18 yX10_lies wsX10_lies) := goodIn_app (goodIn_of _ (by decide +kernel)) ggX10_back_X10_lies
set_option maxRecDepth 20000 in
theorem ggX10_back_X10_refuses : GoodIn wsX10_back wsX10_refuses := goodIn_r _ [11, 12, 13, 23, 24, 25, 26, 27, 28, 29, 30, 31, 32, 33, 34, 35, 36, 37, 38, 39, 40, 41, 42, 43, 44, 45, 46, 47, 48, 49, 50, 51, 52, 53, 54, 55, 56, 57, 58, 59, 60, 61, 62, 63, 64, 65, 66, 67, 68, 69, 70, 71, 72, 73, 74, 75, 76, 77, 78] (by decide +kernel) (by decide +kernel)
set_option maxRecDepth 20000 in
theorem gX10_back_X10_refuses : GoodIn wsX10_back (wsV RX10 119 RX10 yX10_refuses wsX10_refuses) := goodIn_app (goodIn_of _ (by decide +kernel)) ggX10_back_X10_refuses
theorem dX10_back_0 : decode cX10_back 0 = .ok (.iload_n 1, 1) := by decide +kernel
theorem dX10_back_1 : decode cX10_back 1 = .ok (.iconst 0, 1) := by decide +kernel
theorem dX10_back_2 : decode cX10_back 2 = .ok (.iconst 1, 1) := by decide +kernel
theorem dX10_back_3 : decode cX10_back 3 = .ok (.invokestatic 18, 3) := by decide +kernel
theorem dX10_back_6 : decode cX10_back 6 = .ok (.ifCond .ne 9, 3) := by decide +kernel
theorem dX10_back_9 : decode cX10_back 9 = .ok (.aload_n 0, 1) := by decide +kernel
theorem dX10_back_10 : decode cX10_back 10 = .ok (.iconst (-1), 1) := by decide +kernel
theorem dX10_back_11 : decode cX10_back 11 = .ok (.invokevirtual 119, 3) := by decide +kernel
theorem dX10_back_14 : decode cX10_back 14 = .ok (.ireturn, 1) := by decide +kernel
theorem dX10_back_15 : decode cX10_back 15 = .ok (.aload_n 0, 1) := by decide +kernel
theorem dX10_back_16 : decode cX10_back 16 = .ok (.getfield 34, 3) := by decide +kernel
theorem dX10_back_19 : decode cX10_back 19 = .ok (.iload_n 1, 1) := by decide +kernel
theorem dX10_back_20 : decode cX10_back 20 = .ok (.baload, 1) := by decide +kernel
theorem dX10_back_21 : decode cX10_back 21 = .ok (.ifCond .ne 10, 3) := by decide +kernel
theorem dX10_back_24 : decode cX10_back 24 = .ok (.aload_n 0, 1) := by decide +kernel
theorem dX10_back_25 : decode cX10_back 25 = .ok (.bipush (-2), 2) := by decide +kernel
theorem dX10_back_27 : decode cX10_back 27 = .ok (.invokevirtual 119, 3) := by decide +kernel
theorem dX10_back_30 : decode cX10_back 30 = .ok (.ireturn, 1) := by decide +kernel
set_option maxRecDepth 20000 in
theorem ggX10_compare_X10_isLaw : GoodIn wsX10_compare wsX10_isLaw := goodIn_r _ [6, 1, 7, 8, 5, 9, 179, 180, 181, 182, 183, 184, 185, 186, 187, 188, 189, 190, 191, 192, 193, 194, 195, 196, 197, 198, 199, 200, 201, 202, 203, 204, 205, 206, 207, 208, 209, 210, 211, 212, 213, 214, 215, 216, 217, 218, 219, 220, 221, 222, 223, 224, 225, 226, 227, 228, 229, 230, 231, 232, 233, 234] (by decide +kernel) (by decide +kernel)
set_option maxRecDepth 20000 in
theorem gX10_compare_X10_isLaw : GoodIn wsX10_compare (wsV RX10 272 RX10 yX10_isLaw wsX10_isLaw) := goodIn_app (goodIn_of _ (by decide +kernel)) ggX10_compare_X10_isLaw
set_option maxRecDepth 20000 in
theorem ggX10_compare_X10_fewest : GoodIn wsX10_compare wsX10_fewest := goodIn_r _ [13, 14, 15, 16, 17, 18, 5, 19, 20, 21, 22, 23, 24, 25, 26, 27, 28, 29, 30, 31, 32, 33, 34, 35, 36, 37, 38, 39, 40, 41, 1, 42, 43, 44, 45, 46, 47, 48, 49, 50, 51, 52, 53, 54, 55, 56, 57, 58, 59, 60, 61, 62, 63, 64, 65, 66, 67, 68, 69, 70, 71, 72, 73, 74, 75, 76, 77, 78, 79, 80, 81, 82, 83, 84, 85, 86, 87, 88, 89, 90, 91, 92, 93, 94, 95, 96, 97, 98, 99, 100, 101, 102, 103, 104, 105, 106, 107, 108, 109, 110, 111, 112, 113, 114, 115, 116, 117, 118, 119, 120, 121, 122, 123, 124, 125, 126, 127, 7, 8, 9, 128, 129, 130, 131, 132, 133, 134, 135, 136, 137, 138, 139, 140, 141, 142, 143, 144, 145, 146, 147, 148, 149, 150, 151, 152, 153, 154, 155, 156, 157, 158, 159, 160, 161, 162, 163, 164, 165, 166, 167, 168, 169, 170, 171, 172, 173, 174, 175, 176, 177, 178, 179, 180, 181, 182, 183, 184, 185, 186, 187, 188, 189, 190, 191, 192, 193, 194, 195, 196, 197, 198, 199, 200, 201, 202, 203, 204, 205, 206, 207, 208, 209, 210, 211, 212, 213, 214, 215, 216, 217, 218, 219, 220, 221, 222, 223, 224, 225, 226, 227, 228, 229, 230, 231, 232, 233, 234] (by decide +kernel) (by decide +kernel)
set_option maxRecDepth 20000 in
theorem gX10_compare_X10_fewest : GoodIn wsX10_compare (wsV RX10 436 RX10 yX10_fewest wsX10_fewest) := goodIn_app (goodIn_of _ (by decide +kernel)) ggX10_compare_X10_fewest
theorem dX10_compare_0 : decode cX10_compare 0 = .ok (.aload_n 0, 1) := by decide +kernel
theorem dX10_compare_1 : decode cX10_compare 1 = .ok (.iload_n 1, 1) := by decide +kernel
theorem dX10_compare_2 : decode cX10_compare 2 = .ok (.invokevirtual 272, 3) := by decide +kernel
theorem dX10_compare_5 : decode cX10_compare 5 = .ok (.ifCond .ne 5, 3) := by decide +kernel
theorem dX10_compare_8 : decode cX10_compare 8 = .ok (.iconst (-1), 1) := by decide +kernel
theorem dX10_compare_9 : decode cX10_compare 9 = .ok (.ireturn, 1) := by decide +kernel
theorem dX10_compare_10 : decode cX10_compare 10 = .ok (.aload_n 0, 1) := by decide +kernel
theorem dX10_compare_11 : decode cX10_compare 11 = .ok (.getfield 28, 3) := by decide +kernel
theorem dX10_compare_14 : decode cX10_compare 14 = .ok (.bipush 32, 2) := by decide +kernel
theorem dX10_compare_16 : decode cX10_compare 16 = .ok (.iaload, 1) := by decide +kernel
theorem dX10_compare_17 : decode cX10_compare 17 = .ok (.istore_n 2, 1) := by decide +kernel
theorem dX10_compare_18 : decode cX10_compare 18 = .ok (.aload_n 0, 1) := by decide +kernel
theorem dX10_compare_19 : decode cX10_compare 19 = .ok (.getfield 28, 3) := by decide +kernel
theorem dX10_compare_22 : decode cX10_compare 22 = .ok (.bipush 32, 2) := by decide +kernel
theorem dX10_compare_24 : decode cX10_compare 24 = .ok (.iload_n 1, 1) := by decide +kernel
theorem dX10_compare_25 : decode cX10_compare 25 = .ok (.iastore, 1) := by decide +kernel
theorem dX10_compare_26 : decode cX10_compare 26 = .ok (.aload_n 0, 1) := by decide +kernel
theorem dX10_compare_27 : decode cX10_compare 27 = .ok (.iconst (-1), 1) := by decide +kernel
theorem dX10_compare_28 : decode cX10_compare 28 = .ok (.invokevirtual 436, 3) := by decide +kernel
theorem dX10_compare_31 : decode cX10_compare 31 = .ok (.istore_n 3, 1) := by decide +kernel
theorem dX10_compare_32 : decode cX10_compare 32 = .ok (.aload_n 0, 1) := by decide +kernel
theorem dX10_compare_33 : decode cX10_compare 33 = .ok (.getfield 28, 3) := by decide +kernel
theorem dX10_compare_36 : decode cX10_compare 36 = .ok (.bipush 32, 2) := by decide +kernel
theorem dX10_compare_38 : decode cX10_compare 38 = .ok (.iload_n 2, 1) := by decide +kernel
theorem dX10_compare_39 : decode cX10_compare 39 = .ok (.iastore, 1) := by decide +kernel
theorem dX10_compare_40 : decode cX10_compare 40 = .ok (.iload_n 3, 1) := by decide +kernel
theorem dX10_compare_41 : decode cX10_compare 41 = .ok (.ireturn, 1) := by decide +kernel
set_option maxRecDepth 20000 in
theorem ggX10_canStay_X10_size : GoodIn wsX10_canStay wsX10_size := goodIn_r _ [6, 1, 10, 11, 12, 13, 14, 15, 16, 17, 18, 19, 20, 21, 22, 23, 24, 25, 26, 27, 28, 29, 30, 31, 32, 33, 34, 35, 36, 37, 38, 39, 40, 41, 42, 43, 44, 45, 46, 47, 48, 49, 50, 51, 52, 53, 54, 55, 56, 57, 58, 59, 60, 61, 62, 63, 64, 65] (by decide +kernel) (by decide +kernel)
set_option maxRecDepth 20000 in
theorem gX10_canStay_X10_size : GoodIn wsX10_canStay (wsV RX10 125 RX10 yX10_size wsX10_size) := goodIn_app (goodIn_of _ (by decide +kernel)) ggX10_canStay_X10_size
theorem dX10_canStay_0 : decode cX10_canStay 0 = .ok (.iconst (-1), 1) := by decide +kernel
theorem dX10_canStay_1 : decode cX10_canStay 1 = .ok (.istore_n 2, 1) := by decide +kernel
theorem dX10_canStay_2 : decode cX10_canStay 2 = .ok (.iconst 1, 1) := by decide +kernel
theorem dX10_canStay_3 : decode cX10_canStay 3 = .ok (.istore_n 3, 1) := by decide +kernel
theorem dX10_canStay_4 : decode cX10_canStay 4 = .ok (.iconst 0, 1) := by decide +kernel
theorem dX10_canStay_5 : decode cX10_canStay 5 = .ok (.istore 4, 2) := by decide +kernel
theorem dX10_canStay_7 : decode cX10_canStay 7 = .ok (.iload 4, 2) := by decide +kernel
theorem dX10_canStay_9 : decode cX10_canStay 9 = .ok (.aload_n 0, 1) := by decide +kernel
theorem dX10_canStay_10 : decode cX10_canStay 10 = .ok (.invokevirtual 125, 3) := by decide +kernel
theorem dX10_canStay_13 : decode cX10_canStay 13 = .ok (.if_icmp .ge 77, 3) := by decide +kernel
theorem dX10_canStay_90 : decode cX10_canStay 90 = .ok (.iload_n 3, 1) := by decide +kernel
theorem dX10_canStay_91 : decode cX10_canStay 91 = .ok (.ireturn, 1) := by decide +kernel
set_option maxRecDepth 20000 in
theorem ggX10_years_X10_lies : GoodIn wsX10_years wsX10_lies := goodIn_r _ [9] (by decide +kernel) (by decide +kernel)
set_option maxRecDepth 20000 in
theorem gX10_years_X10_lies : GoodIn wsX10_years (va_wsS RX10 18 yX10_lies wsX10_lies) := goodIn_app (goodIn_of _ (by decide +kernel)) ggX10_years_X10_lies
set_option maxRecDepth 20000 in
theorem ggX10_years_X10_refuses : GoodIn wsX10_years wsX10_refuses := goodIn_r _ [13, 14, 15, 161, 162, 163, 164, 165, 166, 167, 168, 169, 170, 171, 172, 173, 174, 175, 176, 177, 178, 179, 180, 181, 182, 183, 184, 185, 186, 187, 188, 189, 190, 191, 192, 193, 194, 195, 196, 197, 198, 199, 200, 201, 202, 203, 204, 205, 206, 207, 208, 209, 210, 211, 212, 213, 214, 215, 216] (by decide +kernel) (by decide +kernel)
set_option maxRecDepth 20000 in
theorem gX10_years_X10_refuses : GoodIn wsX10_years (wsV RX10 119 RX10 yX10_refuses wsX10_refuses) := goodIn_app (goodIn_of _ (by decide +kernel)) ggX10_years_X10_refuses
set_option maxRecDepth 20000 in
theorem ggX10_years_X10_size : GoodIn wsX10_years wsX10_size := goodIn_r _ [19, 4, 161, 162, 163, 164, 165, 166, 167, 168, 169, 170, 171, 172, 173, 174, 175, 176, 177, 178, 179, 180, 181, 182, 183, 184, 185, 186, 187, 188, 189, 190, 191, 192, 193, 194, 195, 196, 197, 198, 199, 200, 201, 202, 203, 204, 205, 206, 207, 208, 209, 210, 211, 212, 213, 214, 215, 216] (by decide +kernel) (by decide +kernel)
set_option maxRecDepth 20000 in
theorem gX10_years_X10_size : GoodIn wsX10_years (wsV RX10 125 RX10 yX10_size wsX10_size) := goodIn_app (goodIn_of _ (by decide +kernel)) ggX10_years_X10_size
theorem dX10_years_0 : decode cX10_years 0 = .ok (.iload_n 1, 1) := by decide +kernel
theorem dX10_years_1 : decode cX10_years 1 = .ok (.iconst 0, 1) := by decide +kernel
theorem dX10_years_2 : decode cX10_years 2 = .ok (.ldc 188, 2) := by decide +kernel
theorem dX10_years_4 : decode cX10_years 4 = .ok (.invokestatic 18, 3) := by decide +kernel
theorem dX10_years_7 : decode cX10_years 7 = .ok (.ifCond .eq 13, 3) := by decide +kernel
theorem dX10_years_10 : decode cX10_years 10 = .ok (.iload_n 2, 1) := by decide +kernel
theorem dX10_years_11 : decode cX10_years 11 = .ok (.iconst 1, 1) := by decide +kernel
theorem dX10_years_12 : decode cX10_years 12 = .ok (.bipush 60, 2) := by decide +kernel
theorem dX10_years_14 : decode cX10_years 14 = .ok (.invokestatic 18, 3) := by decide +kernel
theorem dX10_years_17 : decode cX10_years 17 = .ok (.ifCond .ne 9, 3) := by decide +kernel
theorem dX10_years_20 : decode cX10_years 20 = .ok (.aload_n 0, 1) := by decide +kernel
theorem dX10_years_21 : decode cX10_years 21 = .ok (.iconst (-1), 1) := by decide +kernel
theorem dX10_years_22 : decode cX10_years 22 = .ok (.invokevirtual 119, 3) := by decide +kernel
theorem dX10_years_25 : decode cX10_years 25 = .ok (.ireturn, 1) := by decide +kernel
theorem dX10_years_26 : decode cX10_years 26 = .ok (.aload_n 0, 1) := by decide +kernel
theorem dX10_years_27 : decode cX10_years 27 = .ok (.invokevirtual 125, 3) := by decide +kernel
theorem dX10_years_30 : decode cX10_years 30 = .ok (.ifCond .ne 10, 3) := by decide +kernel
theorem dX10_years_33 : decode cX10_years 33 = .ok (.aload_n 0, 1) := by decide +kernel
theorem dX10_years_34 : decode cX10_years 34 = .ok (.bipush (-3), 2) := by decide +kernel
theorem dX10_years_36 : decode cX10_years 36 = .ok (.invokevirtual 119, 3) := by decide +kernel
theorem dX10_years_39 : decode cX10_years 39 = .ok (.ireturn, 1) := by decide +kernel
set_option maxRecDepth 20000 in
theorem ggX10_drawn_X10_lies : GoodIn wsX10_drawn wsX10_lies := goodIn_r _ [6] (by decide +kernel) (by decide +kernel)
set_option maxRecDepth 20000 in
theorem gX10_drawn_X10_lies : GoodIn wsX10_drawn (va_wsS RX10 18 yX10_lies wsX10_lies) := goodIn_app (goodIn_of _ (by decide +kernel)) ggX10_drawn_X10_lies
theorem dX10_drawn_0 : decode cX10_drawn 0 = .ok (.iload_n 1, 1) := by decide +kernel
theorem dX10_drawn_1 : decode cX10_drawn 1 = .ok (.iconst 0, 1) := by decide +kernel
theorem dX10_drawn_2 : decode cX10_drawn 2 = .ok (.aload_n 0, 1) := by decide +kernel
theorem dX10_drawn_3 : decode cX10_drawn 3 = .ok (.getfield 116, 3) := by decide +kernel
theorem dX10_drawn_6 : decode cX10_drawn 6 = .ok (.iconst 1, 1) := by decide +kernel
theorem dX10_drawn_7 : decode cX10_drawn 7 = .ok (.isub, 1) := by decide +kernel
theorem dX10_drawn_8 : decode cX10_drawn 8 = .ok (.invokestatic 18, 3) := by decide +kernel
theorem dX10_drawn_11 : decode cX10_drawn 11 = .ok (.ifCond .eq 10, 3) := by decide +kernel
theorem dX10_drawn_21 : decode cX10_drawn 21 = .ok (.iconst (-1), 1) := by decide +kernel
theorem dX10_drawn_22 : decode cX10_drawn 22 = .ok (.ireturn, 1) := by decide +kernel
set_option maxRecDepth 20000 in
theorem ggX10_onHeads_X10_size : GoodIn wsX10_onHeads wsX10_size := goodIn_r _ [6, 1, 7, 8, 9, 10, 11, 12, 13, 14, 15, 16, 17, 18, 19, 20, 21, 22, 23, 24, 25, 26, 27, 28, 29, 30, 31, 32, 33, 34, 35, 36, 37, 38, 39, 40, 41, 42, 43, 44, 45, 46, 47, 48, 49, 50, 51, 52, 53, 54, 55, 56, 57, 58, 59, 60, 61, 62] (by decide +kernel) (by decide +kernel)
set_option maxRecDepth 20000 in
theorem gX10_onHeads_X10_size : GoodIn wsX10_onHeads (wsV RX10 125 RX10 yX10_size wsX10_size) := goodIn_app (goodIn_of _ (by decide +kernel)) ggX10_onHeads_X10_size
theorem dX10_onHeads_0 : decode cX10_onHeads 0 = .ok (.iconst 0, 1) := by decide +kernel
theorem dX10_onHeads_1 : decode cX10_onHeads 1 = .ok (.istore_n 1, 1) := by decide +kernel
theorem dX10_onHeads_2 : decode cX10_onHeads 2 = .ok (.iconst 0, 1) := by decide +kernel
theorem dX10_onHeads_3 : decode cX10_onHeads 3 = .ok (.istore_n 2, 1) := by decide +kernel
theorem dX10_onHeads_4 : decode cX10_onHeads 4 = .ok (.iload_n 2, 1) := by decide +kernel
theorem dX10_onHeads_5 : decode cX10_onHeads 5 = .ok (.aload_n 0, 1) := by decide +kernel
theorem dX10_onHeads_6 : decode cX10_onHeads 6 = .ok (.invokevirtual 125, 3) := by decide +kernel
theorem dX10_onHeads_9 : decode cX10_onHeads 9 = .ok (.if_icmp .ge 21, 3) := by decide +kernel
theorem dX10_onHeads_30 : decode cX10_onHeads 30 = .ok (.iload_n 1, 1) := by decide +kernel
theorem dX10_onHeads_31 : decode cX10_onHeads 31 = .ok (.ireturn, 1) := by decide +kernel
set_option maxRecDepth 20000 in
theorem ggX10_isOrderedNow_X10_size : GoodIn wsX10_isOrderedNow wsX10_size := goodIn_r _ [5, 6, 14, 15, 16, 17, 18, 19, 20, 21, 22, 23, 24, 25, 26, 27, 28, 29, 30, 31, 32, 33, 34, 35, 36, 37, 38, 39, 40, 41, 42, 43, 44, 45, 46, 47, 48, 49, 50, 51, 52, 53, 54, 55, 56, 57, 58, 59, 60, 61, 62, 63, 64, 65, 66, 67, 68, 69] (by decide +kernel) (by decide +kernel)
set_option maxRecDepth 20000 in
theorem gX10_isOrderedNow_X10_size : GoodIn wsX10_isOrderedNow (wsV RX10 125 RX10 yX10_size wsX10_size) := goodIn_app (goodIn_of _ (by decide +kernel)) ggX10_isOrderedNow_X10_size
set_option maxRecDepth 20000 in
theorem ggX10_isOrderedNow_X10_canStay : GoodIn wsX10_isOrderedNow wsX10_canStay := goodIn_r _ [10, 6, 1, 2, 3, 4, 5, 11, 12, 13, 14, 15, 16, 17, 18, 19, 20, 21, 22, 23, 24, 25, 26, 27, 28, 29, 30, 31, 32, 33, 34, 35, 36, 37, 38, 39, 40, 41, 42, 43, 44, 45, 46, 47, 48, 49, 50, 51, 52, 53, 54, 55, 56, 57, 58, 59, 60, 61, 62, 63, 64, 65, 66, 67, 68, 69] (by decide +kernel) (by decide +kernel)
set_option maxRecDepth 20000 in
theorem gX10_isOrderedNow_X10_canStay : GoodIn wsX10_isOrderedNow (wsV RX10 451 RX10 yX10_canStay wsX10_canStay) := goodIn_app (goodIn_of _ (by decide +kernel)) ggX10_isOrderedNow_X10_canStay
theorem dX10_isOrderedNow_0 : decode cX10_isOrderedNow 0 = .ok (.aload_n 0, 1) := by decide +kernel
theorem dX10_isOrderedNow_1 : decode cX10_isOrderedNow 1 = .ok (.iconst 1, 1) := by decide +kernel
theorem dX10_isOrderedNow_2 : decode cX10_isOrderedNow 2 = .ok (.aload_n 0, 1) := by decide +kernel
theorem dX10_isOrderedNow_3 : decode cX10_isOrderedNow 3 = .ok (.invokevirtual 125, 3) := by decide +kernel
theorem dX10_isOrderedNow_6 : decode cX10_isOrderedNow 6 = .ok (.ishl, 1) := by decide +kernel
theorem dX10_isOrderedNow_7 : decode cX10_isOrderedNow 7 = .ok (.iconst 1, 1) := by decide +kernel
theorem dX10_isOrderedNow_8 : decode cX10_isOrderedNow 8 = .ok (.isub, 1) := by decide +kernel
theorem dX10_isOrderedNow_9 : decode cX10_isOrderedNow 9 = .ok (.invokevirtual 451, 3) := by decide +kernel
theorem dX10_isOrderedNow_12 : decode cX10_isOrderedNow 12 = .ok (.ireturn, 1) := by decide +kernel
set_option maxRecDepth 20000 in
theorem ggX10_count_X10_size : GoodIn wsX10_count wsX10_size := goodIn_r _ [9, 1, 28, 29, 30, 31, 32, 33, 34, 35, 36, 37, 38, 39, 40, 41, 42, 43, 44, 45, 46, 47, 48, 49, 50, 51, 52, 53, 54, 55, 56, 57, 58, 59, 60, 61, 62, 63, 64, 65, 66, 67, 68, 69, 70, 71, 72, 73, 74, 75, 76, 77, 78, 79, 80, 81, 82, 83] (by decide +kernel) (by decide +kernel)
set_option maxRecDepth 20000 in
theorem gX10_count_X10_size : GoodIn wsX10_count (wsV RX10 125 RX10 yX10_size wsX10_size) := goodIn_app (goodIn_of _ (by decide +kernel)) ggX10_count_X10_size
set_option maxRecDepth 20000 in
theorem ggX10_count_X10_onHeads : GoodIn wsX10_count wsX10_onHeads := goodIn_r _ [13, 1, 5, 6, 7, 8, 9, 28, 29, 30, 31, 32, 33, 34, 35, 36, 37, 38, 39, 40, 41, 42, 43, 44, 45, 46, 47, 48, 49, 50, 51, 52, 53, 54, 55, 56, 57, 58, 59, 60, 61, 62, 63, 64, 65, 66, 67, 68, 69, 70, 71, 72, 73, 74, 75, 76, 77, 78, 79, 80, 81, 82, 83] (by decide +kernel) (by decide +kernel)
set_option maxRecDepth 20000 in
theorem gX10_count_X10_onHeads : GoodIn wsX10_count (wsV RX10 525 RX10 yX10_onHeads wsX10_onHeads) := goodIn_app (goodIn_of _ (by decide +kernel)) ggX10_count_X10_onHeads
set_option maxRecDepth 20000 in
theorem ggX10_count_X10_termAt : GoodIn wsX10_count wsX10_termAt := goodIn_r _ [16] (by decide +kernel) (by decide +kernel)
set_option maxRecDepth 20000 in
theorem gX10_count_X10_termAt : GoodIn wsX10_count (va_wsS RX10 166 yX10_termAt wsX10_termAt) := goodIn_app (goodIn_of _ (by decide +kernel)) ggX10_count_X10_termAt
set_option maxRecDepth 20000 in
theorem ggX10_count_X10_isOrderedNow : GoodIn wsX10_count wsX10_isOrderedNow := goodIn_r _ [20, 5, 6, 7, 8, 9, 1, 21, 22, 23, 24, 25, 26, 27, 28, 29, 30, 31, 32, 33, 34, 35, 36, 37, 38, 39, 40, 41, 42, 43, 44, 45, 46, 47, 48, 49, 50, 51, 52, 53, 54, 55, 56, 57, 58, 59, 60, 61, 62, 63, 64, 65, 66, 67, 68, 69, 70, 71, 72, 73, 74, 75, 76, 77, 78, 79, 80, 81, 82, 83] (by decide +kernel) (by decide +kernel)
set_option maxRecDepth 20000 in
theorem gX10_count_X10_isOrderedNow : GoodIn wsX10_count (wsV RX10 528 RX10 yX10_isOrderedNow wsX10_isOrderedNow) := goodIn_app (goodIn_of _ (by decide +kernel)) ggX10_count_X10_isOrderedNow
theorem dX10_count_0 : decode cX10_count 0 = .ok (.iload_n 1, 1) := by decide +kernel
theorem dX10_count_1 : decode cX10_count 1 = .ok (.tableswitch 190 0 17 #[87, 92, 97, 105, 113, 121, 126, 131, 131, 131, 141, 148, 156, 164, 164, 164, 164, 177], 87) := by decide +kernel
theorem dX10_count_88 : decode cX10_count 88 = .ok (.aload_n 0, 1) := by decide +kernel
theorem dX10_count_89 : decode cX10_count 89 = .ok (.invokevirtual 125, 3) := by decide +kernel
theorem dX10_count_92 : decode cX10_count 92 = .ok (.ireturn, 1) := by decide +kernel
theorem dX10_count_93 : decode cX10_count 93 = .ok (.aload_n 0, 1) := by decide +kernel
theorem dX10_count_94 : decode cX10_count 94 = .ok (.invokevirtual 525, 3) := by decide +kernel
theorem dX10_count_97 : decode cX10_count 97 = .ok (.ireturn, 1) := by decide +kernel
theorem dX10_count_98 : decode cX10_count 98 = .ok (.aload_n 0, 1) := by decide +kernel
theorem dX10_count_99 : decode cX10_count 99 = .ok (.getfield 28, 3) := by decide +kernel
theorem dX10_count_102 : decode cX10_count 102 = .ok (.bipush 12, 2) := by decide +kernel
theorem dX10_count_104 : decode cX10_count 104 = .ok (.iaload, 1) := by decide +kernel
theorem dX10_count_105 : decode cX10_count 105 = .ok (.ireturn, 1) := by decide +kernel
theorem dX10_count_106 : decode cX10_count 106 = .ok (.aload_n 0, 1) := by decide +kernel
theorem dX10_count_107 : decode cX10_count 107 = .ok (.getfield 28, 3) := by decide +kernel
theorem dX10_count_110 : decode cX10_count 110 = .ok (.bipush 30, 2) := by decide +kernel
theorem dX10_count_112 : decode cX10_count 112 = .ok (.iaload, 1) := by decide +kernel
theorem dX10_count_113 : decode cX10_count 113 = .ok (.ireturn, 1) := by decide +kernel
theorem dX10_count_114 : decode cX10_count 114 = .ok (.aload_n 0, 1) := by decide +kernel
theorem dX10_count_115 : decode cX10_count 115 = .ok (.getfield 28, 3) := by decide +kernel
theorem dX10_count_118 : decode cX10_count 118 = .ok (.bipush 31, 2) := by decide +kernel
theorem dX10_count_120 : decode cX10_count 120 = .ok (.iaload, 1) := by decide +kernel
theorem dX10_count_121 : decode cX10_count 121 = .ok (.ireturn, 1) := by decide +kernel
theorem dX10_count_122 : decode cX10_count 122 = .ok (.aload_n 0, 1) := by decide +kernel
theorem dX10_count_123 : decode cX10_count 123 = .ok (.getfield 11, 3) := by decide +kernel
theorem dX10_count_126 : decode cX10_count 126 = .ok (.ireturn, 1) := by decide +kernel
theorem dX10_count_127 : decode cX10_count 127 = .ok (.aload_n 0, 1) := by decide +kernel
theorem dX10_count_128 : decode cX10_count 128 = .ok (.getfield 169, 3) := by decide +kernel
theorem dX10_count_131 : decode cX10_count 131 = .ok (.ireturn, 1) := by decide +kernel
theorem dX10_count_132 : decode cX10_count 132 = .ok (.aload_n 0, 1) := by decide +kernel
theorem dX10_count_133 : decode cX10_count 133 = .ok (.getfield 7, 3) := by decide +kernel
theorem dX10_count_136 : decode cX10_count 136 = .ok (.iload_n 1, 1) := by decide +kernel
theorem dX10_count_137 : decode cX10_count 137 = .ok (.bipush 6, 2) := by decide +kernel
theorem dX10_count_139 : decode cX10_count 139 = .ok (.isub, 1) := by decide +kernel
theorem dX10_count_140 : decode cX10_count 140 = .ok (.iaload, 1) := by decide +kernel
theorem dX10_count_141 : decode cX10_count 141 = .ok (.ireturn, 1) := by decide +kernel
theorem dX10_count_142 : decode cX10_count 142 = .ok (.aload_n 0, 1) := by decide +kernel
theorem dX10_count_143 : decode cX10_count 143 = .ok (.getfield 7, 3) := by decide +kernel
theorem dX10_count_146 : decode cX10_count 146 = .ok (.iconst 5, 1) := by decide +kernel
theorem dX10_count_147 : decode cX10_count 147 = .ok (.iaload, 1) := by decide +kernel
theorem dX10_count_148 : decode cX10_count 148 = .ok (.ireturn, 1) := by decide +kernel
theorem dX10_count_149 : decode cX10_count 149 = .ok (.aload_n 0, 1) := by decide +kernel
theorem dX10_count_150 : decode cX10_count 150 = .ok (.getfield 7, 3) := by decide +kernel
theorem dX10_count_153 : decode cX10_count 153 = .ok (.bipush 6, 2) := by decide +kernel
theorem dX10_count_155 : decode cX10_count 155 = .ok (.iaload, 1) := by decide +kernel
theorem dX10_count_156 : decode cX10_count 156 = .ok (.ireturn, 1) := by decide +kernel
theorem dX10_count_157 : decode cX10_count 157 = .ok (.aload_n 0, 1) := by decide +kernel
theorem dX10_count_158 : decode cX10_count 158 = .ok (.getfield 28, 3) := by decide +kernel
theorem dX10_count_161 : decode cX10_count 161 = .ok (.bipush 32, 2) := by decide +kernel
theorem dX10_count_163 : decode cX10_count 163 = .ok (.iaload, 1) := by decide +kernel
theorem dX10_count_164 : decode cX10_count 164 = .ok (.ireturn, 1) := by decide +kernel
theorem dX10_count_165 : decode cX10_count 165 = .ok (.aload_n 0, 1) := by decide +kernel
theorem dX10_count_166 : decode cX10_count 166 = .ok (.getfield 28, 3) := by decide +kernel
theorem dX10_count_169 : decode cX10_count 169 = .ok (.iload_n 1, 1) := by decide +kernel
theorem dX10_count_170 : decode cX10_count 170 = .ok (.bipush 13, 2) := by decide +kernel
theorem dX10_count_172 : decode cX10_count 172 = .ok (.isub, 1) := by decide +kernel
theorem dX10_count_173 : decode cX10_count 173 = .ok (.invokestatic 166, 3) := by decide +kernel
theorem dX10_count_176 : decode cX10_count 176 = .ok (.iaload, 1) := by decide +kernel
theorem dX10_count_177 : decode cX10_count 177 = .ok (.ireturn, 1) := by decide +kernel
theorem dX10_count_178 : decode cX10_count 178 = .ok (.aload_n 0, 1) := by decide +kernel
theorem dX10_count_179 : decode cX10_count 179 = .ok (.invokevirtual 528, 3) := by decide +kernel
theorem dX10_count_182 : decode cX10_count 182 = .ok (.ifCond .eq 7, 3) := by decide +kernel
theorem dX10_count_185 : decode cX10_count 185 = .ok (.iconst 1, 1) := by decide +kernel
theorem dX10_count_186 : decode cX10_count 186 = .ok (.goto 4, 3) := by decide +kernel
theorem dX10_count_190 : decode cX10_count 190 = .ok (.ireturn, 1) := by decide +kernel
theorem dX10_count_191 : decode cX10_count 191 = .ok (.iconst (-1), 1) := by decide +kernel
theorem dX10_count_192 : decode cX10_count 192 = .ok (.ireturn, 1) := by decide +kernel
theorem dX10_status_0 : decode cX10_status 0 = .ok (.aload_n 0, 1) := by decide +kernel
theorem dX10_status_1 : decode cX10_status 1 = .ok (.getfield 3, 3) := by decide +kernel
theorem dX10_status_4 : decode cX10_status 4 = .ok (.ireturn, 1) := by decide +kernel
