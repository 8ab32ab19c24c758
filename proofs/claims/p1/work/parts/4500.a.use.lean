theorem dX10_refuses_0 : decode cX10_refuses 0 = .ok (.aload_n 0, 1) := by decide +kernel
theorem dX10_refuses_1 : decode cX10_refuses 1 = .ok (.iload_n 1, 1) := by decide +kernel
theorem dX10_refuses_2 : decode cX10_refuses 2 = .ok (.putfield 3, 3) := by decide +kernel
theorem dX10_refuses_5 : decode cX10_refuses 5 = .ok (.aload_n 0, 1) := by decide +kernel
theorem dX10_refuses_6 : decode cX10_refuses 6 = .ok (.getfield 7, 3) := by decide +kernel
theorem dX10_refuses_9 : decode cX10_refuses 9 = .ok (.iload_n 1, 1) := by decide +kernel
theorem dX10_refuses_10 : decode cX10_refuses 10 = .ok (.ineg, 1) := by decide +kernel
theorem dX10_refuses_11 : decode cX10_refuses 11 = .ok (.dup2, 1) := by decide +kernel
theorem dX10_refuses_12 : decode cX10_refuses 12 = .ok (.iaload, 1) := by decide +kernel
theorem dX10_refuses_13 : decode cX10_refuses 13 = .ok (.iconst 1, 1) := by decide +kernel
theorem dX10_refuses_14 : decode cX10_refuses 14 = .ok (.iadd, 1) := by decide +kernel
theorem dX10_refuses_15 : decode cX10_refuses 15 = .ok (.iastore, 1) := by decide +kernel
theorem dX10_refuses_16 : decode cX10_refuses 16 = .ok (.iload_n 1, 1) := by decide +kernel
theorem dX10_refuses_17 : decode cX10_refuses 17 = .ok (.ireturn, 1) := by decide +kernel
theorem dX10_size_0 : decode cX10_size 0 = .ok (.aload_n 0, 1) := by decide +kernel
theorem dX10_size_1 : decode cX10_size 1 = .ok (.getfield 28, 3) := by decide +kernel
theorem dX10_size_4 : decode cX10_size 4 = .ok (.bipush 29, 2) := by decide +kernel
theorem dX10_size_6 : decode cX10_size 6 = .ok (.iaload, 1) := by decide +kernel
theorem dX10_size_7 : decode cX10_size 7 = .ok (.ireturn, 1) := by decide +kernel
set_option maxRecDepth 20000 in
theorem ggX10_isPlace_X10_size : GoodIn wsX10_isPlace wsX10_size := goodIn_r _ [5, 6, 10, 11, 12, 13, 14, 15, 16, 17, 18, 19, 20, 21, 22, 23, 24, 25, 26, 27, 28, 29, 30, 31, 32, 33, 34, 35, 36, 37, 38, 39, 40, 41, 42, 43, 44, 45, 46, 47, 48, 49, 50, 51, 52, 53, 54, 55, 56, 57, 58, 59, 60, 61, 62, 63, 64, 65] (by decide +kernel) (by decide +kernel)
set_option maxRecDepth 20000 in
theorem gX10_isPlace_X10_size : GoodIn wsX10_isPlace (wsV RX10 125 RX10 yX10_size wsX10_size) := goodIn_app (goodIn_of _ (by decide +kernel)) ggX10_isPlace_X10_size
set_option maxRecDepth 20000 in
theorem ggX10_isPlace_X10_lies : GoodIn wsX10_isPlace wsX10_lies := goodIn_r _ [9] (by decide +kernel) (by decide +kernel)
set_option maxRecDepth 20000 in
theorem gX10_isPlace_X10_lies : GoodIn wsX10_isPlace (va_wsS RX10 18 yX10_lies wsX10_lies) := goodIn_app (goodIn_of _ (by decide +kernel)) ggX10_isPlace_X10_lies
theorem dX10_isPlace_0 : decode cX10_isPlace 0 = .ok (.iload_n 1, 1) := by decide +kernel
theorem dX10_isPlace_1 : decode cX10_isPlace 1 = .ok (.iconst 0, 1) := by decide +kernel
theorem dX10_isPlace_2 : decode cX10_isPlace 2 = .ok (.aload_n 0, 1) := by decide +kernel
theorem dX10_isPlace_3 : decode cX10_isPlace 3 = .ok (.invokevirtual 125, 3) := by decide +kernel
theorem dX10_isPlace_6 : decode cX10_isPlace 6 = .ok (.iconst 1, 1) := by decide +kernel
theorem dX10_isPlace_7 : decode cX10_isPlace 7 = .ok (.isub, 1) := by decide +kernel
theorem dX10_isPlace_8 : decode cX10_isPlace 8 = .ok (.invokestatic 18, 3) := by decide +kernel
theorem dX10_isPlace_11 : decode cX10_isPlace 11 = .ok (.ireturn, 1) := by decide +kernel
set_option maxRecDepth 20000 in
theorem ggX10_placeOf_X10_size : GoodIn wsX10_placeOf wsX10_size := goodIn_r _ [6, 1, 7, 8, 9, 10, 11, 12, 13, 14, 15, 16, 17, 18, 19, 20, 21, 22, 23, 24, 25, 26, 27, 28, 29, 30, 31, 32, 33, 34, 35, 36, 37, 38, 39, 40, 41, 42, 43, 44, 45, 46, 47, 48, 49, 50, 51, 52, 53, 54, 55, 56, 57, 58, 59, 60, 61, 62] (by decide +kernel) (by decide +kernel)
set_option maxRecDepth 20000 in
theorem gX10_placeOf_X10_size : GoodIn wsX10_placeOf (wsV RX10 125 RX10 yX10_size wsX10_size) := goodIn_app (goodIn_of _ (by decide +kernel)) ggX10_placeOf_X10_size
theorem dX10_placeOf_0 : decode cX10_placeOf 0 = .ok (.iconst (-1), 1) := by decide +kernel
theorem dX10_placeOf_1 : decode cX10_placeOf 1 = .ok (.istore_n 2, 1) := by decide +kernel
theorem dX10_placeOf_2 : decode cX10_placeOf 2 = .ok (.iconst 0, 1) := by decide +kernel
theorem dX10_placeOf_3 : decode cX10_placeOf 3 = .ok (.istore_n 3, 1) := by decide +kernel
theorem dX10_placeOf_4 : decode cX10_placeOf 4 = .ok (.iload_n 3, 1) := by decide +kernel
theorem dX10_placeOf_5 : decode cX10_placeOf 5 = .ok (.aload_n 0, 1) := by decide +kernel
theorem dX10_placeOf_6 : decode cX10_placeOf 6 = .ok (.invokevirtual 125, 3) := by decide +kernel
theorem dX10_placeOf_9 : decode cX10_placeOf 9 = .ok (.if_icmp .ge 27, 3) := by decide +kernel
theorem dX10_placeOf_36 : decode cX10_placeOf 36 = .ok (.iload_n 2, 1) := by decide +kernel
theorem dX10_placeOf_37 : decode cX10_placeOf 37 = .ok (.ireturn, 1) := by decide +kernel
set_option maxRecDepth 20000 in
theorem ggX10_adds_X10_size : GoodIn wsX10_adds wsX10_size := goodIn_r _ [6, 1, 7, 8, 9, 10, 11, 12, 13, 14, 15, 16, 17, 18, 19, 20, 21, 22, 23, 24, 25, 26, 27, 28, 29, 30, 31, 32, 33, 34, 35, 36, 37, 38, 39, 40, 41, 42, 43, 44, 45, 46, 47, 48, 49, 50, 51, 52, 53, 54, 55, 56, 57, 58, 59, 60, 61, 62] (by decide +kernel) (by decide +kernel)
set_option maxRecDepth 20000 in
theorem gX10_adds_X10_size : GoodIn wsX10_adds (wsV RX10 125 RX10 yX10_size wsX10_size) := goodIn_app (goodIn_of _ (by decide +kernel)) ggX10_adds_X10_size
theorem dX10_adds_0 : decode cX10_adds 0 = .ok (.aload_n 0, 1) := by decide +kernel
theorem dX10_adds_1 : decode cX10_adds 1 = .ok (.getfield 28, 3) := by decide +kernel
theorem dX10_adds_4 : decode cX10_adds 4 = .ok (.iconst 0, 1) := by decide +kernel
theorem dX10_adds_5 : decode cX10_adds 5 = .ok (.aload_n 0, 1) := by decide +kernel
theorem dX10_adds_6 : decode cX10_adds 6 = .ok (.invokevirtual 125, 3) := by decide +kernel
theorem dX10_adds_9 : decode cX10_adds 9 = .ok (.iadd, 1) := by decide +kernel
theorem dX10_adds_10 : decode cX10_adds 10 = .ok (.iload_n 1, 1) := by decide +kernel
theorem dX10_adds_11 : decode cX10_adds 11 = .ok (.iastore, 1) := by decide +kernel
theorem dX10_adds_12 : decode cX10_adds 12 = .ok (.aload_n 0, 1) := by decide +kernel
theorem dX10_adds_13 : decode cX10_adds 13 = .ok (.getfield 28, 3) := by decide +kernel
theorem dX10_adds_16 : decode cX10_adds 16 = .ok (.bipush 6, 2) := by decide +kernel
theorem dX10_adds_18 : decode cX10_adds 18 = .ok (.aload_n 0, 1) := by decide +kernel
theorem dX10_adds_19 : decode cX10_adds 19 = .ok (.invokevirtual 125, 3) := by decide +kernel
theorem dX10_adds_22 : decode cX10_adds 22 = .ok (.iadd, 1) := by decide +kernel
theorem dX10_adds_23 : decode cX10_adds 23 = .ok (.iload_n 2, 1) := by decide +kernel
theorem dX10_adds_24 : decode cX10_adds 24 = .ok (.iastore, 1) := by decide +kernel
theorem dX10_adds_25 : decode cX10_adds 25 = .ok (.aload_n 0, 1) := by decide +kernel
theorem dX10_adds_26 : decode cX10_adds 26 = .ok (.getfield 28, 3) := by decide +kernel
theorem dX10_adds_29 : decode cX10_adds 29 = .ok (.bipush 29, 2) := by decide +kernel
theorem dX10_adds_31 : decode cX10_adds 31 = .ok (.dup2, 1) := by decide +kernel
theorem dX10_adds_32 : decode cX10_adds 32 = .ok (.iaload, 1) := by decide +kernel
theorem dX10_adds_33 : decode cX10_adds 33 = .ok (.iconst 1, 1) := by decide +kernel
theorem dX10_adds_34 : decode cX10_adds 34 = .ok (.iadd, 1) := by decide +kernel
theorem dX10_adds_35 : decode cX10_adds 35 = .ok (.iastore, 1) := by decide +kernel
theorem dX10_adds_36 : decode cX10_adds 36 = .ok (.return_, 1) := by decide +kernel
set_option maxRecDepth 20000 in
theorem ggX10_floor_X10_isRank : GoodIn wsX10_floor wsX10_isRank := goodIn_r _ [4, 5, 6, 3, 7] (by decide +kernel) (by decide +kernel)
set_option maxRecDepth 20000 in
theorem gX10_floor_X10_isRank : GoodIn wsX10_floor (va_wsS RX10 129 yX10_isRank wsX10_isRank) := goodIn_app (goodIn_of _ (by decide +kernel)) ggX10_floor_X10_isRank
set_option maxRecDepth 20000 in
theorem ggX10_floor_X10_isBit : GoodIn wsX10_floor wsX10_isBit := goodIn_r _ [10, 5, 6, 3, 7] (by decide +kernel) (by decide +kernel)
set_option maxRecDepth 20000 in
theorem gX10_floor_X10_isBit : GoodIn wsX10_floor (va_wsS RX10 133 yX10_isBit wsX10_isBit) := goodIn_app (goodIn_of _ (by decide +kernel)) ggX10_floor_X10_isBit
set_option maxRecDepth 20000 in
theorem ggX10_floor_X10_refuses : GoodIn wsX10_floor wsX10_refuses := goodIn_r _ [14, 15, 16, 39, 40, 41, 42, 43, 44, 45, 46, 47, 48, 49, 50, 51, 52, 53, 54, 55, 56, 57, 58, 59, 60, 61, 62, 63, 64, 65, 66, 67, 68, 69, 70, 71, 72, 73, 74, 75, 76, 77, 78, 79, 80, 81, 82, 83, 84, 85, 86, 87, 88, 89, 90, 91, 92, 93, 94] (by decide +kernel) (by decide +kernel)
set_option maxRecDepth 20000 in
theorem gX10_floor_X10_refuses : GoodIn wsX10_floor (wsV RX10 119 RX10 yX10_refuses wsX10_refuses) := goodIn_app (goodIn_of _ (by decide +kernel)) ggX10_floor_X10_refuses
set_option maxRecDepth 20000 in
theorem ggX10_floor_X10_placeOf : GoodIn wsX10_floor wsX10_placeOf := goodIn_r _ [20, 21, 22, 23, 24, 3, 25, 39, 40, 41, 42, 43, 44, 45, 46, 47, 48, 49, 50, 51, 52, 53, 54, 55, 56, 57, 58, 59, 60, 61, 62, 63, 64, 65, 66, 67, 68, 69, 70, 71, 72, 73, 74, 75, 76, 77, 78, 79, 80, 81, 82, 83, 84, 85, 86, 87, 88, 89, 90, 91, 92, 93, 94] (by decide +kernel) (by decide +kernel)
set_option maxRecDepth 20000 in
theorem gX10_floor_X10_placeOf : GoodIn wsX10_floor (wsV RX10 136 RX10 yX10_placeOf wsX10_placeOf) := goodIn_app (goodIn_of _ (by decide +kernel)) ggX10_floor_X10_placeOf
set_option maxRecDepth 20000 in
theorem ggX10_floor_X10_size : GoodIn wsX10_floor wsX10_size := goodIn_r _ [25, 21, 39, 40, 41, 42, 43, 44, 45, 46, 47, 48, 49, 50, 51, 52, 53, 54, 55, 56, 57, 58, 59, 60, 61, 62, 63, 64, 65, 66, 67, 68, 69, 70, 71, 72, 73, 74, 75, 76, 77, 78, 79, 80, 81, 82, 83, 84, 85, 86, 87, 88, 89, 90, 91, 92, 93, 94] (by decide +kernel) (by decide +kernel)
set_option maxRecDepth 20000 in
theorem gX10_floor_X10_size : GoodIn wsX10_floor (wsV RX10 125 RX10 yX10_size wsX10_size) := goodIn_app (goodIn_of _ (by decide +kernel)) ggX10_floor_X10_size
set_option maxRecDepth 20000 in
theorem ggX10_floor_X10_adds : GoodIn wsX10_floor wsX10_adds := goodIn_r _ [29, 21, 22, 23, 24, 3, 25, 39, 40, 41, 42, 43, 44, 45, 46, 47, 48, 49, 50, 51, 52, 53, 54, 55, 56, 57, 58, 59, 60, 61, 62, 63, 64, 65, 66, 67, 68, 69, 70, 71, 72, 73, 74, 75, 76, 77, 78, 79, 80, 81, 82, 83, 84, 85, 86, 87, 88, 89, 90, 91, 92, 93, 94] (by decide +kernel) (by decide +kernel)
set_option maxRecDepth 20000 in
theorem gX10_floor_X10_adds : GoodIn wsX10_floor (wsV RX10 139 RX10 yX10_adds wsX10_adds) := goodIn_app (goodIn_of _ (by decide +kernel)) ggX10_floor_X10_adds
set_option maxRecDepth 20000 in
theorem ggX10_floor_X10_settled : GoodIn wsX10_floor wsX10_settled := goodIn_r _ [33, 34, 35, 36, 37, 3, 38, 15, 39, 40, 41, 42, 43, 44, 45, 46, 47, 48, 49, 50, 51, 52, 53, 54, 55, 56, 57, 58, 59, 60, 61, 62, 63, 64, 65, 66, 67, 68, 69, 70, 71, 72, 73, 74, 75, 76, 77, 78, 79, 80, 81, 82, 83, 84, 85, 86, 87, 88, 89, 90, 91, 92, 93, 94] (by decide +kernel) (by decide +kernel)
set_option maxRecDepth 20000 in
theorem gX10_floor_X10_settled : GoodIn wsX10_floor (wsV RX10 122 RX10 yX10_settled wsX10_settled) := goodIn_app (goodIn_of _ (by decide +kernel)) ggX10_floor_X10_settled
theorem dX10_floor_0 : decode cX10_floor 0 = .ok (.iload_n 1, 1) := by decide +kernel
theorem dX10_floor_1 : decode cX10_floor 1 = .ok (.invokestatic 129, 3) := by decide +kernel
theorem dX10_floor_4 : decode cX10_floor 4 = .ok (.ifCond .eq 10, 3) := by decide +kernel
theorem dX10_floor_7 : decode cX10_floor 7 = .ok (.iload_n 2, 1) := by decide +kernel
theorem dX10_floor_8 : decode cX10_floor 8 = .ok (.invokestatic 133, 3) := by decide +kernel
theorem dX10_floor_11 : decode cX10_floor 11 = .ok (.ifCond .ne 9, 3) := by decide +kernel
theorem dX10_floor_14 : decode cX10_floor 14 = .ok (.aload_n 0, 1) := by decide +kernel
theorem dX10_floor_15 : decode cX10_floor 15 = .ok (.iconst (-1), 1) := by decide +kernel
theorem dX10_floor_16 : decode cX10_floor 16 = .ok (.invokevirtual 119, 3) := by decide +kernel
theorem dX10_floor_19 : decode cX10_floor 19 = .ok (.ireturn, 1) := by decide +kernel
theorem dX10_floor_20 : decode cX10_floor 20 = .ok (.aload_n 0, 1) := by decide +kernel
theorem dX10_floor_21 : decode cX10_floor 21 = .ok (.iload_n 1, 1) := by decide +kernel
theorem dX10_floor_22 : decode cX10_floor 22 = .ok (.invokevirtual 136, 3) := by decide +kernel
theorem dX10_floor_25 : decode cX10_floor 25 = .ok (.iconst (-1), 1) := by decide +kernel
theorem dX10_floor_26 : decode cX10_floor 26 = .ok (.if_icmp .eq 10, 3) := by decide +kernel
theorem dX10_floor_36 : decode cX10_floor 36 = .ok (.aload_n 0, 1) := by decide +kernel
theorem dX10_floor_37 : decode cX10_floor 37 = .ok (.invokevirtual 125, 3) := by decide +kernel
theorem dX10_floor_40 : decode cX10_floor 40 = .ok (.bipush 6, 2) := by decide +kernel
theorem dX10_floor_42 : decode cX10_floor 42 = .ok (.if_icmp .ne 10, 3) := by decide +kernel
theorem dX10_floor_52 : decode cX10_floor 52 = .ok (.aload_n 0, 1) := by decide +kernel
theorem dX10_floor_53 : decode cX10_floor 53 = .ok (.iload_n 1, 1) := by decide +kernel
theorem dX10_floor_54 : decode cX10_floor 54 = .ok (.iload_n 2, 1) := by decide +kernel
theorem dX10_floor_55 : decode cX10_floor 55 = .ok (.invokevirtual 139, 3) := by decide +kernel
theorem dX10_floor_58 : decode cX10_floor 58 = .ok (.aload_n 0, 1) := by decide +kernel
theorem dX10_floor_59 : decode cX10_floor 59 = .ok (.aload_n 0, 1) := by decide +kernel
theorem dX10_floor_60 : decode cX10_floor 60 = .ok (.invokevirtual 125, 3) := by decide +kernel
theorem dX10_floor_63 : decode cX10_floor 63 = .ok (.iconst 1, 1) := by decide +kernel
theorem dX10_floor_64 : decode cX10_floor 64 = .ok (.isub, 1) := by decide +kernel
theorem dX10_floor_65 : decode cX10_floor 65 = .ok (.invokevirtual 122, 3) := by decide +kernel
theorem dX10_floor_68 : decode cX10_floor 68 = .ok (.ireturn, 1) := by decide +kernel
set_option maxRecDepth 20000 in
theorem ggX10_at_X10_isPlace : GoodIn wsX10_at wsX10_isPlace := goodIn_r _ [6, 7, 8, 9, 5, 10, 1, 11, 12, 13, 99, 100, 101, 102, 103, 104, 105, 106, 107, 108, 109, 110, 111, 112, 113, 114, 115, 116, 117, 118, 119, 120, 121, 122, 123, 124, 125, 126, 127, 128, 129, 130, 131, 132, 133, 134, 135, 136, 137, 138, 139, 140, 141, 142, 143, 144, 145, 146, 147, 148, 149, 150, 151, 152, 153, 154] (by decide +kernel) (by decide +kernel)
set_option maxRecDepth 20000 in
theorem gX10_at_X10_isPlace : GoodIn wsX10_at (wsV RX10 143 RX10 yX10_isPlace wsX10_isPlace) := goodIn_app (goodIn_of _ (by decide +kernel)) ggX10_at_X10_isPlace
theorem dX10_at_0 : decode cX10_at 0 = .ok (.aload_n 0, 1) := by decide +kernel
theorem dX10_at_1 : decode cX10_at 1 = .ok (.iload_n 1, 1) := by decide +kernel
theorem dX10_at_2 : decode cX10_at 2 = .ok (.invokevirtual 143, 3) := by decide +kernel
theorem dX10_at_5 : decode cX10_at 5 = .ok (.ifCond .ne 5, 3) := by decide +kernel
theorem dX10_at_8 : decode cX10_at 8 = .ok (.iconst (-1), 1) := by decide +kernel
theorem dX10_at_9 : decode cX10_at 9 = .ok (.ireturn, 1) := by decide +kernel
set_option maxRecDepth 20000 in
theorem ggX10_asks_X10_size : GoodIn wsX10_asks wsX10_size := goodIn_r _ [6, 1, 103, 104, 105, 106, 107, 108, 109, 110, 111, 112, 113, 114, 115, 116, 117, 118, 119, 120, 121, 122, 123, 124, 125, 126, 127, 128, 129, 130, 131, 132, 133, 134, 135, 136, 137, 138, 139, 140, 141, 142, 143, 144, 145, 146, 147, 148, 149, 150, 151, 152, 153, 154, 155, 156, 157, 158] (by decide +kernel) (by decide +kernel)
set_option maxRecDepth 20000 in
theorem gX10_asks_X10_size : GoodIn wsX10_asks (wsV RX10 125 RX10 yX10_size wsX10_size) := goodIn_app (goodIn_of _ (by decide +kernel)) ggX10_asks_X10_size
set_option maxRecDepth 20000 in
theorem ggX10_asks_X10_lies : GoodIn wsX10_asks wsX10_lies := goodIn_r _ [9] (by decide +kernel) (by decide +kernel)
set_option maxRecDepth 20000 in
theorem gX10_asks_X10_lies : GoodIn wsX10_asks (va_wsS RX10 18 yX10_lies wsX10_lies) := goodIn_app (goodIn_of _ (by decide +kernel)) ggX10_asks_X10_lies
theorem dX10_asks_0 : decode cX10_asks 0 = .ok (.iload_n 1, 1) := by decide +kernel
theorem dX10_asks_1 : decode cX10_asks 1 = .ok (.iconst 1, 1) := by decide +kernel
theorem dX10_asks_2 : decode cX10_asks 2 = .ok (.aload_n 0, 1) := by decide +kernel
theorem dX10_asks_3 : decode cX10_asks 3 = .ok (.invokevirtual 125, 3) := by decide +kernel
theorem dX10_asks_6 : decode cX10_asks 6 = .ok (.invokestatic 18, 3) := by decide +kernel
theorem dX10_asks_9 : decode cX10_asks 9 = .ok (.ifCond .ne 5, 3) := by decide +kernel
theorem dX10_asks_12 : decode cX10_asks 12 = .ok (.iconst (-1), 1) := by decide +kernel
theorem dX10_asks_13 : decode cX10_asks 13 = .ok (.ireturn, 1) := by decide +kernel
set_option maxRecDepth 20000 in
theorem ggX10_isTerm_X10_lies : GoodIn wsX10_isTerm wsX10_lies := goodIn_r _ [4] (by decide +kernel) (by decide +kernel)
set_option maxRecDepth 20000 in
theorem gX10_isTerm_X10_lies : GoodIn wsX10_isTerm (va_wsS RX10 18 yX10_lies wsX10_lies) := goodIn_app (goodIn_of _ (by decide +kernel)) ggX10_isTerm_X10_lies
set_option maxRecDepth 20000 in
theorem ggX10_isTerm_X10_isBit : GoodIn wsX10_isTerm wsX10_isBit := goodIn_r _ [7, 1, 2, 3, 4] (by decide +kernel) (by decide +kernel)
set_option maxRecDepth 20000 in
theorem gX10_isTerm_X10_isBit : GoodIn wsX10_isTerm (va_wsS RX10 133 yX10_isBit wsX10_isBit) := goodIn_app (goodIn_of _ (by decide +kernel)) ggX10_isTerm_X10_isBit
theorem dX10_isTerm_0 : decode cX10_isTerm 0 = .ok (.iload_n 0, 1) := by decide +kernel
theorem dX10_isTerm_1 : decode cX10_isTerm 1 = .ok (.tableswitch 61 0 3 #[31, 40, 48, 56], 31) := by decide +kernel
theorem dX10_isTerm_32 : decode cX10_isTerm 32 = .ok (.iload_n 1, 1) := by decide +kernel
theorem dX10_isTerm_33 : decode cX10_isTerm 33 = .ok (.iconst 0, 1) := by decide +kernel
theorem dX10_isTerm_34 : decode cX10_isTerm 34 = .ok (.sipush 999, 3) := by decide +kernel
theorem dX10_isTerm_37 : decode cX10_isTerm 37 = .ok (.invokestatic 18, 3) := by decide +kernel
theorem dX10_isTerm_40 : decode cX10_isTerm 40 = .ok (.ireturn, 1) := by decide +kernel
theorem dX10_isTerm_41 : decode cX10_isTerm 41 = .ok (.iload_n 1, 1) := by decide +kernel
theorem dX10_isTerm_42 : decode cX10_isTerm 42 = .ok (.iconst 0, 1) := by decide +kernel
theorem dX10_isTerm_43 : decode cX10_isTerm 43 = .ok (.bipush 10, 2) := by decide +kernel
theorem dX10_isTerm_45 : decode cX10_isTerm 45 = .ok (.invokestatic 18, 3) := by decide +kernel
theorem dX10_isTerm_48 : decode cX10_isTerm 48 = .ok (.ireturn, 1) := by decide +kernel
theorem dX10_isTerm_49 : decode cX10_isTerm 49 = .ok (.iload_n 1, 1) := by decide +kernel
theorem dX10_isTerm_50 : decode cX10_isTerm 50 = .ok (.iconst 0, 1) := by decide +kernel
theorem dX10_isTerm_51 : decode cX10_isTerm 51 = .ok (.bipush 9, 2) := by decide +kernel
theorem dX10_isTerm_53 : decode cX10_isTerm 53 = .ok (.invokestatic 18, 3) := by decide +kernel
theorem dX10_isTerm_56 : decode cX10_isTerm 56 = .ok (.ireturn, 1) := by decide +kernel
theorem dX10_isTerm_57 : decode cX10_isTerm 57 = .ok (.iload_n 1, 1) := by decide +kernel
theorem dX10_isTerm_58 : decode cX10_isTerm 58 = .ok (.invokestatic 133, 3) := by decide +kernel
theorem dX10_isTerm_61 : decode cX10_isTerm 61 = .ok (.ireturn, 1) := by decide +kernel
theorem dX10_isTerm_62 : decode cX10_isTerm 62 = .ok (.iconst 0, 1) := by decide +kernel
theorem dX10_isTerm_63 : decode cX10_isTerm 63 = .ok (.ireturn, 1) := by decide +kernel
theorem dX10_termAt_0 : decode cX10_termAt 0 = .ok (.iload_n 0, 1) := by decide +kernel
theorem dX10_termAt_1 : decode cX10_termAt 1 = .ok (.ifCond .ne 8, 3) := by decide +kernel
theorem dX10_termAt_4 : decode cX10_termAt 4 = .ok (.bipush 13, 2) := by decide +kernel
theorem dX10_termAt_6 : decode cX10_termAt 6 = .ok (.goto 25, 3) := by decide +kernel
theorem dX10_termAt_9 : decode cX10_termAt 9 = .ok (.iload_n 0, 1) := by decide +kernel
theorem dX10_termAt_10 : decode cX10_termAt 10 = .ok (.iconst 1, 1) := by decide +kernel
theorem dX10_termAt_11 : decode cX10_termAt 11 = .ok (.if_icmp .ne 8, 3) := by decide +kernel
theorem dX10_termAt_14 : decode cX10_termAt 14 = .ok (.bipush 26, 2) := by decide +kernel
theorem dX10_termAt_16 : decode cX10_termAt 16 = .ok (.goto 15, 3) := by decide +kernel
theorem dX10_termAt_19 : decode cX10_termAt 19 = .ok (.iload_n 0, 1) := by decide +kernel
theorem dX10_termAt_20 : decode cX10_termAt 20 = .ok (.iconst 2, 1) := by decide +kernel
theorem dX10_termAt_21 : decode cX10_termAt 21 = .ok (.if_icmp .ne 8, 3) := by decide +kernel
theorem dX10_termAt_24 : decode cX10_termAt 24 = .ok (.bipush 27, 2) := by decide +kernel
theorem dX10_termAt_26 : decode cX10_termAt 26 = .ok (.goto 5, 3) := by decide +kernel
theorem dX10_termAt_29 : decode cX10_termAt 29 = .ok (.bipush 28, 2) := by decide +kernel
theorem dX10_termAt_31 : decode cX10_termAt 31 = .ok (.ireturn, 1) := by decide +kernel
set_option maxRecDepth 20000 in
theorem ggX10_terms_X10_isTerm : GoodIn wsX10_terms wsX10_isTerm := goodIn_r _ [5, 6, 7, 4, 8, 9, 10, 11] (by decide +kernel) (by decide +kernel)
set_option maxRecDepth 20000 in
theorem gX10_terms_X10_isTerm : GoodIn wsX10_terms (va_wsS RX10 162 yX10_isTerm wsX10_isTerm) := goodIn_app (goodIn_of _ (by decide +kernel)) ggX10_terms_X10_isTerm
set_option maxRecDepth 20000 in
theorem ggX10_terms_X10_refuses : GoodIn wsX10_terms wsX10_refuses := goodIn_r _ [15, 16, 17, 30, 31, 32, 33, 34, 35, 36, 37, 38, 39, 40, 41, 42, 43, 44, 45, 46, 47, 48, 49, 50, 51, 52, 53, 54, 55, 56, 57, 58, 59, 60, 61, 62, 63, 64, 65, 66, 67, 68, 69, 70, 71, 72, 73, 74, 75, 76, 77, 78, 79, 80, 81, 82, 83, 84, 85] (by decide +kernel) (by decide +kernel)
set_option maxRecDepth 20000 in
theorem gX10_terms_X10_refuses : GoodIn wsX10_terms (wsV RX10 119 RX10 yX10_refuses wsX10_refuses) := goodIn_app (goodIn_of _ (by decide +kernel)) ggX10_terms_X10_refuses
set_option maxRecDepth 20000 in
theorem ggX10_terms_X10_termAt : GoodIn wsX10_terms wsX10_termAt := goodIn_r _ [20] (by decide +kernel) (by decide +kernel)
set_option maxRecDepth 20000 in
theorem gX10_terms_X10_termAt : GoodIn wsX10_terms (va_wsS RX10 166 yX10_termAt wsX10_termAt) := goodIn_app (goodIn_of _ (by decide +kernel)) ggX10_terms_X10_termAt
set_option maxRecDepth 20000 in
theorem ggX10_terms_X10_settled : GoodIn wsX10_terms wsX10_settled := goodIn_r _ [24, 25, 26, 27, 28, 4, 29, 16, 30, 31, 32, 33, 34, 35, 36, 37, 38, 39, 40, 41, 42, 43, 44, 45, 46, 47, 48, 49, 50, 51, 52, 53, 54, 55, 56, 57, 58, 59, 60, 61, 62, 63, 64, 65, 66, 67, 68, 69, 70, 71, 72, 73, 74, 75, 76, 77, 78, 79, 80, 81, 82, 83, 84, 85] (by decide +kernel) (by decide +kernel)
set_option maxRecDepth 20000 in
theorem gX10_terms_X10_settled : GoodIn wsX10_terms (wsV RX10 122 RX10 yX10_settled wsX10_settled) := goodIn_app (goodIn_of _ (by decide +kernel)) ggX10_terms_X10_settled
theorem dX10_terms_0 : decode cX10_terms 0 = .ok (.iload_n 1, 1) := by decide +kernel
theorem dX10_terms_1 : decode cX10_terms 1 = .ok (.iload_n 2, 1) := by decide +kernel
theorem dX10_terms_2 : decode cX10_terms 2 = .ok (.invokestatic 162, 3) := by decide +kernel
theorem dX10_terms_5 : decode cX10_terms 5 = .ok (.ifCond .ne 9, 3) := by decide +kernel
theorem dX10_terms_8 : decode cX10_terms 8 = .ok (.aload_n 0, 1) := by decide +kernel
theorem dX10_terms_9 : decode cX10_terms 9 = .ok (.iconst (-1), 1) := by decide +kernel
theorem dX10_terms_10 : decode cX10_terms 10 = .ok (.invokevirtual 119, 3) := by decide +kernel
theorem dX10_terms_13 : decode cX10_terms 13 = .ok (.ireturn, 1) := by decide +kernel
theorem dX10_terms_14 : decode cX10_terms 14 = .ok (.aload_n 0, 1) := by decide +kernel
theorem dX10_terms_15 : decode cX10_terms 15 = .ok (.getfield 28, 3) := by decide +kernel
theorem dX10_terms_18 : decode cX10_terms 18 = .ok (.iload_n 1, 1) := by decide +kernel
theorem dX10_terms_19 : decode cX10_terms 19 = .ok (.invokestatic 166, 3) := by decide +kernel
theorem dX10_terms_22 : decode cX10_terms 22 = .ok (.iaload, 1) := by decide +kernel
theorem dX10_terms_23 : decode cX10_terms 23 = .ok (.istore_n 3, 1) := by decide +kernel
theorem dX10_terms_24 : decode cX10_terms 24 = .ok (.aload_n 0, 1) := by decide +kernel
theorem dX10_terms_25 : decode cX10_terms 25 = .ok (.getfield 28, 3) := by decide +kernel
theorem dX10_terms_28 : decode cX10_terms 28 = .ok (.iload_n 1, 1) := by decide +kernel
theorem dX10_terms_29 : decode cX10_terms 29 = .ok (.invokestatic 166, 3) := by decide +kernel
theorem dX10_terms_32 : decode cX10_terms 32 = .ok (.iload_n 2, 1) := by decide +kernel
theorem dX10_terms_33 : decode cX10_terms 33 = .ok (.iastore, 1) := by decide +kernel
theorem dX10_terms_34 : decode cX10_terms 34 = .ok (.aload_n 0, 1) := by decide +kernel
theorem dX10_terms_35 : decode cX10_terms 35 = .ok (.iload_n 3, 1) := by decide +kernel
theorem dX10_terms_36 : decode cX10_terms 36 = .ok (.invokevirtual 122, 3) := by decide +kernel
theorem dX10_terms_39 : decode cX10_terms 39 = .ok (.ireturn, 1) := by decide +kernel
theorem dX10_feed_0 : decode cX10_feed 0 = .ok (.aload_n 0, 1) := by decide +kernel
theorem dX10_feed_1 : decode cX10_feed 1 = .ok (.getfield 169, 3) := by decide +kernel
theorem dX10_feed_4 : decode cX10_feed 4 = .ok (.bipush 20, 2) := by decide +kernel
theorem dX10_feed_6 : decode cX10_feed 6 = .ok (.iadd, 1) := by decide +kernel
theorem dX10_feed_7 : decode cX10_feed 7 = .ok (.sipush 400, 3) := by decide +kernel
theorem dX10_feed_10 : decode cX10_feed 10 = .ok (.if_icmp .le 5, 3) := by decide +kernel
theorem dX10_feed_15 : decode cX10_feed 15 = .ok (.aload_n 0, 1) := by decide +kernel
theorem dX10_feed_16 : decode cX10_feed 16 = .ok (.getfield 48, 3) := by decide +kernel
theorem dX10_feed_19 : decode cX10_feed 19 = .ok (.iconst 0, 1) := by decide +kernel
theorem dX10_feed_20 : decode cX10_feed 20 = .ok (.iload_n 1, 1) := by decide +kernel
theorem dX10_feed_21 : decode cX10_feed 21 = .ok (.iastore, 1) := by decide +kernel
theorem dX10_feed_22 : decode cX10_feed 22 = .ok (.aload_n 0, 1) := by decide +kernel
theorem dX10_feed_23 : decode cX10_feed 23 = .ok (.getfield 48, 3) := by decide +kernel
theorem dX10_feed_26 : decode cX10_feed 26 = .ok (.iconst 1, 1) := by decide +kernel
theorem dX10_feed_27 : decode cX10_feed 27 = .ok (.iload_n 2, 1) := by decide +kernel
theorem dX10_feed_28 : decode cX10_feed 28 = .ok (.iastore, 1) := by decide +kernel
theorem dX10_feed_29 : decode cX10_feed 29 = .ok (.aload_n 0, 1) := by decide +kernel
theorem dX10_feed_30 : decode cX10_feed 30 = .ok (.getfield 48, 3) := by decide +kernel
theorem dX10_feed_33 : decode cX10_feed 33 = .ok (.iconst 2, 1) := by decide +kernel
theorem dX10_feed_34 : decode cX10_feed 34 = .ok (.iload_n 3, 1) := by decide +kernel
theorem dX10_feed_35 : decode cX10_feed 35 = .ok (.iastore, 1) := by decide +kernel
theorem dX10_feed_36 : decode cX10_feed 36 = .ok (.aload_n 0, 1) := by decide +kernel
theorem dX10_feed_37 : decode cX10_feed 37 = .ok (.getfield 48, 3) := by decide +kernel
theorem dX10_feed_40 : decode cX10_feed 40 = .ok (.iconst 3, 1) := by decide +kernel
theorem dX10_feed_41 : decode cX10_feed 41 = .ok (.iload 4, 2) := by decide +kernel
theorem dX10_feed_43 : decode cX10_feed 43 = .ok (.iastore, 1) := by decide +kernel
theorem dX10_feed_44 : decode cX10_feed 44 = .ok (.aload_n 0, 1) := by decide +kernel
theorem dX10_feed_45 : decode cX10_feed 45 = .ok (.getfield 48, 3) := by decide +kernel
theorem dX10_feed_48 : decode cX10_feed 48 = .ok (.iconst 4, 1) := by decide +kernel
theorem dX10_feed_49 : decode cX10_feed 49 = .ok (.iload 5, 2) := by decide +kernel
theorem dX10_feed_51 : decode cX10_feed 51 = .ok (.iastore, 1) := by decide +kernel
theorem dX10_feed_52 : decode cX10_feed 52 = .ok (.iconst 0, 1) := by decide +kernel
theorem dX10_feed_53 : decode cX10_feed 53 = .ok (.istore 6, 2) := by decide +kernel
theorem dX10_feed_55 : decode cX10_feed 55 = .ok (.iload 6, 2) := by decide +kernel
theorem dX10_feed_57 : decode cX10_feed 57 = .ok (.bipush 20, 2) := by decide +kernel
theorem dX10_feed_59 : decode cX10_feed 59 = .ok (.if_icmp .ge 42, 3) := by decide +kernel
theorem dX10_feed_62 : decode cX10_feed 62 = .ok (.aload_n 0, 1) := by decide +kernel
theorem dX10_feed_63 : decode cX10_feed 63 = .ok (.getfield 45, 3) := by decide +kernel
theorem dX10_feed_66 : decode cX10_feed 66 = .ok (.aload_n 0, 1) := by decide +kernel
theorem dX10_feed_67 : decode cX10_feed 67 = .ok (.getfield 169, 3) := by decide +kernel
theorem dX10_feed_70 : decode cX10_feed 70 = .ok (.iload 6, 2) := by decide +kernel
theorem dX10_feed_72 : decode cX10_feed 72 = .ok (.iadd, 1) := by decide +kernel
theorem dX10_feed_73 : decode cX10_feed 73 = .ok (.aload_n 0, 1) := by decide +kernel
theorem dX10_feed_74 : decode cX10_feed 74 = .ok (.getfield 48, 3) := by decide +kernel
theorem dX10_feed_77 : decode cX10_feed 77 = .ok (.iload 6, 2) := by decide +kernel
theorem dX10_feed_79 : decode cX10_feed 79 = .ok (.iconst 4, 1) := by decide +kernel
theorem dX10_feed_80 : decode cX10_feed 80 = .ok (.idiv, 1) := by decide +kernel
theorem dX10_feed_81 : decode cX10_feed 81 = .ok (.iaload, 1) := by decide +kernel
theorem dX10_feed_82 : decode cX10_feed 82 = .ok (.bipush 24, 2) := by decide +kernel
theorem dX10_feed_84 : decode cX10_feed 84 = .ok (.bipush 8, 2) := by decide +kernel
theorem dX10_feed_86 : decode cX10_feed 86 = .ok (.iload 6, 2) := by decide +kernel
theorem dX10_feed_88 : decode cX10_feed 88 = .ok (.iconst 4, 1) := by decide +kernel
theorem dX10_feed_89 : decode cX10_feed 89 = .ok (.irem, 1) := by decide +kernel
theorem dX10_feed_90 : decode cX10_feed 90 = .ok (.imul, 1) := by decide +kernel
theorem dX10_feed_91 : decode cX10_feed 91 = .ok (.isub, 1) := by decide +kernel
theorem dX10_feed_92 : decode cX10_feed 92 = .ok (.ishr, 1) := by decide +kernel
theorem dX10_feed_93 : decode cX10_feed 93 = .ok (.i2b, 1) := by decide +kernel
theorem dX10_feed_94 : decode cX10_feed 94 = .ok (.bastore, 1) := by decide +kernel
theorem dX10_feed_95 : decode cX10_feed 95 = .ok (.iinc 6 1, 3) := by decide +kernel
theorem dX10_feed_98 : decode cX10_feed 98 = .ok (.goto (-43), 3) := by decide +kernel
theorem dX10_feed_101 : decode cX10_feed 101 = .ok (.aload_n 0, 1) := by decide +kernel
theorem dX10_feed_102 : decode cX10_feed 102 = .ok (.dup, 1) := by decide +kernel
theorem dX10_feed_103 : decode cX10_feed 103 = .ok (.getfield 169, 3) := by decide +kernel
theorem dX10_feed_106 : decode cX10_feed 106 = .ok (.bipush 20, 2) := by decide +kernel
theorem dX10_feed_108 : decode cX10_feed 108 = .ok (.iadd, 1) := by decide +kernel
theorem dX10_feed_109 : decode cX10_feed 109 = .ok (.putfield 169, 3) := by decide +kernel
theorem dX10_feed_112 : decode cX10_feed 112 = .ok (.aload_n 0, 1) := by decide +kernel
theorem dX10_feed_113 : decode cX10_feed 113 = .ok (.getfield 169, 3) := by decide +kernel
theorem dX10_feed_116 : decode cX10_feed 116 = .ok (.ireturn, 1) := by decide +kernel
