set_option maxRecDepth 20000 in
theorem ggX10_canTurn_X10_size : GoodIn wsX10_canTurn wsX10_size := goodIn_r _ [6, 1, 99, 100, 101, 102, 103, 104, 105, 106, 107, 108, 109, 110, 111, 112, 113, 114, 115, 116, 117, 118, 119, 120, 121, 122, 123, 124, 125, 126, 127, 128, 129, 130, 131, 132, 133, 134, 135, 136, 137, 138, 139, 140, 141, 142, 143, 144, 145, 146, 147, 148, 149, 150, 151, 152, 153, 154] rfl (by decide +kernel)
set_option maxRecDepth 20000 in
theorem gX10_canTurn_X10_size : GoodIn wsX10_canTurn (wsV RX10 125 RX10 yX10_size wsX10_size) := goodIn_app (goodIn_of _ (by decide +kernel)) ggX10_canTurn_X10_size
set_option maxRecDepth 20000 in
theorem ggX10_canTurn_X10_rankBelow : GoodIn wsX10_canTurn wsX10_rankBelow := goodIn_r _ [10, 1, 2, 3, 4, 5, 6, 99, 100, 101, 102, 103, 104, 105, 106, 107, 108, 109, 110, 111, 112, 113, 114, 115, 116, 117, 118, 119, 120, 121, 122, 123, 124, 125, 126, 127, 128, 129, 130, 131, 132, 133, 134, 135, 136, 137, 138, 139, 140, 141, 142, 143, 144, 145, 146, 147, 148, 149, 150, 151, 152, 153, 154] rfl (by decide +kernel)
set_option maxRecDepth 20000 in
theorem gX10_canTurn_X10_rankBelow : GoodIn wsX10_canTurn (wsV RX10 149 RX10 yX10_rankBelow wsX10_rankBelow) := goodIn_app (goodIn_of _ (by decide +kernel)) ggX10_canTurn_X10_rankBelow
set_option maxRecDepth 20000 in
theorem ggX10_canTurn_X10_setsTurn : GoodIn wsX10_canTurn wsX10_setsTurn := goodIn_r _ [14, 15, 16, 17, 18, 5, 19, 1, 2, 3, 4, 6, 99, 100, 101, 102, 103, 104, 105, 106, 107, 108, 109, 110, 111, 112, 113, 114, 115, 116, 117, 118, 119, 120, 121, 122, 123, 124, 125, 126, 127, 128, 129, 130, 131, 132, 133, 134, 135, 136, 137, 138, 139, 140, 141, 142, 143, 144, 145, 146, 147, 148, 149, 150, 151, 152, 153, 154] rfl (by decide +kernel)
set_option maxRecDepth 20000 in
theorem gX10_canTurn_X10_setsTurn : GoodIn wsX10_canTurn (wsV RX10 152 RX10 yX10_setsTurn wsX10_setsTurn) := goodIn_app (goodIn_of _ (by decide +kernel)) ggX10_canTurn_X10_setsTurn
set_option maxRecDepth 20000 in
theorem ggX10_canTurn_X10_isNow : GoodIn wsX10_canTurn wsX10_isNow := goodIn_r _ [23, 24, 25, 26, 5, 27, 1, 28, 29, 30, 31, 32, 33, 34, 35, 36, 37, 38, 39, 40, 41, 42, 43, 44, 45, 46, 47, 48, 49, 50, 51, 52, 53, 15, 54, 55, 56, 57, 58, 59, 60, 61, 62, 63, 64, 65, 66, 67, 2, 3, 4, 6, 68, 69, 70, 71, 72, 73, 74, 75, 76, 77, 78, 79, 80, 81, 82, 83, 84, 85, 86, 87, 88, 89, 90, 91, 92, 93, 94, 95, 96, 97, 98, 99, 100, 101, 102, 103, 104, 105, 106, 107, 108, 109, 110, 111, 112, 113, 114, 115, 116, 117, 118, 119, 120, 121, 122, 123, 124, 125, 126, 127, 128, 129, 130, 131, 132, 133, 134, 135, 136, 137, 138, 139, 140, 141, 142, 143, 144, 145, 146, 147, 148, 149, 150, 151, 152, 153, 154] rfl (by decide +kernel)
set_option maxRecDepth 20000 in
theorem gX10_canTurn_X10_isNow : GoodIn wsX10_canTurn (wsV RX10 159 RX10 yX10_isNow wsX10_isNow) := goodIn_app (goodIn_of _ (by decide +kernel)) ggX10_canTurn_X10_isNow
theorem dX10_canTurn_0 : decode cX10_canTurn 0 = .ok (.iload_n 1, 1) := by decide +kernel
theorem dX10_canTurn_1 : decode cX10_canTurn 1 = .ok (.aload_n 0, 1) := by decide +kernel
theorem dX10_canTurn_2 : decode cX10_canTurn 2 = .ok (.invokevirtual 125, 3) := by decide +kernel
theorem dX10_canTurn_5 : decode cX10_canTurn 5 = .ok (.if_icmp .le 5, 3) := by decide +kernel
theorem dX10_canTurn_8 : decode cX10_canTurn 8 = .ok (.iconst 0, 1) := by decide +kernel
theorem dX10_canTurn_9 : decode cX10_canTurn 9 = .ok (.ireturn, 1) := by decide +kernel
theorem dX10_canTurn_10 : decode cX10_canTurn 10 = .ok (.aload_n 0, 1) := by decide +kernel
theorem dX10_canTurn_11 : decode cX10_canTurn 11 = .ok (.iload_n 1, 1) := by decide +kernel
theorem dX10_canTurn_12 : decode cX10_canTurn 12 = .ok (.aload_n 0, 1) := by decide +kernel
theorem dX10_canTurn_13 : decode cX10_canTurn 13 = .ok (.getfield 28, 3) := by decide +kernel
theorem dX10_canTurn_16 : decode cX10_canTurn 16 = .ok (.iconst 0, 1) := by decide +kernel
theorem dX10_canTurn_17 : decode cX10_canTurn 17 = .ok (.iaload, 1) := by decide +kernel
theorem dX10_canTurn_18 : decode cX10_canTurn 18 = .ok (.aload_n 0, 1) := by decide +kernel
theorem dX10_canTurn_19 : decode cX10_canTurn 19 = .ok (.iload_n 1, 1) := by decide +kernel
theorem dX10_canTurn_20 : decode cX10_canTurn 20 = .ok (.invokevirtual 149, 3) := by decide +kernel
theorem dX10_canTurn_23 : decode cX10_canTurn 23 = .ok (.aload_n 0, 1) := by decide +kernel
theorem dX10_canTurn_24 : decode cX10_canTurn 24 = .ok (.getfield 28, 3) := by decide +kernel
theorem dX10_canTurn_27 : decode cX10_canTurn 27 = .ok (.bipush 6, 2) := by decide +kernel
theorem dX10_canTurn_29 : decode cX10_canTurn 29 = .ok (.iaload, 1) := by decide +kernel
theorem dX10_canTurn_30 : decode cX10_canTurn 30 = .ok (.invokevirtual 152, 3) := by decide +kernel
theorem dX10_canTurn_33 : decode cX10_canTurn 33 = .ok (.aload_n 0, 1) := by decide +kernel
theorem dX10_canTurn_34 : decode cX10_canTurn 34 = .ok (.iconst 2, 1) := by decide +kernel
theorem dX10_canTurn_35 : decode cX10_canTurn 35 = .ok (.invokevirtual 159, 3) := by decide +kernel
theorem dX10_canTurn_38 : decode cX10_canTurn 38 = .ok (.ifCond .ne 7, 3) := by decide +kernel
theorem dX10_canTurn_41 : decode cX10_canTurn 41 = .ok (.iconst 1, 1) := by decide +kernel
theorem dX10_canTurn_42 : decode cX10_canTurn 42 = .ok (.goto 4, 3) := by decide +kernel
theorem dX10_canTurn_45 : decode cX10_canTurn 45 = .ok (.iconst 0, 1) := by decide +kernel
theorem dX10_canTurn_46 : decode cX10_canTurn 46 = .ok (.ireturn, 1) := by decide +kernel
theorem dX10_exchanges_0 : decode cX10_exchanges 0 = .ok (.aload_n 0, 1) := by decide +kernel
theorem dX10_exchanges_1 : decode cX10_exchanges 1 = .ok (.getfield 28, 3) := by decide +kernel
theorem dX10_exchanges_4 : decode cX10_exchanges 4 = .ok (.iconst 0, 1) := by decide +kernel
theorem dX10_exchanges_5 : decode cX10_exchanges 5 = .ok (.iload_n 1, 1) := by decide +kernel
theorem dX10_exchanges_6 : decode cX10_exchanges 6 = .ok (.iadd, 1) := by decide +kernel
theorem dX10_exchanges_7 : decode cX10_exchanges 7 = .ok (.iaload, 1) := by decide +kernel
theorem dX10_exchanges_8 : decode cX10_exchanges 8 = .ok (.istore_n 3, 1) := by decide +kernel
theorem dX10_exchanges_9 : decode cX10_exchanges 9 = .ok (.aload_n 0, 1) := by decide +kernel
theorem dX10_exchanges_10 : decode cX10_exchanges 10 = .ok (.getfield 28, 3) := by decide +kernel
theorem dX10_exchanges_13 : decode cX10_exchanges 13 = .ok (.bipush 6, 2) := by decide +kernel
theorem dX10_exchanges_15 : decode cX10_exchanges 15 = .ok (.iload_n 1, 1) := by decide +kernel
theorem dX10_exchanges_16 : decode cX10_exchanges 16 = .ok (.iadd, 1) := by decide +kernel
theorem dX10_exchanges_17 : decode cX10_exchanges 17 = .ok (.iaload, 1) := by decide +kernel
theorem dX10_exchanges_18 : decode cX10_exchanges 18 = .ok (.istore 4, 2) := by decide +kernel
theorem dX10_exchanges_20 : decode cX10_exchanges 20 = .ok (.aload_n 0, 1) := by decide +kernel
theorem dX10_exchanges_21 : decode cX10_exchanges 21 = .ok (.getfield 28, 3) := by decide +kernel
theorem dX10_exchanges_24 : decode cX10_exchanges 24 = .ok (.iconst 0, 1) := by decide +kernel
theorem dX10_exchanges_25 : decode cX10_exchanges 25 = .ok (.iload_n 1, 1) := by decide +kernel
theorem dX10_exchanges_26 : decode cX10_exchanges 26 = .ok (.iadd, 1) := by decide +kernel
theorem dX10_exchanges_27 : decode cX10_exchanges 27 = .ok (.aload_n 0, 1) := by decide +kernel
theorem dX10_exchanges_28 : decode cX10_exchanges 28 = .ok (.getfield 28, 3) := by decide +kernel
theorem dX10_exchanges_31 : decode cX10_exchanges 31 = .ok (.iconst 0, 1) := by decide +kernel
theorem dX10_exchanges_32 : decode cX10_exchanges 32 = .ok (.iload_n 2, 1) := by decide +kernel
theorem dX10_exchanges_33 : decode cX10_exchanges 33 = .ok (.iadd, 1) := by decide +kernel
theorem dX10_exchanges_34 : decode cX10_exchanges 34 = .ok (.iaload, 1) := by decide +kernel
theorem dX10_exchanges_35 : decode cX10_exchanges 35 = .ok (.iastore, 1) := by decide +kernel
theorem dX10_exchanges_36 : decode cX10_exchanges 36 = .ok (.aload_n 0, 1) := by decide +kernel
theorem dX10_exchanges_37 : decode cX10_exchanges 37 = .ok (.getfield 28, 3) := by decide +kernel
theorem dX10_exchanges_40 : decode cX10_exchanges 40 = .ok (.bipush 6, 2) := by decide +kernel
theorem dX10_exchanges_42 : decode cX10_exchanges 42 = .ok (.iload_n 1, 1) := by decide +kernel
theorem dX10_exchanges_43 : decode cX10_exchanges 43 = .ok (.iadd, 1) := by decide +kernel
theorem dX10_exchanges_44 : decode cX10_exchanges 44 = .ok (.aload_n 0, 1) := by decide +kernel
theorem dX10_exchanges_45 : decode cX10_exchanges 45 = .ok (.getfield 28, 3) := by decide +kernel
theorem dX10_exchanges_48 : decode cX10_exchanges 48 = .ok (.bipush 6, 2) := by decide +kernel
theorem dX10_exchanges_50 : decode cX10_exchanges 50 = .ok (.iload_n 2, 1) := by decide +kernel
theorem dX10_exchanges_51 : decode cX10_exchanges 51 = .ok (.iadd, 1) := by decide +kernel
theorem dX10_exchanges_52 : decode cX10_exchanges 52 = .ok (.iaload, 1) := by decide +kernel
theorem dX10_exchanges_53 : decode cX10_exchanges 53 = .ok (.iastore, 1) := by decide +kernel
theorem dX10_exchanges_54 : decode cX10_exchanges 54 = .ok (.aload_n 0, 1) := by decide +kernel
theorem dX10_exchanges_55 : decode cX10_exchanges 55 = .ok (.getfield 28, 3) := by decide +kernel
theorem dX10_exchanges_58 : decode cX10_exchanges 58 = .ok (.iconst 0, 1) := by decide +kernel
theorem dX10_exchanges_59 : decode cX10_exchanges 59 = .ok (.iload_n 2, 1) := by decide +kernel
theorem dX10_exchanges_60 : decode cX10_exchanges 60 = .ok (.iadd, 1) := by decide +kernel
theorem dX10_exchanges_61 : decode cX10_exchanges 61 = .ok (.iload_n 3, 1) := by decide +kernel
theorem dX10_exchanges_62 : decode cX10_exchanges 62 = .ok (.iastore, 1) := by decide +kernel
theorem dX10_exchanges_63 : decode cX10_exchanges 63 = .ok (.aload_n 0, 1) := by decide +kernel
theorem dX10_exchanges_64 : decode cX10_exchanges 64 = .ok (.getfield 28, 3) := by decide +kernel
theorem dX10_exchanges_67 : decode cX10_exchanges 67 = .ok (.bipush 6, 2) := by decide +kernel
theorem dX10_exchanges_69 : decode cX10_exchanges 69 = .ok (.iload_n 2, 1) := by decide +kernel
theorem dX10_exchanges_70 : decode cX10_exchanges 70 = .ok (.iadd, 1) := by decide +kernel
theorem dX10_exchanges_71 : decode cX10_exchanges 71 = .ok (.iload 4, 2) := by decide +kernel
theorem dX10_exchanges_73 : decode cX10_exchanges 73 = .ok (.iastore, 1) := by decide +kernel
theorem dX10_exchanges_74 : decode cX10_exchanges 74 = .ok (.return_, 1) := by decide +kernel
set_option maxRecDepth 20000 in
theorem ggX10_turns_X10_rankBelow : GoodIn wsX10_turns wsX10_rankBelow := goodIn_r _ [6, 1, 7, 8, 9, 5, 10, 106, 107, 108, 109, 110, 111, 112, 113, 114, 115, 116, 117, 118, 119, 120, 121, 122, 123, 124, 125, 126, 127, 128, 129, 130, 131, 132, 133, 134, 135, 136, 137, 138, 139, 140, 141, 142, 143, 144, 145, 146, 147, 148, 149, 150, 151, 152, 153, 154, 155, 156, 157, 158, 159, 160, 161] rfl (by decide +kernel)
set_option maxRecDepth 20000 in
theorem gX10_turns_X10_rankBelow : GoodIn wsX10_turns (wsV RX10 149 RX10 yX10_rankBelow wsX10_rankBelow) := goodIn_app (goodIn_of _ (by decide +kernel)) ggX10_turns_X10_rankBelow
set_option maxRecDepth 20000 in
theorem ggX10_turns_X10_setsTurn : GoodIn wsX10_turns wsX10_setsTurn := goodIn_r _ [14, 15, 16, 17, 18, 5, 19, 1, 7, 8, 9, 10, 106, 107, 108, 109, 110, 111, 112, 113, 114, 115, 116, 117, 118, 119, 120, 121, 122, 123, 124, 125, 126, 127, 128, 129, 130, 131, 132, 133, 134, 135, 136, 137, 138, 139, 140, 141, 142, 143, 144, 145, 146, 147, 148, 149, 150, 151, 152, 153, 154, 155, 156, 157, 158, 159, 160, 161] rfl (by decide +kernel)
set_option maxRecDepth 20000 in
theorem gX10_turns_X10_setsTurn : GoodIn wsX10_turns (wsV RX10 152 RX10 yX10_setsTurn wsX10_setsTurn) := goodIn_app (goodIn_of _ (by decide +kernel)) ggX10_turns_X10_setsTurn
set_option maxRecDepth 20000 in
theorem ggX10_turns_X10_paysNow : GoodIn wsX10_turns wsX10_paysNow := goodIn_r _ [23, 15, 24, 25, 26, 5, 27, 1, 28, 29, 30, 31, 32, 33, 34, 35, 36, 37, 38, 39, 40, 41, 42, 43, 44, 45, 46, 47, 48, 49, 50, 51, 52, 53, 54, 55, 56, 57, 58, 59, 60, 61, 62, 63, 64, 65, 66, 67, 7, 8, 9, 10, 68, 69, 70, 71, 72, 73, 74, 75, 76, 77, 78, 79, 80, 81, 82, 83, 84, 85, 86, 87, 88, 89, 90, 91, 92, 93, 94, 95, 96, 97, 98, 106, 107, 108, 109, 110, 111, 112, 113, 114, 115, 116, 117, 118, 119, 120, 121, 122, 123, 124, 125, 126, 127, 128, 129, 130, 131, 132, 133, 134, 135, 136, 137, 138, 139, 140, 141, 142, 143, 144, 145, 146, 147, 148, 149, 150, 151, 152, 153, 154, 155, 156, 157, 158, 159, 160, 161] rfl (by decide +kernel)
set_option maxRecDepth 20000 in
theorem gX10_turns_X10_paysNow : GoodIn wsX10_turns (wsV RX10 156 RX10 yX10_paysNow wsX10_paysNow) := goodIn_app (goodIn_of _ (by decide +kernel)) ggX10_turns_X10_paysNow
set_option maxRecDepth 20000 in
theorem ggX10_turns_X10_exchanges : GoodIn wsX10_turns wsX10_exchanges := goodIn_r _ [102, 1, 106, 107, 108, 109, 110, 111, 112, 113, 114, 115, 116, 117, 118, 119, 120, 121, 122, 123, 124, 125, 126, 127, 128, 129, 130, 131, 132, 133, 134, 135, 136, 137, 138, 139, 140, 141, 142, 143, 144, 145, 146, 147, 148, 149, 150, 151, 152, 153, 154, 155, 156, 157, 158, 159, 160, 161] rfl (by decide +kernel)
set_option maxRecDepth 20000 in
theorem gX10_turns_X10_exchanges : GoodIn wsX10_turns (wsV RX10 347 RX10 yX10_exchanges wsX10_exchanges) := goodIn_app (goodIn_of _ (by decide +kernel)) ggX10_turns_X10_exchanges
set_option maxRecDepth 20000 in
theorem ggX10_turns_X10_lesser : GoodIn wsX10_turns wsX10_lesser := goodIn_r _ [105] rfl (by decide +kernel)
set_option maxRecDepth 20000 in
theorem gX10_turns_X10_lesser : GoodIn wsX10_turns (va_wsS RX10 350 yX10_lesser wsX10_lesser) := goodIn_app (goodIn_of _ (by decide +kernel)) ggX10_turns_X10_lesser
theorem dX10_turns_0 : decode cX10_turns 0 = .ok (.aload_n 0, 1) := by decide +kernel
theorem dX10_turns_1 : decode cX10_turns 1 = .ok (.iload_n 1, 1) := by decide +kernel
theorem dX10_turns_2 : decode cX10_turns 2 = .ok (.aload_n 0, 1) := by decide +kernel
theorem dX10_turns_3 : decode cX10_turns 3 = .ok (.getfield 28, 3) := by decide +kernel
theorem dX10_turns_6 : decode cX10_turns 6 = .ok (.iconst 0, 1) := by decide +kernel
theorem dX10_turns_7 : decode cX10_turns 7 = .ok (.iaload, 1) := by decide +kernel
theorem dX10_turns_8 : decode cX10_turns 8 = .ok (.aload_n 0, 1) := by decide +kernel
theorem dX10_turns_9 : decode cX10_turns 9 = .ok (.iload_n 1, 1) := by decide +kernel
theorem dX10_turns_10 : decode cX10_turns 10 = .ok (.invokevirtual 149, 3) := by decide +kernel
theorem dX10_turns_13 : decode cX10_turns 13 = .ok (.aload_n 0, 1) := by decide +kernel
theorem dX10_turns_14 : decode cX10_turns 14 = .ok (.getfield 28, 3) := by decide +kernel
theorem dX10_turns_17 : decode cX10_turns 17 = .ok (.bipush 6, 2) := by decide +kernel
theorem dX10_turns_19 : decode cX10_turns 19 = .ok (.iaload, 1) := by decide +kernel
theorem dX10_turns_20 : decode cX10_turns 20 = .ok (.invokevirtual 152, 3) := by decide +kernel
theorem dX10_turns_23 : decode cX10_turns 23 = .ok (.aload_n 0, 1) := by decide +kernel
theorem dX10_turns_24 : decode cX10_turns 24 = .ok (.invokevirtual 156, 3) := by decide +kernel
theorem dX10_turns_27 : decode cX10_turns 27 = .ok (.istore_n 2, 1) := by decide +kernel
theorem dX10_turns_28 : decode cX10_turns 28 = .ok (.iconst 0, 1) := by decide +kernel
theorem dX10_turns_29 : decode cX10_turns 29 = .ok (.istore_n 3, 1) := by decide +kernel
theorem dX10_turns_30 : decode cX10_turns 30 = .ok (.iconst 2, 1) := by decide +kernel
theorem dX10_turns_31 : decode cX10_turns 31 = .ok (.iload_n 3, 1) := by decide +kernel
theorem dX10_turns_32 : decode cX10_turns 32 = .ok (.imul, 1) := by decide +kernel
theorem dX10_turns_33 : decode cX10_turns 33 = .ok (.iload_n 1, 1) := by decide +kernel
theorem dX10_turns_34 : decode cX10_turns 34 = .ok (.iconst 1, 1) := by decide +kernel
theorem dX10_turns_35 : decode cX10_turns 35 = .ok (.isub, 1) := by decide +kernel
theorem dX10_turns_36 : decode cX10_turns 36 = .ok (.if_icmp .ge 19, 3) := by decide +kernel
theorem dX10_turns_39 : decode cX10_turns 39 = .ok (.aload_n 0, 1) := by decide +kernel
theorem dX10_turns_40 : decode cX10_turns 40 = .ok (.iload_n 3, 1) := by decide +kernel
theorem dX10_turns_41 : decode cX10_turns 41 = .ok (.iload_n 1, 1) := by decide +kernel
theorem dX10_turns_42 : decode cX10_turns 42 = .ok (.iconst 1, 1) := by decide +kernel
theorem dX10_turns_43 : decode cX10_turns 43 = .ok (.isub, 1) := by decide +kernel
theorem dX10_turns_44 : decode cX10_turns 44 = .ok (.iload_n 3, 1) := by decide +kernel
theorem dX10_turns_45 : decode cX10_turns 45 = .ok (.isub, 1) := by decide +kernel
theorem dX10_turns_46 : decode cX10_turns 46 = .ok (.invokevirtual 347, 3) := by decide +kernel
theorem dX10_turns_49 : decode cX10_turns 49 = .ok (.iinc 3 1, 3) := by decide +kernel
theorem dX10_turns_52 : decode cX10_turns 52 = .ok (.goto (-22), 3) := by decide +kernel
theorem dX10_turns_55 : decode cX10_turns 55 = .ok (.iconst 0, 1) := by decide +kernel
theorem dX10_turns_56 : decode cX10_turns 56 = .ok (.istore_n 3, 1) := by decide +kernel
theorem dX10_turns_57 : decode cX10_turns 57 = .ok (.iload_n 3, 1) := by decide +kernel
theorem dX10_turns_58 : decode cX10_turns 58 = .ok (.iload_n 1, 1) := by decide +kernel
theorem dX10_turns_59 : decode cX10_turns 59 = .ok (.if_icmp .ge 29, 3) := by decide +kernel
theorem dX10_turns_62 : decode cX10_turns 62 = .ok (.aload_n 0, 1) := by decide +kernel
theorem dX10_turns_63 : decode cX10_turns 63 = .ok (.getfield 28, 3) := by decide +kernel
theorem dX10_turns_66 : decode cX10_turns 66 = .ok (.bipush 6, 2) := by decide +kernel
theorem dX10_turns_68 : decode cX10_turns 68 = .ok (.iload_n 3, 1) := by decide +kernel
theorem dX10_turns_69 : decode cX10_turns 69 = .ok (.iadd, 1) := by decide +kernel
theorem dX10_turns_70 : decode cX10_turns 70 = .ok (.iconst 1, 1) := by decide +kernel
theorem dX10_turns_71 : decode cX10_turns 71 = .ok (.aload_n 0, 1) := by decide +kernel
theorem dX10_turns_72 : decode cX10_turns 72 = .ok (.getfield 28, 3) := by decide +kernel
theorem dX10_turns_75 : decode cX10_turns 75 = .ok (.bipush 6, 2) := by decide +kernel
theorem dX10_turns_77 : decode cX10_turns 77 = .ok (.iload_n 3, 1) := by decide +kernel
theorem dX10_turns_78 : decode cX10_turns 78 = .ok (.iadd, 1) := by decide +kernel
theorem dX10_turns_79 : decode cX10_turns 79 = .ok (.iaload, 1) := by decide +kernel
theorem dX10_turns_80 : decode cX10_turns 80 = .ok (.isub, 1) := by decide +kernel
theorem dX10_turns_81 : decode cX10_turns 81 = .ok (.iastore, 1) := by decide +kernel
theorem dX10_turns_82 : decode cX10_turns 82 = .ok (.iinc 3 1, 3) := by decide +kernel
theorem dX10_turns_85 : decode cX10_turns 85 = .ok (.goto (-28), 3) := by decide +kernel
theorem dX10_turns_88 : decode cX10_turns 88 = .ok (.aload_n 0, 1) := by decide +kernel
theorem dX10_turns_89 : decode cX10_turns 89 = .ok (.getfield 28, 3) := by decide +kernel
theorem dX10_turns_92 : decode cX10_turns 92 = .ok (.bipush 12, 2) := by decide +kernel
theorem dX10_turns_94 : decode cX10_turns 94 = .ok (.sipush 9999, 3) := by decide +kernel
theorem dX10_turns_97 : decode cX10_turns 97 = .ok (.aload_n 0, 1) := by decide +kernel
theorem dX10_turns_98 : decode cX10_turns 98 = .ok (.getfield 28, 3) := by decide +kernel
theorem dX10_turns_101 : decode cX10_turns 101 = .ok (.bipush 12, 2) := by decide +kernel
theorem dX10_turns_103 : decode cX10_turns 103 = .ok (.iaload, 1) := by decide +kernel
theorem dX10_turns_104 : decode cX10_turns 104 = .ok (.iload_n 2, 1) := by decide +kernel
theorem dX10_turns_105 : decode cX10_turns 105 = .ok (.iadd, 1) := by decide +kernel
theorem dX10_turns_106 : decode cX10_turns 106 = .ok (.invokestatic 350, 3) := by decide +kernel
theorem dX10_turns_109 : decode cX10_turns 109 = .ok (.iastore, 1) := by decide +kernel
theorem dX10_turns_110 : decode cX10_turns 110 = .ok (.iload_n 2, 1) := by decide +kernel
theorem dX10_turns_111 : decode cX10_turns 111 = .ok (.ireturn, 1) := by decide +kernel
set_option maxRecDepth 20000 in
theorem ggX10_yearPasses_X10_size : GoodIn wsX10_yearPasses wsX10_size := goodIn_r _ [7, 2, 100, 101, 102, 103, 104, 105, 106, 107, 108, 109, 110, 111, 112, 113, 114, 115, 116, 117, 118, 119, 120, 121, 122, 123, 124, 125, 126, 127, 128, 129, 130, 131, 132, 133, 134, 135, 136, 137, 138, 139, 140, 141, 142, 143, 144, 145, 146, 147, 148, 149, 150, 151, 152, 153, 154, 155] rfl (by decide +kernel)
set_option maxRecDepth 20000 in
theorem gX10_yearPasses_X10_size : GoodIn wsX10_yearPasses (wsV RX10 125 RX10 yX10_size wsX10_size) := goodIn_app (goodIn_of _ (by decide +kernel)) ggX10_yearPasses_X10_size
set_option maxRecDepth 20000 in
theorem ggX10_yearPasses_X10_tipsAt : GoodIn wsX10_yearPasses wsX10_tipsAt := goodIn_r _ [11, 12, 13, 14, 6, 15, 16, 2, 17, 18, 19, 20, 3, 4, 5, 7, 21, 22, 23, 24, 25, 26, 27, 28, 29, 30, 31, 32, 33, 34, 35, 36, 37, 38, 39, 40, 41, 42, 43, 44, 45, 46, 47, 48, 49, 50, 51, 52, 53, 54, 55, 56, 57, 58, 59, 60, 61, 62, 63, 64, 65, 66, 67, 68, 69, 70, 71, 72, 73, 74, 75, 76, 77, 78, 79, 80, 81, 82, 83, 84, 85, 86, 87, 88, 89, 90, 91, 92, 93, 94, 95, 96, 97, 98, 99, 100, 101, 102, 103, 104, 105, 106, 107, 108, 109, 110, 111, 112, 113, 114, 115, 116, 117, 118, 119, 120, 121, 122, 123, 124, 125, 126, 127, 128, 129, 130, 131, 132, 133, 134, 135, 136, 137, 138, 139, 140, 141, 142, 143, 144, 145, 146, 147, 148, 149, 150, 151, 152, 153, 154, 155] rfl (by decide +kernel)
set_option maxRecDepth 20000 in
theorem gX10_yearPasses_X10_tipsAt : GoodIn wsX10_yearPasses (wsV RX10 146 RX10 yX10_tipsAt wsX10_tipsAt) := goodIn_app (goodIn_of _ (by decide +kernel)) ggX10_yearPasses_X10_tipsAt
theorem dX10_yearPasses_0 : decode cX10_yearPasses 0 = .ok (.iconst 0, 1) := by decide +kernel
theorem dX10_yearPasses_1 : decode cX10_yearPasses 1 = .ok (.istore_n 1, 1) := by decide +kernel
theorem dX10_yearPasses_2 : decode cX10_yearPasses 2 = .ok (.iconst 0, 1) := by decide +kernel
theorem dX10_yearPasses_3 : decode cX10_yearPasses 3 = .ok (.istore_n 2, 1) := by decide +kernel
theorem dX10_yearPasses_4 : decode cX10_yearPasses 4 = .ok (.iload_n 2, 1) := by decide +kernel
theorem dX10_yearPasses_5 : decode cX10_yearPasses 5 = .ok (.aload_n 0, 1) := by decide +kernel
theorem dX10_yearPasses_6 : decode cX10_yearPasses 6 = .ok (.invokevirtual 125, 3) := by decide +kernel
theorem dX10_yearPasses_9 : decode cX10_yearPasses 9 = .ok (.if_icmp .ge 20, 3) := by decide +kernel
theorem dX10_yearPasses_12 : decode cX10_yearPasses 12 = .ok (.aload_n 0, 1) := by decide +kernel
theorem dX10_yearPasses_13 : decode cX10_yearPasses 13 = .ok (.getfield 66, 3) := by decide +kernel
theorem dX10_yearPasses_16 : decode cX10_yearPasses 16 = .ok (.iload_n 2, 1) := by decide +kernel
theorem dX10_yearPasses_17 : decode cX10_yearPasses 17 = .ok (.aload_n 0, 1) := by decide +kernel
theorem dX10_yearPasses_18 : decode cX10_yearPasses 18 = .ok (.iload_n 2, 1) := by decide +kernel
theorem dX10_yearPasses_19 : decode cX10_yearPasses 19 = .ok (.invokevirtual 146, 3) := by decide +kernel
theorem dX10_yearPasses_22 : decode cX10_yearPasses 22 = .ok (.bastore, 1) := by decide +kernel
theorem dX10_yearPasses_23 : decode cX10_yearPasses 23 = .ok (.iinc 2 1, 3) := by decide +kernel
theorem dX10_yearPasses_26 : decode cX10_yearPasses 26 = .ok (.goto (-22), 3) := by decide +kernel
theorem dX10_yearPasses_29 : decode cX10_yearPasses 29 = .ok (.iconst 0, 1) := by decide +kernel
theorem dX10_yearPasses_30 : decode cX10_yearPasses 30 = .ok (.istore_n 2, 1) := by decide +kernel
theorem dX10_yearPasses_31 : decode cX10_yearPasses 31 = .ok (.iload_n 2, 1) := by decide +kernel
theorem dX10_yearPasses_32 : decode cX10_yearPasses 32 = .ok (.aload_n 0, 1) := by decide +kernel
theorem dX10_yearPasses_33 : decode cX10_yearPasses 33 = .ok (.invokevirtual 125, 3) := by decide +kernel
theorem dX10_yearPasses_36 : decode cX10_yearPasses 36 = .ok (.if_icmp .ge 67, 3) := by decide +kernel
theorem dX10_yearPasses_39 : decode cX10_yearPasses 39 = .ok (.aload_n 0, 1) := by decide +kernel
theorem dX10_yearPasses_40 : decode cX10_yearPasses 40 = .ok (.getfield 28, 3) := by decide +kernel
theorem dX10_yearPasses_43 : decode cX10_yearPasses 43 = .ok (.bipush 6, 2) := by decide +kernel
theorem dX10_yearPasses_45 : decode cX10_yearPasses 45 = .ok (.iload_n 2, 1) := by decide +kernel
theorem dX10_yearPasses_46 : decode cX10_yearPasses 46 = .ok (.iadd, 1) := by decide +kernel
theorem dX10_yearPasses_47 : decode cX10_yearPasses 47 = .ok (.aload_n 0, 1) := by decide +kernel
theorem dX10_yearPasses_48 : decode cX10_yearPasses 48 = .ok (.getfield 66, 3) := by decide +kernel
theorem dX10_yearPasses_51 : decode cX10_yearPasses 51 = .ok (.iload_n 2, 1) := by decide +kernel
theorem dX10_yearPasses_52 : decode cX10_yearPasses 52 = .ok (.baload, 1) := by decide +kernel
theorem dX10_yearPasses_53 : decode cX10_yearPasses 53 = .ok (.ifCond .eq 17, 3) := by decide +kernel
theorem dX10_yearPasses_56 : decode cX10_yearPasses 56 = .ok (.iconst 1, 1) := by decide +kernel
theorem dX10_yearPasses_57 : decode cX10_yearPasses 57 = .ok (.aload_n 0, 1) := by decide +kernel
theorem dX10_yearPasses_58 : decode cX10_yearPasses 58 = .ok (.getfield 28, 3) := by decide +kernel
theorem dX10_yearPasses_61 : decode cX10_yearPasses 61 = .ok (.bipush 6, 2) := by decide +kernel
theorem dX10_yearPasses_63 : decode cX10_yearPasses 63 = .ok (.iload_n 2, 1) := by decide +kernel
theorem dX10_yearPasses_64 : decode cX10_yearPasses 64 = .ok (.iadd, 1) := by decide +kernel
theorem dX10_yearPasses_65 : decode cX10_yearPasses 65 = .ok (.iaload, 1) := by decide +kernel
theorem dX10_yearPasses_66 : decode cX10_yearPasses 66 = .ok (.isub, 1) := by decide +kernel
theorem dX10_yearPasses_67 : decode cX10_yearPasses 67 = .ok (.goto 12, 3) := by decide +kernel
theorem dX10_yearPasses_70 : decode cX10_yearPasses 70 = .ok (.aload_n 0, 1) := by decide +kernel
theorem dX10_yearPasses_71 : decode cX10_yearPasses 71 = .ok (.getfield 28, 3) := by decide +kernel
theorem dX10_yearPasses_74 : decode cX10_yearPasses 74 = .ok (.bipush 6, 2) := by decide +kernel
theorem dX10_yearPasses_76 : decode cX10_yearPasses 76 = .ok (.iload_n 2, 1) := by decide +kernel
theorem dX10_yearPasses_77 : decode cX10_yearPasses 77 = .ok (.iadd, 1) := by decide +kernel
theorem dX10_yearPasses_78 : decode cX10_yearPasses 78 = .ok (.iaload, 1) := by decide +kernel
theorem dX10_yearPasses_79 : decode cX10_yearPasses 79 = .ok (.iastore, 1) := by decide +kernel
theorem dX10_yearPasses_80 : decode cX10_yearPasses 80 = .ok (.iload_n 1, 1) := by decide +kernel
theorem dX10_yearPasses_81 : decode cX10_yearPasses 81 = .ok (.aload_n 0, 1) := by decide +kernel
theorem dX10_yearPasses_82 : decode cX10_yearPasses 82 = .ok (.getfield 66, 3) := by decide +kernel
theorem dX10_yearPasses_85 : decode cX10_yearPasses 85 = .ok (.iload_n 2, 1) := by decide +kernel
theorem dX10_yearPasses_86 : decode cX10_yearPasses 86 = .ok (.baload, 1) := by decide +kernel
theorem dX10_yearPasses_87 : decode cX10_yearPasses 87 = .ok (.ifCond .eq 7, 3) := by decide +kernel
theorem dX10_yearPasses_90 : decode cX10_yearPasses 90 = .ok (.iconst 1, 1) := by decide +kernel
theorem dX10_yearPasses_91 : decode cX10_yearPasses 91 = .ok (.goto 4, 3) := by decide +kernel
theorem dX10_yearPasses_94 : decode cX10_yearPasses 94 = .ok (.iconst 0, 1) := by decide +kernel
theorem dX10_yearPasses_95 : decode cX10_yearPasses 95 = .ok (.iadd, 1) := by decide +kernel
theorem dX10_yearPasses_96 : decode cX10_yearPasses 96 = .ok (.istore_n 1, 1) := by decide +kernel
theorem dX10_yearPasses_97 : decode cX10_yearPasses 97 = .ok (.iinc 2 1, 3) := by decide +kernel
theorem dX10_yearPasses_100 : decode cX10_yearPasses 100 = .ok (.goto (-69), 3) := by decide +kernel
theorem dX10_yearPasses_103 : decode cX10_yearPasses 103 = .ok (.aload_n 0, 1) := by decide +kernel
theorem dX10_yearPasses_104 : decode cX10_yearPasses 104 = .ok (.getfield 28, 3) := by decide +kernel
theorem dX10_yearPasses_107 : decode cX10_yearPasses 107 = .ok (.bipush 13, 2) := by decide +kernel
theorem dX10_yearPasses_109 : decode cX10_yearPasses 109 = .ok (.dup2, 1) := by decide +kernel
theorem dX10_yearPasses_110 : decode cX10_yearPasses 110 = .ok (.iaload, 1) := by decide +kernel
theorem dX10_yearPasses_111 : decode cX10_yearPasses 111 = .ok (.iconst 1, 1) := by decide +kernel
theorem dX10_yearPasses_112 : decode cX10_yearPasses 112 = .ok (.iadd, 1) := by decide +kernel
theorem dX10_yearPasses_113 : decode cX10_yearPasses 113 = .ok (.iastore, 1) := by decide +kernel
theorem dX10_yearPasses_114 : decode cX10_yearPasses 114 = .ok (.iload_n 1, 1) := by decide +kernel
theorem dX10_yearPasses_115 : decode cX10_yearPasses 115 = .ok (.ireturn, 1) := by decide +kernel
theorem dX10_keeps_0 : decode cX10_keeps 0 = .ok (.bipush 15, 2) := by decide +kernel
theorem dX10_keeps_2 : decode cX10_keeps 2 = .ok (.istore_n 2, 1) := by decide +kernel
theorem dX10_keeps_3 : decode cX10_keeps 3 = .ok (.aload_n 0, 1) := by decide +kernel
theorem dX10_keeps_4 : decode cX10_keeps 4 = .ok (.getfield 11, 3) := by decide +kernel
theorem dX10_keeps_7 : decode cX10_keeps 7 = .ok (.bipush 16, 2) := by decide +kernel
theorem dX10_keeps_9 : decode cX10_keeps 9 = .ok (.if_icmp .ne 43, 3) := by decide +kernel
theorem dX10_keeps_12 : decode cX10_keeps 12 = .ok (.iconst 0, 1) := by decide +kernel
theorem dX10_keeps_13 : decode cX10_keeps 13 = .ok (.istore_n 3, 1) := by decide +kernel
theorem dX10_keeps_14 : decode cX10_keeps 14 = .ok (.iload_n 3, 1) := by decide +kernel
theorem dX10_keeps_15 : decode cX10_keeps 15 = .ok (.bipush 15, 2) := by decide +kernel
theorem dX10_keeps_17 : decode cX10_keeps 17 = .ok (.iload_n 2, 1) := by decide +kernel
theorem dX10_keeps_18 : decode cX10_keeps 18 = .ok (.imul, 1) := by decide +kernel
theorem dX10_keeps_19 : decode cX10_keeps 19 = .ok (.if_icmp .ge 23, 3) := by decide +kernel
theorem dX10_keeps_22 : decode cX10_keeps 22 = .ok (.aload_n 0, 1) := by decide +kernel
theorem dX10_keeps_23 : decode cX10_keeps 23 = .ok (.getfield 69, 3) := by decide +kernel
theorem dX10_keeps_26 : decode cX10_keeps 26 = .ok (.iload_n 3, 1) := by decide +kernel
theorem dX10_keeps_27 : decode cX10_keeps 27 = .ok (.aload_n 0, 1) := by decide +kernel
theorem dX10_keeps_28 : decode cX10_keeps 28 = .ok (.getfield 69, 3) := by decide +kernel
theorem dX10_keeps_31 : decode cX10_keeps 31 = .ok (.iload_n 3, 1) := by decide +kernel
theorem dX10_keeps_32 : decode cX10_keeps 32 = .ok (.iload_n 2, 1) := by decide +kernel
theorem dX10_keeps_33 : decode cX10_keeps 33 = .ok (.iadd, 1) := by decide +kernel
theorem dX10_keeps_34 : decode cX10_keeps 34 = .ok (.iaload, 1) := by decide +kernel
theorem dX10_keeps_35 : decode cX10_keeps 35 = .ok (.iastore, 1) := by decide +kernel
theorem dX10_keeps_36 : decode cX10_keeps 36 = .ok (.iinc 3 1, 3) := by decide +kernel
theorem dX10_keeps_39 : decode cX10_keeps 39 = .ok (.goto (-25), 3) := by decide +kernel
theorem dX10_keeps_42 : decode cX10_keeps 42 = .ok (.aload_n 0, 1) := by decide +kernel
theorem dX10_keeps_43 : decode cX10_keeps 43 = .ok (.dup, 1) := by decide +kernel
theorem dX10_keeps_44 : decode cX10_keeps 44 = .ok (.getfield 11, 3) := by decide +kernel
theorem dX10_keeps_47 : decode cX10_keeps 47 = .ok (.iconst 1, 1) := by decide +kernel
theorem dX10_keeps_48 : decode cX10_keeps 48 = .ok (.isub, 1) := by decide +kernel
theorem dX10_keeps_49 : decode cX10_keeps 49 = .ok (.putfield 11, 3) := by decide +kernel
theorem dX10_keeps_52 : decode cX10_keeps 52 = .ok (.iconst 0, 1) := by decide +kernel
theorem dX10_keeps_53 : decode cX10_keeps 53 = .ok (.istore_n 3, 1) := by decide +kernel
theorem dX10_keeps_54 : decode cX10_keeps 54 = .ok (.iload_n 3, 1) := by decide +kernel
theorem dX10_keeps_55 : decode cX10_keeps 55 = .ok (.bipush 14, 2) := by decide +kernel
theorem dX10_keeps_57 : decode cX10_keeps 57 = .ok (.if_icmp .ge 28, 3) := by decide +kernel
theorem dX10_keeps_60 : decode cX10_keeps 60 = .ok (.aload_n 0, 1) := by decide +kernel
theorem dX10_keeps_61 : decode cX10_keeps 61 = .ok (.getfield 69, 3) := by decide +kernel
theorem dX10_keeps_64 : decode cX10_keeps 64 = .ok (.iload_n 2, 1) := by decide +kernel
theorem dX10_keeps_65 : decode cX10_keeps 65 = .ok (.aload_n 0, 1) := by decide +kernel
theorem dX10_keeps_66 : decode cX10_keeps 66 = .ok (.getfield 11, 3) := by decide +kernel
theorem dX10_keeps_69 : decode cX10_keeps 69 = .ok (.imul, 1) := by decide +kernel
theorem dX10_keeps_70 : decode cX10_keeps 70 = .ok (.iload_n 3, 1) := by decide +kernel
theorem dX10_keeps_71 : decode cX10_keeps 71 = .ok (.iadd, 1) := by decide +kernel
theorem dX10_keeps_72 : decode cX10_keeps 72 = .ok (.aload_n 0, 1) := by decide +kernel
theorem dX10_keeps_73 : decode cX10_keeps 73 = .ok (.getfield 28, 3) := by decide +kernel
theorem dX10_keeps_76 : decode cX10_keeps 76 = .ok (.iload_n 3, 1) := by decide +kernel
theorem dX10_keeps_77 : decode cX10_keeps 77 = .ok (.iaload, 1) := by decide +kernel
theorem dX10_keeps_78 : decode cX10_keeps 78 = .ok (.iastore, 1) := by decide +kernel
theorem dX10_keeps_79 : decode cX10_keeps 79 = .ok (.iinc 3 1, 3) := by decide +kernel
theorem dX10_keeps_82 : decode cX10_keeps 82 = .ok (.goto (-28), 3) := by decide +kernel
theorem dX10_keeps_85 : decode cX10_keeps 85 = .ok (.aload_n 0, 1) := by decide +kernel
theorem dX10_keeps_86 : decode cX10_keeps 86 = .ok (.getfield 69, 3) := by decide +kernel
theorem dX10_keeps_89 : decode cX10_keeps 89 = .ok (.iload_n 2, 1) := by decide +kernel
theorem dX10_keeps_90 : decode cX10_keeps 90 = .ok (.aload_n 0, 1) := by decide +kernel
theorem dX10_keeps_91 : decode cX10_keeps 91 = .ok (.getfield 11, 3) := by decide +kernel
theorem dX10_keeps_94 : decode cX10_keeps 94 = .ok (.imul, 1) := by decide +kernel
theorem dX10_keeps_95 : decode cX10_keeps 95 = .ok (.bipush 14, 2) := by decide +kernel
theorem dX10_keeps_97 : decode cX10_keeps 97 = .ok (.iadd, 1) := by decide +kernel
theorem dX10_keeps_98 : decode cX10_keeps 98 = .ok (.iload_n 1, 1) := by decide +kernel
theorem dX10_keeps_99 : decode cX10_keeps 99 = .ok (.iastore, 1) := by decide +kernel
theorem dX10_keeps_100 : decode cX10_keeps 100 = .ok (.aload_n 0, 1) := by decide +kernel
theorem dX10_keeps_101 : decode cX10_keeps 101 = .ok (.dup, 1) := by decide +kernel
theorem dX10_keeps_102 : decode cX10_keeps 102 = .ok (.getfield 11, 3) := by decide +kernel
theorem dX10_keeps_105 : decode cX10_keeps 105 = .ok (.iconst 1, 1) := by decide +kernel
theorem dX10_keeps_106 : decode cX10_keeps 106 = .ok (.iadd, 1) := by decide +kernel
theorem dX10_keeps_107 : decode cX10_keeps 107 = .ok (.putfield 11, 3) := by decide +kernel
theorem dX10_keeps_110 : decode cX10_keeps 110 = .ok (.return_, 1) := by decide +kernel
set_option maxRecDepth 20000 in
theorem ggX10_undo_X10_refuses : GoodIn wsX10_undo wsX10_refuses := goodIn_r _ [8, 9, 10, 15, 16, 17, 18, 19, 20, 21, 22, 23, 24, 25, 26, 27, 28, 29, 30, 31, 32, 33, 34, 35, 36, 37, 38, 39, 40, 41, 42, 43, 44, 45, 46, 47, 48, 49, 50, 51, 52, 53, 54, 55, 56, 57, 58, 59, 60, 61, 62, 63, 64, 65, 66, 67, 68, 69, 70] rfl (by decide +kernel)
set_option maxRecDepth 20000 in
theorem gX10_undo_X10_refuses : GoodIn wsX10_undo (wsV RX10 119 RX10 yX10_refuses wsX10_refuses) := goodIn_app (goodIn_of _ (by decide +kernel)) ggX10_undo_X10_refuses
set_option maxRecDepth 20000 in
theorem ggX10_undo_X10_good : GoodIn wsX10_undo wsX10_good := goodIn_r _ [14, 9, 15, 16, 17, 18, 19, 20, 21, 22, 23, 24, 25, 26, 27, 28, 29, 30, 31, 32, 33, 34, 35, 36, 37, 38, 39, 40, 41, 42, 43, 44, 45, 46, 47, 48, 49, 50, 51, 52, 53, 54, 55, 56, 57, 58, 59, 60, 61, 62, 63, 64, 65, 66, 67, 68, 69, 70] rfl (by decide +kernel)
set_option maxRecDepth 20000 in
theorem gX10_undo_X10_good : GoodIn wsX10_undo (wsV RX10 14 RX10 yX10_good wsX10_good) := goodIn_app (goodIn_of _ (by decide +kernel)) ggX10_undo_X10_good
theorem dX10_undo_0 : decode cX10_undo 0 = .ok (.aload_n 0, 1) := by decide +kernel
theorem dX10_undo_1 : decode cX10_undo 1 = .ok (.getfield 11, 3) := by decide +kernel
theorem dX10_undo_4 : decode cX10_undo 4 = .ok (.ifCond .ne 10, 3) := by decide +kernel
theorem dX10_undo_7 : decode cX10_undo 7 = .ok (.aload_n 0, 1) := by decide +kernel
theorem dX10_undo_8 : decode cX10_undo 8 = .ok (.bipush (-3), 2) := by decide +kernel
theorem dX10_undo_10 : decode cX10_undo 10 = .ok (.invokevirtual 119, 3) := by decide +kernel
theorem dX10_undo_13 : decode cX10_undo 13 = .ok (.ireturn, 1) := by decide +kernel
theorem dX10_undo_14 : decode cX10_undo 14 = .ok (.aload_n 0, 1) := by decide +kernel
theorem dX10_undo_15 : decode cX10_undo 15 = .ok (.dup, 1) := by decide +kernel
theorem dX10_undo_16 : decode cX10_undo 16 = .ok (.getfield 11, 3) := by decide +kernel
theorem dX10_undo_19 : decode cX10_undo 19 = .ok (.iconst 1, 1) := by decide +kernel
theorem dX10_undo_20 : decode cX10_undo 20 = .ok (.isub, 1) := by decide +kernel
theorem dX10_undo_21 : decode cX10_undo 21 = .ok (.putfield 11, 3) := by decide +kernel
theorem dX10_undo_24 : decode cX10_undo 24 = .ok (.bipush 15, 2) := by decide +kernel
theorem dX10_undo_26 : decode cX10_undo 26 = .ok (.aload_n 0, 1) := by decide +kernel
theorem dX10_undo_27 : decode cX10_undo 27 = .ok (.getfield 11, 3) := by decide +kernel
theorem dX10_undo_30 : decode cX10_undo 30 = .ok (.imul, 1) := by decide +kernel
theorem dX10_undo_31 : decode cX10_undo 31 = .ok (.istore_n 1, 1) := by decide +kernel
theorem dX10_undo_32 : decode cX10_undo 32 = .ok (.iconst 0, 1) := by decide +kernel
theorem dX10_undo_33 : decode cX10_undo 33 = .ok (.istore_n 2, 1) := by decide +kernel
theorem dX10_undo_34 : decode cX10_undo 34 = .ok (.iload_n 2, 1) := by decide +kernel
theorem dX10_undo_35 : decode cX10_undo 35 = .ok (.bipush 14, 2) := by decide +kernel
theorem dX10_undo_37 : decode cX10_undo 37 = .ok (.if_icmp .ge 23, 3) := by decide +kernel
theorem dX10_undo_40 : decode cX10_undo 40 = .ok (.aload_n 0, 1) := by decide +kernel
theorem dX10_undo_41 : decode cX10_undo 41 = .ok (.getfield 28, 3) := by decide +kernel
theorem dX10_undo_44 : decode cX10_undo 44 = .ok (.iload_n 2, 1) := by decide +kernel
theorem dX10_undo_45 : decode cX10_undo 45 = .ok (.aload_n 0, 1) := by decide +kernel
theorem dX10_undo_46 : decode cX10_undo 46 = .ok (.getfield 69, 3) := by decide +kernel
theorem dX10_undo_49 : decode cX10_undo 49 = .ok (.iload_n 1, 1) := by decide +kernel
theorem dX10_undo_50 : decode cX10_undo 50 = .ok (.iload_n 2, 1) := by decide +kernel
theorem dX10_undo_51 : decode cX10_undo 51 = .ok (.iadd, 1) := by decide +kernel
theorem dX10_undo_52 : decode cX10_undo 52 = .ok (.iaload, 1) := by decide +kernel
theorem dX10_undo_53 : decode cX10_undo 53 = .ok (.iastore, 1) := by decide +kernel
theorem dX10_undo_54 : decode cX10_undo 54 = .ok (.iinc 2 1, 3) := by decide +kernel
theorem dX10_undo_57 : decode cX10_undo 57 = .ok (.goto (-23), 3) := by decide +kernel
theorem dX10_undo_60 : decode cX10_undo 60 = .ok (.aload_n 0, 1) := by decide +kernel
theorem dX10_undo_61 : decode cX10_undo 61 = .ok (.aload_n 0, 1) := by decide +kernel
theorem dX10_undo_62 : decode cX10_undo 62 = .ok (.getfield 69, 3) := by decide +kernel
theorem dX10_undo_65 : decode cX10_undo 65 = .ok (.iload_n 1, 1) := by decide +kernel
theorem dX10_undo_66 : decode cX10_undo 66 = .ok (.bipush 14, 2) := by decide +kernel
theorem dX10_undo_68 : decode cX10_undo 68 = .ok (.iadd, 1) := by decide +kernel
theorem dX10_undo_69 : decode cX10_undo 69 = .ok (.iaload, 1) := by decide +kernel
theorem dX10_undo_70 : decode cX10_undo 70 = .ok (.invokevirtual 14, 3) := by decide +kernel
theorem dX10_undo_73 : decode cX10_undo 73 = .ok (.ireturn, 1) := by decide +kernel
set_option maxRecDepth 20000 in
theorem ggX10_goodOr_X10_refuses : GoodIn wsX10_goodOr wsX10_refuses := goodIn_r _ [5, 6, 7, 12, 13, 14, 15, 16, 17, 18, 19, 20, 21, 22, 23, 24, 25, 26, 27, 28, 29, 30, 31, 32, 33, 34, 35, 36, 37, 38, 39, 40, 41, 42, 43, 44, 45, 46, 47, 48, 49, 50, 51, 52, 53, 54, 55, 56, 57, 58, 59, 60, 61, 62, 63, 64, 65, 66, 67] rfl (by decide +kernel)
set_option maxRecDepth 20000 in
theorem gX10_goodOr_X10_refuses : GoodIn wsX10_goodOr (wsV RX10 119 RX10 yX10_refuses wsX10_refuses) := goodIn_app (goodIn_of _ (by decide +kernel)) ggX10_goodOr_X10_refuses
set_option maxRecDepth 20000 in
theorem ggX10_goodOr_X10_good : GoodIn wsX10_goodOr wsX10_good := goodIn_r _ [11, 6, 12, 13, 14, 15, 16, 17, 18, 19, 20, 21, 22, 23, 24, 25, 26, 27, 28, 29, 30, 31, 32, 33, 34, 35, 36, 37, 38, 39, 40, 41, 42, 43, 44, 45, 46, 47, 48, 49, 50, 51, 52, 53, 54, 55, 56, 57, 58, 59, 60, 61, 62, 63, 64, 65, 66, 67] rfl (by decide +kernel)
set_option maxRecDepth 20000 in
theorem gX10_goodOr_X10_good : GoodIn wsX10_goodOr (wsV RX10 14 RX10 yX10_good wsX10_good) := goodIn_app (goodIn_of _ (by decide +kernel)) ggX10_goodOr_X10_good
theorem dX10_goodOr_0 : decode cX10_goodOr 0 = .ok (.iload_n 1, 1) := by decide +kernel
theorem dX10_goodOr_1 : decode cX10_goodOr 1 = .ok (.ifCond .ge 11, 3) := by decide +kernel
theorem dX10_goodOr_4 : decode cX10_goodOr 4 = .ok (.aload_n 0, 1) := by decide +kernel
theorem dX10_goodOr_5 : decode cX10_goodOr 5 = .ok (.iload_n 1, 1) := by decide +kernel
theorem dX10_goodOr_6 : decode cX10_goodOr 6 = .ok (.invokevirtual 119, 3) := by decide +kernel
theorem dX10_goodOr_9 : decode cX10_goodOr 9 = .ok (.goto 8, 3) := by decide +kernel
theorem dX10_goodOr_12 : decode cX10_goodOr 12 = .ok (.aload_n 0, 1) := by decide +kernel
theorem dX10_goodOr_13 : decode cX10_goodOr 13 = .ok (.iload_n 1, 1) := by decide +kernel
theorem dX10_goodOr_14 : decode cX10_goodOr 14 = .ok (.invokevirtual 14, 3) := by decide +kernel
theorem dX10_goodOr_17 : decode cX10_goodOr 17 = .ok (.ireturn, 1) := by decide +kernel
set_option maxRecDepth 20000 in
theorem ggX10_turnsKept_X10_lies : GoodIn wsX10_turnsKept wsX10_lies := goodIn_r _ [4] rfl (by decide +kernel)
set_option maxRecDepth 20000 in
theorem gX10_turnsKept_X10_lies : GoodIn wsX10_turnsKept (va_wsS RX10 18 yX10_lies wsX10_lies) := goodIn_app (goodIn_of _ (by decide +kernel)) ggX10_turnsKept_X10_lies
set_option maxRecDepth 20000 in
theorem ggX10_turnsKept_X10_canTurn : GoodIn wsX10_turnsKept wsX10_canTurn := goodIn_r _ [8, 9, 10, 11, 12, 3, 13, 14, 15, 16, 17, 18, 19, 20, 21, 22, 23, 24, 25, 26, 27, 28, 29, 30, 31, 32, 33, 34, 35, 36, 37, 38, 39, 40, 41, 42, 43, 44, 45, 46, 47, 48, 49, 50, 51, 52, 53, 54, 55, 56, 57, 58, 59, 60, 61, 62, 63, 64, 65, 66, 67, 68, 69, 70, 71, 72, 73, 74, 1, 2, 4, 75, 76, 77, 78, 79, 80, 81, 82, 83, 84, 85, 86, 87, 88, 89, 90, 91, 92, 93, 94, 95, 96, 97, 98, 99, 100, 101, 102, 124, 125, 126, 127, 128, 129, 130, 131, 132, 133, 134, 135, 136, 137, 138, 139, 140, 141, 142, 143, 144, 145, 146, 147, 148, 149, 150, 151, 152, 153, 154, 155, 156, 157, 158, 159, 160, 161, 162, 163, 164, 165, 166, 167, 168, 169, 170, 171, 172, 173, 174, 175, 176, 177, 178, 179] rfl (by decide +kernel)
set_option maxRecDepth 20000 in
theorem gX10_turnsKept_X10_canTurn : GoodIn wsX10_turnsKept (wsV RX10 353 RX10 yX10_canTurn wsX10_canTurn) := goodIn_app (goodIn_of _ (by decide +kernel)) ggX10_turnsKept_X10_canTurn
set_option maxRecDepth 20000 in
theorem ggX10_turnsKept_X10_keeps : GoodIn wsX10_turnsKept wsX10_keeps := goodIn_r _ [106, 107, 108, 9, 124, 125, 126, 127, 128, 129, 130, 131, 132, 133, 134, 135, 136, 137, 138, 139, 140, 141, 142, 143, 144, 145, 146, 147, 148, 149, 150, 151, 152, 153, 154, 155, 156, 157, 158, 159, 160, 161, 162, 163, 164, 165, 166, 167, 168, 169, 170, 171, 172, 173, 174, 175, 176, 177, 178, 179] rfl (by decide +kernel)
set_option maxRecDepth 20000 in
theorem gX10_turnsKept_X10_keeps : GoodIn wsX10_turnsKept (wsV RX10 356 RX10 yX10_keeps wsX10_keeps) := goodIn_app (goodIn_of _ (by decide +kernel)) ggX10_turnsKept_X10_keeps
set_option maxRecDepth 20000 in
theorem ggX10_turnsKept_X10_turns : GoodIn wsX10_turnsKept wsX10_turns := goodIn_r _ [112, 9, 14, 15, 16, 3, 17, 10, 11, 12, 13, 18, 19, 20, 21, 22, 23, 24, 25, 26, 113, 114, 115, 116, 31, 32, 33, 34, 35, 36, 37, 38, 39, 40, 41, 42, 43, 44, 45, 46, 47, 48, 49, 50, 51, 52, 53, 54, 55, 56, 57, 58, 59, 60, 61, 62, 63, 64, 65, 66, 67, 68, 69, 70, 71, 72, 73, 74, 1, 2, 4, 75, 76, 77, 78, 79, 80, 81, 82, 83, 84, 85, 86, 87, 88, 89, 90, 91, 92, 93, 94, 95, 96, 97, 98, 99, 100, 101, 102, 117, 118, 119, 120, 121, 122, 123, 124, 125, 126, 127, 128, 129, 130, 131, 132, 133, 134, 135, 136, 137, 138, 139, 140, 141, 142, 143, 144, 145, 146, 147, 148, 149, 150, 151, 152, 153, 154, 155, 156, 157, 158, 159, 160, 161, 162, 163, 164, 165, 166, 167, 168, 169, 170, 171, 172, 173, 174, 175, 176, 177, 178, 179] rfl (by decide +kernel)
set_option maxRecDepth 20000 in
theorem gX10_turnsKept_X10_turns : GoodIn wsX10_turnsKept (wsV RX10 359 RX10 yX10_turns wsX10_turns) := goodIn_app (goodIn_of _ (by decide +kernel)) ggX10_turnsKept_X10_turns
theorem dX10_turnsKept_0 : decode cX10_turnsKept 0 = .ok (.iload_n 1, 1) := by decide +kernel
theorem dX10_turnsKept_1 : decode cX10_turnsKept 1 = .ok (.iconst 1, 1) := by decide +kernel
theorem dX10_turnsKept_2 : decode cX10_turnsKept 2 = .ok (.bipush 6, 2) := by decide +kernel
theorem dX10_turnsKept_4 : decode cX10_turnsKept 4 = .ok (.invokestatic 18, 3) := by decide +kernel
theorem dX10_turnsKept_7 : decode cX10_turnsKept 7 = .ok (.ifCond .ne 5, 3) := by decide +kernel
theorem dX10_turnsKept_10 : decode cX10_turnsKept 10 = .ok (.iconst (-1), 1) := by decide +kernel
theorem dX10_turnsKept_11 : decode cX10_turnsKept 11 = .ok (.ireturn, 1) := by decide +kernel
theorem dX10_turnsKept_12 : decode cX10_turnsKept 12 = .ok (.aload_n 0, 1) := by decide +kernel
theorem dX10_turnsKept_13 : decode cX10_turnsKept 13 = .ok (.iload_n 1, 1) := by decide +kernel
theorem dX10_turnsKept_14 : decode cX10_turnsKept 14 = .ok (.invokevirtual 353, 3) := by decide +kernel
theorem dX10_turnsKept_17 : decode cX10_turnsKept 17 = .ok (.ifCond .ne 6, 3) := by decide +kernel
theorem dX10_turnsKept_20 : decode cX10_turnsKept 20 = .ok (.bipush (-3), 2) := by decide +kernel
theorem dX10_turnsKept_22 : decode cX10_turnsKept 22 = .ok (.ireturn, 1) := by decide +kernel
theorem dX10_turnsKept_23 : decode cX10_turnsKept 23 = .ok (.aload_n 0, 1) := by decide +kernel
theorem dX10_turnsKept_24 : decode cX10_turnsKept 24 = .ok (.iconst 0, 1) := by decide +kernel
theorem dX10_turnsKept_25 : decode cX10_turnsKept 25 = .ok (.invokevirtual 356, 3) := by decide +kernel
theorem dX10_turnsKept_28 : decode cX10_turnsKept 28 = .ok (.aload_n 0, 1) := by decide +kernel
theorem dX10_turnsKept_29 : decode cX10_turnsKept 29 = .ok (.iload_n 1, 1) := by decide +kernel
theorem dX10_turnsKept_30 : decode cX10_turnsKept 30 = .ok (.invokevirtual 359, 3) := by decide +kernel
theorem dX10_turnsKept_33 : decode cX10_turnsKept 33 = .ok (.ireturn, 1) := by decide +kernel
set_option maxRecDepth 20000 in
theorem ggX10_rightsKept_X10_lies : GoodIn wsX10_rightsKept wsX10_lies := goodIn_r _ [5] rfl (by decide +kernel)
set_option maxRecDepth 20000 in
theorem gX10_rightsKept_X10_lies : GoodIn wsX10_rightsKept (va_wsS RX10 18 yX10_lies wsX10_lies) := goodIn_app (goodIn_of _ (by decide +kernel)) ggX10_rightsKept_X10_lies
set_option maxRecDepth 20000 in
theorem ggX10_rightsKept_X10_isPlace : GoodIn wsX10_rightsKept wsX10_isPlace := goodIn_r _ [9, 10, 11, 12, 4, 13, 1, 2, 3, 5, 20, 21, 22, 23, 24, 25, 26, 27, 28, 29, 30, 31, 32, 33, 34, 35, 36, 37, 38, 39, 40, 41, 42, 43, 44, 45, 46, 47, 48, 49, 50, 51, 52, 53, 54, 55, 56, 57, 58, 59, 60, 61, 62, 63, 64, 65, 66, 67, 68, 69, 70, 71, 72, 73, 74, 75] rfl (by decide +kernel)
set_option maxRecDepth 20000 in
theorem gX10_rightsKept_X10_isPlace : GoodIn wsX10_rightsKept (wsV RX10 143 RX10 yX10_isPlace wsX10_isPlace) := goodIn_app (goodIn_of _ (by decide +kernel)) ggX10_rightsKept_X10_isPlace
set_option maxRecDepth 20000 in
theorem ggX10_rightsKept_X10_keeps : GoodIn wsX10_rightsKept wsX10_keeps := goodIn_r _ [17, 18, 19, 1, 20, 21, 22, 23, 24, 25, 26, 27, 28, 29, 30, 31, 32, 33, 34, 35, 36, 37, 38, 39, 40, 41, 42, 43, 44, 45, 46, 47, 48, 49, 50, 51, 52, 53, 54, 55, 56, 57, 58, 59, 60, 61, 62, 63, 64, 65, 66, 67, 68, 69, 70, 71, 72, 73, 74, 75] rfl (by decide +kernel)
set_option maxRecDepth 20000 in
theorem gX10_rightsKept_X10_keeps : GoodIn wsX10_rightsKept (wsV RX10 356 RX10 yX10_keeps wsX10_keeps) := goodIn_app (goodIn_of _ (by decide +kernel)) ggX10_rightsKept_X10_keeps
theorem dX10_rightsKept_0 : decode cX10_rightsKept 0 = .ok (.iload_n 1, 1) := by decide +kernel
theorem dX10_rightsKept_1 : decode cX10_rightsKept 1 = .ok (.iconst 0, 1) := by decide +kernel
theorem dX10_rightsKept_2 : decode cX10_rightsKept 2 = .ok (.iconst 5, 1) := by decide +kernel
theorem dX10_rightsKept_3 : decode cX10_rightsKept 3 = .ok (.invokestatic 18, 3) := by decide +kernel
theorem dX10_rightsKept_6 : decode cX10_rightsKept 6 = .ok (.ifCond .ne 5, 3) := by decide +kernel
theorem dX10_rightsKept_9 : decode cX10_rightsKept 9 = .ok (.iconst (-1), 1) := by decide +kernel
theorem dX10_rightsKept_10 : decode cX10_rightsKept 10 = .ok (.ireturn, 1) := by decide +kernel
theorem dX10_rightsKept_11 : decode cX10_rightsKept 11 = .ok (.aload_n 0, 1) := by decide +kernel
theorem dX10_rightsKept_12 : decode cX10_rightsKept 12 = .ok (.iload_n 1, 1) := by decide +kernel
theorem dX10_rightsKept_13 : decode cX10_rightsKept 13 = .ok (.invokevirtual 143, 3) := by decide +kernel
theorem dX10_rightsKept_16 : decode cX10_rightsKept 16 = .ok (.ifCond .ne 6, 3) := by decide +kernel
theorem dX10_rightsKept_19 : decode cX10_rightsKept 19 = .ok (.bipush (-3), 2) := by decide +kernel
theorem dX10_rightsKept_21 : decode cX10_rightsKept 21 = .ok (.ireturn, 1) := by decide +kernel
theorem dX10_rightsKept_22 : decode cX10_rightsKept 22 = .ok (.aload_n 0, 1) := by decide +kernel
theorem dX10_rightsKept_23 : decode cX10_rightsKept 23 = .ok (.iconst 1, 1) := by decide +kernel
theorem dX10_rightsKept_24 : decode cX10_rightsKept 24 = .ok (.invokevirtual 356, 3) := by decide +kernel
theorem dX10_rightsKept_27 : decode cX10_rightsKept 27 = .ok (.aload_n 0, 1) := by decide +kernel
theorem dX10_rightsKept_28 : decode cX10_rightsKept 28 = .ok (.getfield 28, 3) := by decide +kernel
theorem dX10_rightsKept_31 : decode cX10_rightsKept 31 = .ok (.bipush 6, 2) := by decide +kernel
theorem dX10_rightsKept_33 : decode cX10_rightsKept 33 = .ok (.iload_n 1, 1) := by decide +kernel
theorem dX10_rightsKept_34 : decode cX10_rightsKept 34 = .ok (.iadd, 1) := by decide +kernel
theorem dX10_rightsKept_35 : decode cX10_rightsKept 35 = .ok (.iconst 1, 1) := by decide +kernel
theorem dX10_rightsKept_36 : decode cX10_rightsKept 36 = .ok (.aload_n 0, 1) := by decide +kernel
theorem dX10_rightsKept_37 : decode cX10_rightsKept 37 = .ok (.getfield 28, 3) := by decide +kernel
theorem dX10_rightsKept_40 : decode cX10_rightsKept 40 = .ok (.bipush 6, 2) := by decide +kernel
theorem dX10_rightsKept_42 : decode cX10_rightsKept 42 = .ok (.iload_n 1, 1) := by decide +kernel
theorem dX10_rightsKept_43 : decode cX10_rightsKept 43 = .ok (.iadd, 1) := by decide +kernel
theorem dX10_rightsKept_44 : decode cX10_rightsKept 44 = .ok (.iaload, 1) := by decide +kernel
theorem dX10_rightsKept_45 : decode cX10_rightsKept 45 = .ok (.isub, 1) := by decide +kernel
theorem dX10_rightsKept_46 : decode cX10_rightsKept 46 = .ok (.iastore, 1) := by decide +kernel
theorem dX10_rightsKept_47 : decode cX10_rightsKept 47 = .ok (.aload_n 0, 1) := by decide +kernel
theorem dX10_rightsKept_48 : decode cX10_rightsKept 48 = .ok (.getfield 28, 3) := by decide +kernel
theorem dX10_rightsKept_51 : decode cX10_rightsKept 51 = .ok (.bipush 6, 2) := by decide +kernel
theorem dX10_rightsKept_53 : decode cX10_rightsKept 53 = .ok (.iload_n 1, 1) := by decide +kernel
theorem dX10_rightsKept_54 : decode cX10_rightsKept 54 = .ok (.iadd, 1) := by decide +kernel
theorem dX10_rightsKept_55 : decode cX10_rightsKept 55 = .ok (.iaload, 1) := by decide +kernel
theorem dX10_rightsKept_56 : decode cX10_rightsKept 56 = .ok (.ireturn, 1) := by decide +kernel
