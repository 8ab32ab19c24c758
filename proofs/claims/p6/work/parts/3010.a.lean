set_option maxRecDepth 20000 in
theorem ggX10_towerNow_X10_size : GoodIn wsX10_towerNow wsX10_size := goodIn_r _ [7, 2, 16, 17, 18, 19, 20, 21, 22, 23, 24, 25, 26, 27, 28, 29, 30, 31, 32, 33, 34, 35, 36, 37, 38, 39, 40, 41, 42, 43, 44, 45, 46, 47, 48, 49, 50, 51, 52, 53, 54, 55, 56, 57, 58, 59, 60, 61, 62, 63, 64, 65, 66, 67, 68, 69, 70, 71] rfl (by decide +kernel)
set_option maxRecDepth 20000 in
theorem gX10_towerNow_X10_size : GoodIn wsX10_towerNow (wsV RX10 125 RX10 yX10_size wsX10_size) := goodIn_app (goodIn_of _ (by decide +kernel)) ggX10_towerNow_X10_size
set_option maxRecDepth 20000 in
theorem ggX10_towerNow_X10_lessThan : GoodIn wsX10_towerNow wsX10_lessThan := goodIn_r _ [11, 2, 3, 4, 5, 6, 7, 16, 17, 18, 19, 20, 21, 22, 23, 24, 25, 26, 27, 28, 29, 30, 31, 32, 33, 34, 35, 36, 37, 38, 39, 40, 41, 42, 43, 44, 45, 46, 47, 48, 49, 50, 51, 52, 53, 54, 55, 56, 57, 58, 59, 60, 61, 62, 63, 64, 65, 66, 67, 68, 69, 70, 71] rfl (by decide +kernel)
set_option maxRecDepth 20000 in
theorem gX10_towerNow_X10_lessThan : GoodIn wsX10_towerNow (wsV RX10 401 RX10 yX10_lessThan wsX10_lessThan) := goodIn_app (goodIn_of _ (by decide +kernel)) ggX10_towerNow_X10_lessThan
set_option maxRecDepth 20000 in
theorem ggX10_towerNow_X10_numberOf : GoodIn wsX10_towerNow wsX10_numberOf := goodIn_r _ [15, 1, 3, 4, 5, 6, 7, 2, 16, 17, 18, 19, 20, 21, 22, 23, 24, 25, 26, 27, 28, 29, 30, 31, 32, 33, 34, 35, 36, 37, 38, 39, 40, 41, 42, 43, 44, 45, 46, 47, 48, 49, 50, 51, 52, 53, 54, 55, 56, 57, 58, 59, 60, 61, 62, 63, 64, 65, 66, 67, 68, 69, 70, 71] rfl (by decide +kernel)
set_option maxRecDepth 20000 in
theorem gX10_towerNow_X10_numberOf : GoodIn wsX10_towerNow (wsV RX10 395 RX10 yX10_numberOf wsX10_numberOf) := goodIn_app (goodIn_of _ (by decide +kernel)) ggX10_towerNow_X10_numberOf
theorem da9_dX10_towerNow_0 : (decode cX10_towerNow 0 = .ok (.iconst 0, 1)) ∧ (decode cX10_towerNow 1 = .ok (.istore_n 1, 1)) ∧ (decode cX10_towerNow 2 = .ok (.iconst 0, 1)) ∧ (decode cX10_towerNow 3 = .ok (.istore_n 2, 1)) ∧ (decode cX10_towerNow 4 = .ok (.iload_n 2, 1)) ∧ (decode cX10_towerNow 5 = .ok (.aload_n 0, 1)) ∧ (decode cX10_towerNow 6 = .ok (.invokevirtual 125, 3)) ∧ (decode cX10_towerNow 9 = .ok (.if_icmp .ge 41, 3)) ∧ (decode cX10_towerNow 12 = .ok (.aload_n 0, 1)) ∧ (decode cX10_towerNow 13 = .ok (.getfield 84, 3)) ∧ (decode cX10_towerNow 16 = .ok (.iload_n 2, 1)) ∧ (decode cX10_towerNow 17 = .ok (.aload_n 0, 1)) ∧ (decode cX10_towerNow 18 = .ok (.aload_n 0, 1)) ∧ (decode cX10_towerNow 19 = .ok (.getfield 28, 3)) ∧ (decode cX10_towerNow 22 = .ok (.iconst 0, 1)) ∧ (decode cX10_towerNow 23 = .ok (.iload_n 2, 1)) := by decide +kernel
theorem dX10_towerNow_0 : decode cX10_towerNow 0 = .ok (.iconst 0, 1) := da9_dX10_towerNow_0.1
theorem dX10_towerNow_1 : decode cX10_towerNow 1 = .ok (.istore_n 1, 1) := da9_dX10_towerNow_0.2.1
theorem dX10_towerNow_2 : decode cX10_towerNow 2 = .ok (.iconst 0, 1) := da9_dX10_towerNow_0.2.2.1
theorem dX10_towerNow_3 : decode cX10_towerNow 3 = .ok (.istore_n 2, 1) := da9_dX10_towerNow_0.2.2.2.1
theorem dX10_towerNow_4 : decode cX10_towerNow 4 = .ok (.iload_n 2, 1) := da9_dX10_towerNow_0.2.2.2.2.1
theorem dX10_towerNow_5 : decode cX10_towerNow 5 = .ok (.aload_n 0, 1) := da9_dX10_towerNow_0.2.2.2.2.2.1
theorem dX10_towerNow_6 : decode cX10_towerNow 6 = .ok (.invokevirtual 125, 3) := da9_dX10_towerNow_0.2.2.2.2.2.2.1
theorem dX10_towerNow_9 : decode cX10_towerNow 9 = .ok (.if_icmp .ge 41, 3) := da9_dX10_towerNow_0.2.2.2.2.2.2.2.1
theorem dX10_towerNow_12 : decode cX10_towerNow 12 = .ok (.aload_n 0, 1) := da9_dX10_towerNow_0.2.2.2.2.2.2.2.2.1
theorem dX10_towerNow_13 : decode cX10_towerNow 13 = .ok (.getfield 84, 3) := da9_dX10_towerNow_0.2.2.2.2.2.2.2.2.2.1
theorem dX10_towerNow_16 : decode cX10_towerNow 16 = .ok (.iload_n 2, 1) := da9_dX10_towerNow_0.2.2.2.2.2.2.2.2.2.2.1
theorem dX10_towerNow_17 : decode cX10_towerNow 17 = .ok (.aload_n 0, 1) := da9_dX10_towerNow_0.2.2.2.2.2.2.2.2.2.2.2.1
theorem dX10_towerNow_18 : decode cX10_towerNow 18 = .ok (.aload_n 0, 1) := da9_dX10_towerNow_0.2.2.2.2.2.2.2.2.2.2.2.2.1
theorem dX10_towerNow_19 : decode cX10_towerNow 19 = .ok (.getfield 28, 3) := da9_dX10_towerNow_0.2.2.2.2.2.2.2.2.2.2.2.2.2.1
theorem dX10_towerNow_22 : decode cX10_towerNow 22 = .ok (.iconst 0, 1) := da9_dX10_towerNow_0.2.2.2.2.2.2.2.2.2.2.2.2.2.2.1
theorem dX10_towerNow_23 : decode cX10_towerNow 23 = .ok (.iload_n 2, 1) := da9_dX10_towerNow_0.2.2.2.2.2.2.2.2.2.2.2.2.2.2.2
theorem da9_dX10_towerNow_24 : (decode cX10_towerNow 24 = .ok (.iadd, 1)) ∧ (decode cX10_towerNow 25 = .ok (.iaload, 1)) ∧ (decode cX10_towerNow 26 = .ok (.invokevirtual 401, 3)) ∧ (decode cX10_towerNow 29 = .ok (.iastore, 1)) ∧ (decode cX10_towerNow 30 = .ok (.iload_n 1, 1)) ∧ (decode cX10_towerNow 31 = .ok (.aload_n 0, 1)) ∧ (decode cX10_towerNow 32 = .ok (.getfield 28, 3)) ∧ (decode cX10_towerNow 35 = .ok (.bipush 6, 2)) ∧ (decode cX10_towerNow 37 = .ok (.iload_n 2, 1)) ∧ (decode cX10_towerNow 38 = .ok (.iadd, 1)) ∧ (decode cX10_towerNow 39 = .ok (.iaload, 1)) ∧ (decode cX10_towerNow 40 = .ok (.iload_n 2, 1)) ∧ (decode cX10_towerNow 41 = .ok (.ishl, 1)) ∧ (decode cX10_towerNow 42 = .ok (.ior, 1)) ∧ (decode cX10_towerNow 43 = .ok (.istore_n 1, 1)) ∧ (decode cX10_towerNow 44 = .ok (.iinc 2 1, 3)) := by decide +kernel
theorem dX10_towerNow_24 : decode cX10_towerNow 24 = .ok (.iadd, 1) := da9_dX10_towerNow_24.1
theorem dX10_towerNow_25 : decode cX10_towerNow 25 = .ok (.iaload, 1) := da9_dX10_towerNow_24.2.1
theorem dX10_towerNow_26 : decode cX10_towerNow 26 = .ok (.invokevirtual 401, 3) := da9_dX10_towerNow_24.2.2.1
theorem dX10_towerNow_29 : decode cX10_towerNow 29 = .ok (.iastore, 1) := da9_dX10_towerNow_24.2.2.2.1
theorem dX10_towerNow_30 : decode cX10_towerNow 30 = .ok (.iload_n 1, 1) := da9_dX10_towerNow_24.2.2.2.2.1
theorem dX10_towerNow_31 : decode cX10_towerNow 31 = .ok (.aload_n 0, 1) := da9_dX10_towerNow_24.2.2.2.2.2.1
theorem dX10_towerNow_32 : decode cX10_towerNow 32 = .ok (.getfield 28, 3) := da9_dX10_towerNow_24.2.2.2.2.2.2.1
theorem dX10_towerNow_35 : decode cX10_towerNow 35 = .ok (.bipush 6, 2) := da9_dX10_towerNow_24.2.2.2.2.2.2.2.1
theorem dX10_towerNow_37 : decode cX10_towerNow 37 = .ok (.iload_n 2, 1) := da9_dX10_towerNow_24.2.2.2.2.2.2.2.2.1
theorem dX10_towerNow_38 : decode cX10_towerNow 38 = .ok (.iadd, 1) := da9_dX10_towerNow_24.2.2.2.2.2.2.2.2.2.1
theorem dX10_towerNow_39 : decode cX10_towerNow 39 = .ok (.iaload, 1) := da9_dX10_towerNow_24.2.2.2.2.2.2.2.2.2.2.1
theorem dX10_towerNow_40 : decode cX10_towerNow 40 = .ok (.iload_n 2, 1) := da9_dX10_towerNow_24.2.2.2.2.2.2.2.2.2.2.2.1
theorem dX10_towerNow_41 : decode cX10_towerNow 41 = .ok (.ishl, 1) := da9_dX10_towerNow_24.2.2.2.2.2.2.2.2.2.2.2.2.1
theorem dX10_towerNow_42 : decode cX10_towerNow 42 = .ok (.ior, 1) := da9_dX10_towerNow_24.2.2.2.2.2.2.2.2.2.2.2.2.2.1
theorem dX10_towerNow_43 : decode cX10_towerNow 43 = .ok (.istore_n 1, 1) := da9_dX10_towerNow_24.2.2.2.2.2.2.2.2.2.2.2.2.2.2.1
theorem dX10_towerNow_44 : decode cX10_towerNow 44 = .ok (.iinc 2 1, 3) := da9_dX10_towerNow_24.2.2.2.2.2.2.2.2.2.2.2.2.2.2.2
theorem da9_dX10_towerNow_47 : (decode cX10_towerNow 47 = .ok (.goto (-43), 3)) ∧ (decode cX10_towerNow 50 = .ok (.bipush 64, 2)) ∧ (decode cX10_towerNow 52 = .ok (.aload_n 0, 1)) ∧ (decode cX10_towerNow 53 = .ok (.invokevirtual 395, 3)) ∧ (decode cX10_towerNow 56 = .ok (.imul, 1)) ∧ (decode cX10_towerNow 57 = .ok (.iload_n 1, 1)) ∧ (decode cX10_towerNow 58 = .ok (.iadd, 1)) ∧ (decode cX10_towerNow 59 = .ok (.ireturn, 1)) := by decide +kernel
theorem dX10_towerNow_47 : decode cX10_towerNow 47 = .ok (.goto (-43), 3) := da9_dX10_towerNow_47.1
theorem dX10_towerNow_50 : decode cX10_towerNow 50 = .ok (.bipush 64, 2) := da9_dX10_towerNow_47.2.1
theorem dX10_towerNow_52 : decode cX10_towerNow 52 = .ok (.aload_n 0, 1) := da9_dX10_towerNow_47.2.2.1
theorem dX10_towerNow_53 : decode cX10_towerNow 53 = .ok (.invokevirtual 395, 3) := da9_dX10_towerNow_47.2.2.2.1
theorem dX10_towerNow_56 : decode cX10_towerNow 56 = .ok (.imul, 1) := da9_dX10_towerNow_47.2.2.2.2.1
theorem dX10_towerNow_57 : decode cX10_towerNow 57 = .ok (.iload_n 1, 1) := da9_dX10_towerNow_47.2.2.2.2.2.1
theorem dX10_towerNow_58 : decode cX10_towerNow 58 = .ok (.iadd, 1) := da9_dX10_towerNow_47.2.2.2.2.2.2.1
theorem dX10_towerNow_59 : decode cX10_towerNow 59 = .ok (.ireturn, 1) := da9_dX10_towerNow_47.2.2.2.2.2.2.2
theorem da9_dX10_askedAt_0 : (decode cX10_askedAt 0 = .ok (.iload_n 0, 1)) ∧ (decode cX10_askedAt 1 = .ok (.bipush 6, 2)) ∧ (decode cX10_askedAt 3 = .ok (.imul, 1)) ∧ (decode cX10_askedAt 4 = .ok (.iload_n 1, 1)) ∧ (decode cX10_askedAt 5 = .ok (.iadd, 1)) ∧ (decode cX10_askedAt 6 = .ok (.bipush 7, 2)) ∧ (decode cX10_askedAt 8 = .ok (.imul, 1)) ∧ (decode cX10_askedAt 9 = .ok (.iload_n 2, 1)) ∧ (decode cX10_askedAt 10 = .ok (.iadd, 1)) ∧ (decode cX10_askedAt 11 = .ok (.iconst 2, 1)) ∧ (decode cX10_askedAt 12 = .ok (.imul, 1)) ∧ (decode cX10_askedAt 13 = .ok (.iload_n 3, 1)) ∧ (decode cX10_askedAt 14 = .ok (.iadd, 1)) ∧ (decode cX10_askedAt 15 = .ok (.ireturn, 1)) := by decide +kernel
theorem dX10_askedAt_0 : decode cX10_askedAt 0 = .ok (.iload_n 0, 1) := da9_dX10_askedAt_0.1
theorem dX10_askedAt_1 : decode cX10_askedAt 1 = .ok (.bipush 6, 2) := da9_dX10_askedAt_0.2.1
theorem dX10_askedAt_3 : decode cX10_askedAt 3 = .ok (.imul, 1) := da9_dX10_askedAt_0.2.2.1
theorem dX10_askedAt_4 : decode cX10_askedAt 4 = .ok (.iload_n 1, 1) := da9_dX10_askedAt_0.2.2.2.1
theorem dX10_askedAt_5 : decode cX10_askedAt 5 = .ok (.iadd, 1) := da9_dX10_askedAt_0.2.2.2.2.1
theorem dX10_askedAt_6 : decode cX10_askedAt 6 = .ok (.bipush 7, 2) := da9_dX10_askedAt_0.2.2.2.2.2.1
theorem dX10_askedAt_8 : decode cX10_askedAt 8 = .ok (.imul, 1) := da9_dX10_askedAt_0.2.2.2.2.2.2.1
theorem dX10_askedAt_9 : decode cX10_askedAt 9 = .ok (.iload_n 2, 1) := da9_dX10_askedAt_0.2.2.2.2.2.2.2.1
theorem dX10_askedAt_10 : decode cX10_askedAt 10 = .ok (.iadd, 1) := da9_dX10_askedAt_0.2.2.2.2.2.2.2.2.1
theorem dX10_askedAt_11 : decode cX10_askedAt 11 = .ok (.iconst 2, 1) := da9_dX10_askedAt_0.2.2.2.2.2.2.2.2.2.1
theorem dX10_askedAt_12 : decode cX10_askedAt 12 = .ok (.imul, 1) := da9_dX10_askedAt_0.2.2.2.2.2.2.2.2.2.2.1
theorem dX10_askedAt_13 : decode cX10_askedAt 13 = .ok (.iload_n 3, 1) := da9_dX10_askedAt_0.2.2.2.2.2.2.2.2.2.2.2.1
theorem dX10_askedAt_14 : decode cX10_askedAt 14 = .ok (.iadd, 1) := da9_dX10_askedAt_0.2.2.2.2.2.2.2.2.2.2.2.2.1
theorem dX10_askedAt_15 : decode cX10_askedAt 15 = .ok (.ireturn, 1) := da9_dX10_askedAt_0.2.2.2.2.2.2.2.2.2.2.2.2.2
set_option maxRecDepth 20000 in
theorem ggX10_laysPrices_X10_laysTables : GoodIn wsX10_laysPrices wsX10_laysTables := goodIn_r _ [6, 7, 8, 9, 10, 11, 12, 13, 14, 15, 5, 16, 17, 18, 19, 20, 21, 22, 23, 24, 25, 26, 27, 28, 29, 30, 31, 32, 33, 34, 35, 135, 136, 137, 138, 139, 140, 141, 142, 143, 144, 145, 146, 147, 148, 149, 150, 151, 152, 153, 154, 155, 156, 157, 158, 159, 160, 161, 162, 163, 164, 165, 166, 167, 168, 169, 170, 171, 172, 173, 174, 175, 176, 177, 178, 179, 180, 181, 182, 183, 184, 185, 186, 187, 188, 189, 190] rfl (by decide +kernel)
set_option maxRecDepth 20000 in
theorem gX10_laysPrices_X10_laysTables : GoodIn wsX10_laysPrices (wsV RX10 404 RX10 yX10_laysTables wsX10_laysTables) := goodIn_app (goodIn_of _ (by decide +kernel)) ggX10_laysPrices_X10_laysTables
set_option maxRecDepth 20000 in
theorem ggX10_laysPrices_X10_size : GoodIn wsX10_laysPrices wsX10_size := goodIn_r _ [16, 17, 135, 136, 137, 138, 139, 140, 141, 142, 143, 144, 145, 146, 147, 148, 149, 150, 151, 152, 153, 154, 155, 156, 157, 158, 159, 160, 161, 162, 163, 164, 165, 166, 167, 168, 169, 170, 171, 172, 173, 174, 175, 176, 177, 178, 179, 180, 181, 182, 183, 184, 185, 186, 187, 188, 189, 190] rfl (by decide +kernel)
set_option maxRecDepth 20000 in
theorem gX10_laysPrices_X10_size : GoodIn wsX10_laysPrices (wsV RX10 125 RX10 yX10_size wsX10_size) := goodIn_app (goodIn_of _ (by decide +kernel)) ggX10_laysPrices_X10_size
set_option maxRecDepth 20000 in
theorem ggX10_laysPrices_X10_rankOf : GoodIn wsX10_laysPrices wsX10_rankOf := goodIn_r _ [39, 17, 13, 14, 15, 5, 16, 40, 41, 42, 43, 135, 136, 137, 138, 139, 140, 141, 142, 143, 144, 145, 146, 147, 148, 149, 150, 151, 152, 153, 154, 155, 156, 157, 158, 159, 160, 161, 162, 163, 164, 165, 166, 167, 168, 169, 170, 171, 172, 173, 174, 175, 176, 177, 178, 179, 180, 181, 182, 183, 184, 185, 186, 187, 188, 189, 190] rfl (by decide +kernel)
set_option maxRecDepth 20000 in
theorem gX10_laysPrices_X10_rankOf : GoodIn wsX10_laysPrices (wsV RX10 407 RX10 yX10_rankOf wsX10_rankOf) := goodIn_app (goodIn_of _ (by decide +kernel)) ggX10_laysPrices_X10_rankOf
set_option maxRecDepth 20000 in
theorem ggX10_laysPrices_X10_setsTurn : GoodIn wsX10_laysPrices wsX10_setsTurn := goodIn_r _ [47, 48, 49, 50, 51, 5, 52, 17, 13, 14, 15, 16, 135, 136, 137, 138, 139, 140, 141, 142, 143, 144, 145, 146, 147, 148, 149, 150, 151, 152, 153, 154, 155, 156, 157, 158, 159, 160, 161, 162, 163, 164, 165, 166, 167, 168, 169, 170, 171, 172, 173, 174, 175, 176, 177, 178, 179, 180, 181, 182, 183, 184, 185, 186, 187, 188, 189, 190] rfl (by decide +kernel)
set_option maxRecDepth 20000 in
theorem gX10_laysPrices_X10_setsTurn : GoodIn wsX10_laysPrices (wsV RX10 152 RX10 yX10_setsTurn wsX10_setsTurn) := goodIn_app (goodIn_of _ (by decide +kernel)) ggX10_laysPrices_X10_setsTurn
set_option maxRecDepth 20000 in
theorem ggX10_laysPrices_X10_askedAt : GoodIn wsX10_laysPrices wsX10_askedAt := goodIn_r _ [55] rfl (by decide +kernel)
set_option maxRecDepth 20000 in
theorem gX10_laysPrices_X10_askedAt : GoodIn wsX10_laysPrices (va_wsS RX10 410 yX10_askedAt wsX10_askedAt) := goodIn_app (goodIn_of _ (by decide +kernel)) ggX10_laysPrices_X10_askedAt
set_option maxRecDepth 20000 in
theorem ggX10_laysPrices_X10_isNow : GoodIn wsX10_laysPrices wsX10_isNow := goodIn_r _ [59, 60, 61, 62, 5, 63, 17, 64, 65, 66, 67, 68, 69, 70, 71, 72, 73, 74, 75, 76, 77, 78, 79, 80, 81, 82, 83, 84, 85, 86, 87, 88, 89, 48, 90, 91, 92, 93, 94, 95, 96, 97, 98, 99, 100, 101, 102, 103, 13, 14, 15, 16, 104, 105, 106, 107, 108, 109, 110, 40, 41, 42, 43, 111, 112, 113, 114, 115, 116, 117, 118, 119, 120, 121, 122, 123, 124, 125, 126, 127, 128, 129, 130, 135, 136, 137, 138, 139, 140, 141, 142, 143, 144, 145, 146, 147, 148, 149, 150, 151, 152, 153, 154, 155, 156, 157, 158, 159, 160, 161, 162, 163, 164, 165, 166, 167, 168, 169, 170, 171, 172, 173, 174, 175, 176, 177, 178, 179, 180, 181, 182, 183, 184, 185, 186, 187, 188, 189, 190] rfl (by decide +kernel)
set_option maxRecDepth 20000 in
theorem gX10_laysPrices_X10_isNow : GoodIn wsX10_laysPrices (wsV RX10 159 RX10 yX10_isNow wsX10_isNow) := goodIn_app (goodIn_of _ (by decide +kernel)) ggX10_laysPrices_X10_isNow
set_option maxRecDepth 20000 in
theorem ggX10_laysPrices_X10_paysNow : GoodIn wsX10_laysPrices wsX10_paysNow := goodIn_r _ [134, 48, 60, 61, 62, 5, 63, 17, 64, 65, 66, 67, 68, 69, 70, 71, 72, 73, 74, 75, 76, 77, 78, 79, 80, 81, 82, 83, 84, 85, 86, 87, 88, 89, 90, 91, 92, 93, 94, 95, 96, 97, 98, 99, 100, 101, 102, 103, 13, 14, 15, 16, 104, 105, 106, 107, 108, 109, 110, 40, 41, 42, 43, 111, 112, 113, 114, 115, 116, 117, 118, 119, 120, 121, 122, 123, 124, 125, 126, 127, 128, 129, 130, 135, 136, 137, 138, 139, 140, 141, 142, 143, 144, 145, 146, 147, 148, 149, 150, 151, 152, 153, 154, 155, 156, 157, 158, 159, 160, 161, 162, 163, 164, 165, 166, 167, 168, 169, 170, 171, 172, 173, 174, 175, 176, 177, 178, 179, 180, 181, 182, 183, 184, 185, 186, 187, 188, 189, 190] rfl (by decide +kernel)
set_option maxRecDepth 20000 in
theorem gX10_laysPrices_X10_paysNow : GoodIn wsX10_laysPrices (wsV RX10 156 RX10 yX10_paysNow wsX10_paysNow) := goodIn_app (goodIn_of _ (by decide +kernel)) ggX10_laysPrices_X10_paysNow
theorem da9_dX10_laysPrices_0 : (decode cX10_laysPrices 0 = .ok (.aload_n 0, 1)) ∧ (decode cX10_laysPrices 1 = .ok (.invokevirtual 404, 3)) ∧ (decode cX10_laysPrices 4 = .ok (.iconst 1, 1)) ∧ (decode cX10_laysPrices 5 = .ok (.istore_n 1, 1)) ∧ (decode cX10_laysPrices 6 = .ok (.iload_n 1, 1)) ∧ (decode cX10_laysPrices 7 = .ok (.aload_n 0, 1)) ∧ (decode cX10_laysPrices 8 = .ok (.invokevirtual 125, 3)) ∧ (decode cX10_laysPrices 11 = .ok (.if_icmp .gt 112, 3)) ∧ (decode cX10_laysPrices 14 = .ok (.iconst 0, 1)) ∧ (decode cX10_laysPrices 15 = .ok (.istore_n 2, 1)) ∧ (decode cX10_laysPrices 16 = .ok (.iload_n 2, 1)) ∧ (decode cX10_laysPrices 17 = .ok (.aload_n 0, 1)) ∧ (decode cX10_laysPrices 18 = .ok (.invokevirtual 125, 3)) ∧ (decode cX10_laysPrices 21 = .ok (.if_icmp .ge 96, 3)) ∧ (decode cX10_laysPrices 24 = .ok (.iconst 0, 1)) ∧ (decode cX10_laysPrices 25 = .ok (.istore_n 3, 1)) := by decide +kernel
theorem dX10_laysPrices_0 : decode cX10_laysPrices 0 = .ok (.aload_n 0, 1) := da9_dX10_laysPrices_0.1
theorem dX10_laysPrices_1 : decode cX10_laysPrices 1 = .ok (.invokevirtual 404, 3) := da9_dX10_laysPrices_0.2.1
theorem dX10_laysPrices_4 : decode cX10_laysPrices 4 = .ok (.iconst 1, 1) := da9_dX10_laysPrices_0.2.2.1
theorem dX10_laysPrices_5 : decode cX10_laysPrices 5 = .ok (.istore_n 1, 1) := da9_dX10_laysPrices_0.2.2.2.1
theorem dX10_laysPrices_6 : decode cX10_laysPrices 6 = .ok (.iload_n 1, 1) := da9_dX10_laysPrices_0.2.2.2.2.1
theorem dX10_laysPrices_7 : decode cX10_laysPrices 7 = .ok (.aload_n 0, 1) := da9_dX10_laysPrices_0.2.2.2.2.2.1
theorem dX10_laysPrices_8 : decode cX10_laysPrices 8 = .ok (.invokevirtual 125, 3) := da9_dX10_laysPrices_0.2.2.2.2.2.2.1
theorem dX10_laysPrices_11 : decode cX10_laysPrices 11 = .ok (.if_icmp .gt 112, 3) := da9_dX10_laysPrices_0.2.2.2.2.2.2.2.1
theorem dX10_laysPrices_14 : decode cX10_laysPrices 14 = .ok (.iconst 0, 1) := da9_dX10_laysPrices_0.2.2.2.2.2.2.2.2.1
theorem dX10_laysPrices_15 : decode cX10_laysPrices 15 = .ok (.istore_n 2, 1) := da9_dX10_laysPrices_0.2.2.2.2.2.2.2.2.2.1
theorem dX10_laysPrices_16 : decode cX10_laysPrices 16 = .ok (.iload_n 2, 1) := da9_dX10_laysPrices_0.2.2.2.2.2.2.2.2.2.2.1
theorem dX10_laysPrices_17 : decode cX10_laysPrices 17 = .ok (.aload_n 0, 1) := da9_dX10_laysPrices_0.2.2.2.2.2.2.2.2.2.2.2.1
theorem dX10_laysPrices_18 : decode cX10_laysPrices 18 = .ok (.invokevirtual 125, 3) := da9_dX10_laysPrices_0.2.2.2.2.2.2.2.2.2.2.2.2.1
theorem dX10_laysPrices_21 : decode cX10_laysPrices 21 = .ok (.if_icmp .ge 96, 3) := da9_dX10_laysPrices_0.2.2.2.2.2.2.2.2.2.2.2.2.2.1
theorem dX10_laysPrices_24 : decode cX10_laysPrices 24 = .ok (.iconst 0, 1) := da9_dX10_laysPrices_0.2.2.2.2.2.2.2.2.2.2.2.2.2.2.1
theorem dX10_laysPrices_25 : decode cX10_laysPrices 25 = .ok (.istore_n 3, 1) := da9_dX10_laysPrices_0.2.2.2.2.2.2.2.2.2.2.2.2.2.2.2
theorem da9_dX10_laysPrices_26 : (decode cX10_laysPrices 26 = .ok (.iload_n 3, 1)) ∧ (decode cX10_laysPrices 27 = .ok (.aload_n 0, 1)) ∧ (decode cX10_laysPrices 28 = .ok (.invokevirtual 125, 3)) ∧ (decode cX10_laysPrices 31 = .ok (.if_icmp .gt 80, 3)) ∧ (decode cX10_laysPrices 34 = .ok (.iconst 0, 1)) ∧ (decode cX10_laysPrices 35 = .ok (.istore 4, 2)) ∧ (decode cX10_laysPrices 37 = .ok (.iload 4, 2)) ∧ (decode cX10_laysPrices 39 = .ok (.iconst 2, 1)) ∧ (decode cX10_laysPrices 40 = .ok (.if_icmp .ge 65, 3)) ∧ (decode cX10_laysPrices 43 = .ok (.aload_n 0, 1)) ∧ (decode cX10_laysPrices 44 = .ok (.iload_n 1, 1)) ∧ (decode cX10_laysPrices 45 = .ok (.aload_n 0, 1)) ∧ (decode cX10_laysPrices 46 = .ok (.iload_n 2, 1)) ∧ (decode cX10_laysPrices 47 = .ok (.invokevirtual 407, 3)) ∧ (decode cX10_laysPrices 50 = .ok (.iload_n 3, 1)) ∧ (decode cX10_laysPrices 51 = .ok (.ifCond .ne 7, 3)) := by decide +kernel
theorem dX10_laysPrices_26 : decode cX10_laysPrices 26 = .ok (.iload_n 3, 1) := da9_dX10_laysPrices_26.1
theorem dX10_laysPrices_27 : decode cX10_laysPrices 27 = .ok (.aload_n 0, 1) := da9_dX10_laysPrices_26.2.1
theorem dX10_laysPrices_28 : decode cX10_laysPrices 28 = .ok (.invokevirtual 125, 3) := da9_dX10_laysPrices_26.2.2.1
theorem dX10_laysPrices_31 : decode cX10_laysPrices 31 = .ok (.if_icmp .gt 80, 3) := da9_dX10_laysPrices_26.2.2.2.1
theorem dX10_laysPrices_34 : decode cX10_laysPrices 34 = .ok (.iconst 0, 1) := da9_dX10_laysPrices_26.2.2.2.2.1
theorem dX10_laysPrices_35 : decode cX10_laysPrices 35 = .ok (.istore 4, 2) := da9_dX10_laysPrices_26.2.2.2.2.2.1
theorem dX10_laysPrices_37 : decode cX10_laysPrices 37 = .ok (.iload 4, 2) := da9_dX10_laysPrices_26.2.2.2.2.2.2.1
theorem dX10_laysPrices_39 : decode cX10_laysPrices 39 = .ok (.iconst 2, 1) := da9_dX10_laysPrices_26.2.2.2.2.2.2.2.1
theorem dX10_laysPrices_40 : decode cX10_laysPrices 40 = .ok (.if_icmp .ge 65, 3) := da9_dX10_laysPrices_26.2.2.2.2.2.2.2.2.1
theorem dX10_laysPrices_43 : decode cX10_laysPrices 43 = .ok (.aload_n 0, 1) := da9_dX10_laysPrices_26.2.2.2.2.2.2.2.2.2.1
theorem dX10_laysPrices_44 : decode cX10_laysPrices 44 = .ok (.iload_n 1, 1) := da9_dX10_laysPrices_26.2.2.2.2.2.2.2.2.2.2.1
theorem dX10_laysPrices_45 : decode cX10_laysPrices 45 = .ok (.aload_n 0, 1) := da9_dX10_laysPrices_26.2.2.2.2.2.2.2.2.2.2.2.1
theorem dX10_laysPrices_46 : decode cX10_laysPrices 46 = .ok (.iload_n 2, 1) := da9_dX10_laysPrices_26.2.2.2.2.2.2.2.2.2.2.2.2.1
theorem dX10_laysPrices_47 : decode cX10_laysPrices 47 = .ok (.invokevirtual 407, 3) := da9_dX10_laysPrices_26.2.2.2.2.2.2.2.2.2.2.2.2.2.1
theorem dX10_laysPrices_50 : decode cX10_laysPrices 50 = .ok (.iload_n 3, 1) := da9_dX10_laysPrices_26.2.2.2.2.2.2.2.2.2.2.2.2.2.2.1
theorem dX10_laysPrices_51 : decode cX10_laysPrices 51 = .ok (.ifCond .ne 7, 3) := da9_dX10_laysPrices_26.2.2.2.2.2.2.2.2.2.2.2.2.2.2.2
theorem da9_dX10_laysPrices_54 : (decode cX10_laysPrices 54 = .ok (.iconst (-1), 1)) ∧ (decode cX10_laysPrices 55 = .ok (.goto 10, 3)) ∧ (decode cX10_laysPrices 58 = .ok (.aload_n 0, 1)) ∧ (decode cX10_laysPrices 59 = .ok (.iload_n 3, 1)) ∧ (decode cX10_laysPrices 60 = .ok (.iconst 1, 1)) ∧ (decode cX10_laysPrices 61 = .ok (.isub, 1)) ∧ (decode cX10_laysPrices 62 = .ok (.invokevirtual 407, 3)) ∧ (decode cX10_laysPrices 65 = .ok (.iload 4, 2)) ∧ (decode cX10_laysPrices 67 = .ok (.invokevirtual 152, 3)) ∧ (decode cX10_laysPrices 70 = .ok (.aload_n 0, 1)) ∧ (decode cX10_laysPrices 71 = .ok (.getfield 87, 3)) ∧ (decode cX10_laysPrices 74 = .ok (.iload_n 1, 1)) ∧ (decode cX10_laysPrices 75 = .ok (.iload_n 2, 1)) ∧ (decode cX10_laysPrices 76 = .ok (.iload_n 3, 1)) ∧ (decode cX10_laysPrices 77 = .ok (.iload 4, 2)) ∧ (decode cX10_laysPrices 79 = .ok (.invokestatic 410, 3)) := by decide +kernel
theorem dX10_laysPrices_54 : decode cX10_laysPrices 54 = .ok (.iconst (-1), 1) := da9_dX10_laysPrices_54.1
theorem dX10_laysPrices_55 : decode cX10_laysPrices 55 = .ok (.goto 10, 3) := da9_dX10_laysPrices_54.2.1
theorem dX10_laysPrices_58 : decode cX10_laysPrices 58 = .ok (.aload_n 0, 1) := da9_dX10_laysPrices_54.2.2.1
theorem dX10_laysPrices_59 : decode cX10_laysPrices 59 = .ok (.iload_n 3, 1) := da9_dX10_laysPrices_54.2.2.2.1
theorem dX10_laysPrices_60 : decode cX10_laysPrices 60 = .ok (.iconst 1, 1) := da9_dX10_laysPrices_54.2.2.2.2.1
theorem dX10_laysPrices_61 : decode cX10_laysPrices 61 = .ok (.isub, 1) := da9_dX10_laysPrices_54.2.2.2.2.2.1
theorem dX10_laysPrices_62 : decode cX10_laysPrices 62 = .ok (.invokevirtual 407, 3) := da9_dX10_laysPrices_54.2.2.2.2.2.2.1
theorem dX10_laysPrices_65 : decode cX10_laysPrices 65 = .ok (.iload 4, 2) := da9_dX10_laysPrices_54.2.2.2.2.2.2.2.1
theorem dX10_laysPrices_67 : decode cX10_laysPrices 67 = .ok (.invokevirtual 152, 3) := da9_dX10_laysPrices_54.2.2.2.2.2.2.2.2.1
theorem dX10_laysPrices_70 : decode cX10_laysPrices 70 = .ok (.aload_n 0, 1) := da9_dX10_laysPrices_54.2.2.2.2.2.2.2.2.2.1
theorem dX10_laysPrices_71 : decode cX10_laysPrices 71 = .ok (.getfield 87, 3) := da9_dX10_laysPrices_54.2.2.2.2.2.2.2.2.2.2.1
theorem dX10_laysPrices_74 : decode cX10_laysPrices 74 = .ok (.iload_n 1, 1) := da9_dX10_laysPrices_54.2.2.2.2.2.2.2.2.2.2.2.1
theorem dX10_laysPrices_75 : decode cX10_laysPrices 75 = .ok (.iload_n 2, 1) := da9_dX10_laysPrices_54.2.2.2.2.2.2.2.2.2.2.2.2.1
theorem dX10_laysPrices_76 : decode cX10_laysPrices 76 = .ok (.iload_n 3, 1) := da9_dX10_laysPrices_54.2.2.2.2.2.2.2.2.2.2.2.2.2.1
theorem dX10_laysPrices_77 : decode cX10_laysPrices 77 = .ok (.iload 4, 2) := da9_dX10_laysPrices_54.2.2.2.2.2.2.2.2.2.2.2.2.2.2.1
theorem dX10_laysPrices_79 : decode cX10_laysPrices 79 = .ok (.invokestatic 410, 3) := da9_dX10_laysPrices_54.2.2.2.2.2.2.2.2.2.2.2.2.2.2.2
theorem da9_dX10_laysPrices_82 : (decode cX10_laysPrices 82 = .ok (.aload_n 0, 1)) ∧ (decode cX10_laysPrices 83 = .ok (.iconst 2, 1)) ∧ (decode cX10_laysPrices 84 = .ok (.invokevirtual 159, 3)) ∧ (decode cX10_laysPrices 87 = .ok (.ifCond .eq 7, 3)) ∧ (decode cX10_laysPrices 90 = .ok (.iconst (-1), 1)) ∧ (decode cX10_laysPrices 91 = .ok (.goto 7, 3)) ∧ (decode cX10_laysPrices 94 = .ok (.aload_n 0, 1)) ∧ (decode cX10_laysPrices 95 = .ok (.invokevirtual 156, 3)) ∧ (decode cX10_laysPrices 98 = .ok (.iastore, 1)) ∧ (decode cX10_laysPrices 99 = .ok (.iinc 4 1, 3)) ∧ (decode cX10_laysPrices 102 = .ok (.goto (-65), 3)) ∧ (decode cX10_laysPrices 105 = .ok (.iinc 3 1, 3)) ∧ (decode cX10_laysPrices 108 = .ok (.goto (-82), 3)) ∧ (decode cX10_laysPrices 111 = .ok (.iinc 2 1, 3)) ∧ (decode cX10_laysPrices 114 = .ok (.goto (-98), 3)) ∧ (decode cX10_laysPrices 117 = .ok (.iinc 1 1, 3)) := by decide +kernel
theorem dX10_laysPrices_82 : decode cX10_laysPrices 82 = .ok (.aload_n 0, 1) := da9_dX10_laysPrices_82.1
theorem dX10_laysPrices_83 : decode cX10_laysPrices 83 = .ok (.iconst 2, 1) := da9_dX10_laysPrices_82.2.1
theorem dX10_laysPrices_84 : decode cX10_laysPrices 84 = .ok (.invokevirtual 159, 3) := da9_dX10_laysPrices_82.2.2.1
theorem dX10_laysPrices_87 : decode cX10_laysPrices 87 = .ok (.ifCond .eq 7, 3) := da9_dX10_laysPrices_82.2.2.2.1
theorem dX10_laysPrices_90 : decode cX10_laysPrices 90 = .ok (.iconst (-1), 1) := da9_dX10_laysPrices_82.2.2.2.2.1
theorem dX10_laysPrices_91 : decode cX10_laysPrices 91 = .ok (.goto 7, 3) := da9_dX10_laysPrices_82.2.2.2.2.2.1
theorem dX10_laysPrices_94 : decode cX10_laysPrices 94 = .ok (.aload_n 0, 1) := da9_dX10_laysPrices_82.2.2.2.2.2.2.1
theorem dX10_laysPrices_95 : decode cX10_laysPrices 95 = .ok (.invokevirtual 156, 3) := da9_dX10_laysPrices_82.2.2.2.2.2.2.2.1
theorem dX10_laysPrices_98 : decode cX10_laysPrices 98 = .ok (.iastore, 1) := da9_dX10_laysPrices_82.2.2.2.2.2.2.2.2.1
theorem dX10_laysPrices_99 : decode cX10_laysPrices 99 = .ok (.iinc 4 1, 3) := da9_dX10_laysPrices_82.2.2.2.2.2.2.2.2.2.1
theorem dX10_laysPrices_102 : decode cX10_laysPrices 102 = .ok (.goto (-65), 3) := da9_dX10_laysPrices_82.2.2.2.2.2.2.2.2.2.2.1
theorem dX10_laysPrices_105 : decode cX10_laysPrices 105 = .ok (.iinc 3 1, 3) := da9_dX10_laysPrices_82.2.2.2.2.2.2.2.2.2.2.2.1
theorem dX10_laysPrices_108 : decode cX10_laysPrices 108 = .ok (.goto (-82), 3) := da9_dX10_laysPrices_82.2.2.2.2.2.2.2.2.2.2.2.2.1
theorem dX10_laysPrices_111 : decode cX10_laysPrices 111 = .ok (.iinc 2 1, 3) := da9_dX10_laysPrices_82.2.2.2.2.2.2.2.2.2.2.2.2.2.1
theorem dX10_laysPrices_114 : decode cX10_laysPrices 114 = .ok (.goto (-98), 3) := da9_dX10_laysPrices_82.2.2.2.2.2.2.2.2.2.2.2.2.2.2.1
theorem dX10_laysPrices_117 : decode cX10_laysPrices 117 = .ok (.iinc 1 1, 3) := da9_dX10_laysPrices_82.2.2.2.2.2.2.2.2.2.2.2.2.2.2.2
theorem da9_dX10_laysPrices_120 : (decode cX10_laysPrices 120 = .ok (.goto (-114), 3)) ∧ (decode cX10_laysPrices 123 = .ok (.return_, 1)) := by decide +kernel
theorem dX10_laysPrices_120 : decode cX10_laysPrices 120 = .ok (.goto (-114), 3) := da9_dX10_laysPrices_120.1
theorem dX10_laysPrices_123 : decode cX10_laysPrices 123 = .ok (.return_, 1) := da9_dX10_laysPrices_120.2
set_option maxRecDepth 20000 in
theorem ggX10_priceOf_X10_size : GoodIn wsX10_priceOf wsX10_size := goodIn_r _ [7, 8, 12, 13, 14, 15, 16, 17, 18, 19, 20, 21, 22, 23, 24, 25, 26, 27, 28, 29, 30, 31, 32, 33, 34, 35, 36, 37, 38, 39, 40, 41, 42, 43, 44, 45, 46, 47, 48, 49, 50, 51, 52, 53, 54, 55, 56, 57, 58, 59, 60, 61, 62, 63, 64, 65, 66, 67] rfl (by decide +kernel)
set_option maxRecDepth 20000 in
theorem gX10_priceOf_X10_size : GoodIn wsX10_priceOf (wsV RX10 125 RX10 yX10_size wsX10_size) := goodIn_app (goodIn_of _ (by decide +kernel)) ggX10_priceOf_X10_size
set_option maxRecDepth 20000 in
theorem ggX10_priceOf_X10_askedAt : GoodIn wsX10_priceOf wsX10_askedAt := goodIn_r _ [11] rfl (by decide +kernel)
set_option maxRecDepth 20000 in
theorem gX10_priceOf_X10_askedAt : GoodIn wsX10_priceOf (va_wsS RX10 410 yX10_askedAt wsX10_askedAt) := goodIn_app (goodIn_of _ (by decide +kernel)) ggX10_priceOf_X10_askedAt
theorem da9_dX10_priceOf_0 : (decode cX10_priceOf 0 = .ok (.bipush 6, 2)) ∧ (decode cX10_priceOf 2 = .ok (.iload_n 1, 1)) ∧ (decode cX10_priceOf 3 = .ok (.bipush 64, 2)) ∧ (decode cX10_priceOf 5 = .ok (.idiv, 1)) ∧ (decode cX10_priceOf 6 = .ok (.imul, 1)) ∧ (decode cX10_priceOf 7 = .ok (.istore_n 3, 1)) ∧ (decode cX10_priceOf 8 = .ok (.aload_n 0, 1)) ∧ (decode cX10_priceOf 9 = .ok (.getfield 87, 3)) ∧ (decode cX10_priceOf 12 = .ok (.iload_n 2, 1)) ∧ (decode cX10_priceOf 13 = .ok (.aload_n 0, 1)) ∧ (decode cX10_priceOf 14 = .ok (.getfield 75, 3)) ∧ (decode cX10_priceOf 17 = .ok (.iload_n 3, 1)) ∧ (decode cX10_priceOf 18 = .ok (.iaload, 1)) ∧ (decode cX10_priceOf 19 = .ok (.iload_n 2, 1)) ∧ (decode cX10_priceOf 20 = .ok (.aload_n 0, 1)) ∧ (decode cX10_priceOf 21 = .ok (.invokevirtual 125, 3)) := by decide +kernel
theorem dX10_priceOf_0 : decode cX10_priceOf 0 = .ok (.bipush 6, 2) := da9_dX10_priceOf_0.1
theorem dX10_priceOf_2 : decode cX10_priceOf 2 = .ok (.iload_n 1, 1) := da9_dX10_priceOf_0.2.1
theorem dX10_priceOf_3 : decode cX10_priceOf 3 = .ok (.bipush 64, 2) := da9_dX10_priceOf_0.2.2.1
theorem dX10_priceOf_5 : decode cX10_priceOf 5 = .ok (.idiv, 1) := da9_dX10_priceOf_0.2.2.2.1
theorem dX10_priceOf_6 : decode cX10_priceOf 6 = .ok (.imul, 1) := da9_dX10_priceOf_0.2.2.2.2.1
theorem dX10_priceOf_7 : decode cX10_priceOf 7 = .ok (.istore_n 3, 1) := da9_dX10_priceOf_0.2.2.2.2.2.1
theorem dX10_priceOf_8 : decode cX10_priceOf 8 = .ok (.aload_n 0, 1) := da9_dX10_priceOf_0.2.2.2.2.2.2.1
theorem dX10_priceOf_9 : decode cX10_priceOf 9 = .ok (.getfield 87, 3) := da9_dX10_priceOf_0.2.2.2.2.2.2.2.1
theorem dX10_priceOf_12 : decode cX10_priceOf 12 = .ok (.iload_n 2, 1) := da9_dX10_priceOf_0.2.2.2.2.2.2.2.2.1
theorem dX10_priceOf_13 : decode cX10_priceOf 13 = .ok (.aload_n 0, 1) := da9_dX10_priceOf_0.2.2.2.2.2.2.2.2.2.1
theorem dX10_priceOf_14 : decode cX10_priceOf 14 = .ok (.getfield 75, 3) := da9_dX10_priceOf_0.2.2.2.2.2.2.2.2.2.2.1
theorem dX10_priceOf_17 : decode cX10_priceOf 17 = .ok (.iload_n 3, 1) := da9_dX10_priceOf_0.2.2.2.2.2.2.2.2.2.2.2.1
theorem dX10_priceOf_18 : decode cX10_priceOf 18 = .ok (.iaload, 1) := da9_dX10_priceOf_0.2.2.2.2.2.2.2.2.2.2.2.2.1
theorem dX10_priceOf_19 : decode cX10_priceOf 19 = .ok (.iload_n 2, 1) := da9_dX10_priceOf_0.2.2.2.2.2.2.2.2.2.2.2.2.2.1
theorem dX10_priceOf_20 : decode cX10_priceOf 20 = .ok (.aload_n 0, 1) := da9_dX10_priceOf_0.2.2.2.2.2.2.2.2.2.2.2.2.2.2.1
theorem dX10_priceOf_21 : decode cX10_priceOf 21 = .ok (.invokevirtual 125, 3) := da9_dX10_priceOf_0.2.2.2.2.2.2.2.2.2.2.2.2.2.2.2
theorem da9_dX10_priceOf_24 : (decode cX10_priceOf 24 = .ok (.if_icmp .ge 16, 3)) ∧ (decode cX10_priceOf 27 = .ok (.iconst 1, 1)) ∧ (decode cX10_priceOf 28 = .ok (.aload_n 0, 1)) ∧ (decode cX10_priceOf 29 = .ok (.getfield 75, 3)) ∧ (decode cX10_priceOf 32 = .ok (.iload_n 3, 1)) ∧ (decode cX10_priceOf 33 = .ok (.iload_n 2, 1)) ∧ (decode cX10_priceOf 34 = .ok (.iadd, 1)) ∧ (decode cX10_priceOf 35 = .ok (.iaload, 1)) ∧ (decode cX10_priceOf 36 = .ok (.iadd, 1)) ∧ (decode cX10_priceOf 37 = .ok (.goto 4, 3)) ∧ (decode cX10_priceOf 40 = .ok (.iconst 0, 1)) ∧ (decode cX10_priceOf 41 = .ok (.iload_n 1, 1)) ∧ (decode cX10_priceOf 42 = .ok (.iconst 2, 1)) ∧ (decode cX10_priceOf 43 = .ok (.irem, 1)) ∧ (decode cX10_priceOf 44 = .ok (.invokestatic 410, 3)) ∧ (decode cX10_priceOf 47 = .ok (.iaload, 1)) := by decide +kernel
theorem dX10_priceOf_24 : decode cX10_priceOf 24 = .ok (.if_icmp .ge 16, 3) := da9_dX10_priceOf_24.1
theorem dX10_priceOf_27 : decode cX10_priceOf 27 = .ok (.iconst 1, 1) := da9_dX10_priceOf_24.2.1
theorem dX10_priceOf_28 : decode cX10_priceOf 28 = .ok (.aload_n 0, 1) := da9_dX10_priceOf_24.2.2.1
theorem dX10_priceOf_29 : decode cX10_priceOf 29 = .ok (.getfield 75, 3) := da9_dX10_priceOf_24.2.2.2.1
theorem dX10_priceOf_32 : decode cX10_priceOf 32 = .ok (.iload_n 3, 1) := da9_dX10_priceOf_24.2.2.2.2.1
theorem dX10_priceOf_33 : decode cX10_priceOf 33 = .ok (.iload_n 2, 1) := da9_dX10_priceOf_24.2.2.2.2.2.1
theorem dX10_priceOf_34 : decode cX10_priceOf 34 = .ok (.iadd, 1) := da9_dX10_priceOf_24.2.2.2.2.2.2.1
theorem dX10_priceOf_35 : decode cX10_priceOf 35 = .ok (.iaload, 1) := da9_dX10_priceOf_24.2.2.2.2.2.2.2.1
theorem dX10_priceOf_36 : decode cX10_priceOf 36 = .ok (.iadd, 1) := da9_dX10_priceOf_24.2.2.2.2.2.2.2.2.1
theorem dX10_priceOf_37 : decode cX10_priceOf 37 = .ok (.goto 4, 3) := da9_dX10_priceOf_24.2.2.2.2.2.2.2.2.2.1
theorem dX10_priceOf_40 : decode cX10_priceOf 40 = .ok (.iconst 0, 1) := da9_dX10_priceOf_24.2.2.2.2.2.2.2.2.2.2.1
theorem dX10_priceOf_41 : decode cX10_priceOf 41 = .ok (.iload_n 1, 1) := da9_dX10_priceOf_24.2.2.2.2.2.2.2.2.2.2.2.1
theorem dX10_priceOf_42 : decode cX10_priceOf 42 = .ok (.iconst 2, 1) := da9_dX10_priceOf_24.2.2.2.2.2.2.2.2.2.2.2.2.1
theorem dX10_priceOf_43 : decode cX10_priceOf 43 = .ok (.irem, 1) := da9_dX10_priceOf_24.2.2.2.2.2.2.2.2.2.2.2.2.2.1
theorem dX10_priceOf_44 : decode cX10_priceOf 44 = .ok (.invokestatic 410, 3) := da9_dX10_priceOf_24.2.2.2.2.2.2.2.2.2.2.2.2.2.2.1
theorem dX10_priceOf_47 : decode cX10_priceOf 47 = .ok (.iaload, 1) := da9_dX10_priceOf_24.2.2.2.2.2.2.2.2.2.2.2.2.2.2.2
theorem dX10_priceOf_48 : decode cX10_priceOf 48 = .ok (.ireturn, 1) := by decide +kernel
theorem da9_dX10_isThere_0 : (decode cX10_isThere 0 = .ok (.iload_n 1, 1)) ∧ (decode cX10_isThere 1 = .ok (.bipush 64, 2)) ∧ (decode cX10_isThere 3 = .ok (.irem, 1)) ∧ (decode cX10_isThere 4 = .ok (.aload_n 0, 1)) ∧ (decode cX10_isThere 5 = .ok (.getfield 389, 3)) ∧ (decode cX10_isThere 8 = .ok (.if_icmp .ge 18, 3)) ∧ (decode cX10_isThere 11 = .ok (.iload_n 1, 1)) ∧ (decode cX10_isThere 12 = .ok (.bipush 64, 2)) ∧ (decode cX10_isThere 14 = .ok (.idiv, 1)) ∧ (decode cX10_isThere 15 = .ok (.aload_n 0, 1)) ∧ (decode cX10_isThere 16 = .ok (.getfield 386, 3)) ∧ (decode cX10_isThere 19 = .ok (.if_icmp .ge 7, 3)) ∧ (decode cX10_isThere 22 = .ok (.iconst 1, 1)) ∧ (decode cX10_isThere 23 = .ok (.goto 4, 3)) ∧ (decode cX10_isThere 26 = .ok (.iconst 0, 1)) ∧ (decode cX10_isThere 27 = .ok (.ireturn, 1)) := by decide +kernel
theorem dX10_isThere_0 : decode cX10_isThere 0 = .ok (.iload_n 1, 1) := da9_dX10_isThere_0.1
theorem dX10_isThere_1 : decode cX10_isThere 1 = .ok (.bipush 64, 2) := da9_dX10_isThere_0.2.1
theorem dX10_isThere_3 : decode cX10_isThere 3 = .ok (.irem, 1) := da9_dX10_isThere_0.2.2.1
theorem dX10_isThere_4 : decode cX10_isThere 4 = .ok (.aload_n 0, 1) := da9_dX10_isThere_0.2.2.2.1
theorem dX10_isThere_5 : decode cX10_isThere 5 = .ok (.getfield 389, 3) := da9_dX10_isThere_0.2.2.2.2.1
theorem dX10_isThere_8 : decode cX10_isThere 8 = .ok (.if_icmp .ge 18, 3) := da9_dX10_isThere_0.2.2.2.2.2.1
theorem dX10_isThere_11 : decode cX10_isThere 11 = .ok (.iload_n 1, 1) := da9_dX10_isThere_0.2.2.2.2.2.2.1
theorem dX10_isThere_12 : decode cX10_isThere 12 = .ok (.bipush 64, 2) := da9_dX10_isThere_0.2.2.2.2.2.2.2.1
theorem dX10_isThere_14 : decode cX10_isThere 14 = .ok (.idiv, 1) := da9_dX10_isThere_0.2.2.2.2.2.2.2.2.1
theorem dX10_isThere_15 : decode cX10_isThere 15 = .ok (.aload_n 0, 1) := da9_dX10_isThere_0.2.2.2.2.2.2.2.2.2.1
theorem dX10_isThere_16 : decode cX10_isThere 16 = .ok (.getfield 386, 3) := da9_dX10_isThere_0.2.2.2.2.2.2.2.2.2.2.1
theorem dX10_isThere_19 : decode cX10_isThere 19 = .ok (.if_icmp .ge 7, 3) := da9_dX10_isThere_0.2.2.2.2.2.2.2.2.2.2.2.1
theorem dX10_isThere_22 : decode cX10_isThere 22 = .ok (.iconst 1, 1) := da9_dX10_isThere_0.2.2.2.2.2.2.2.2.2.2.2.2.1
theorem dX10_isThere_23 : decode cX10_isThere 23 = .ok (.goto 4, 3) := da9_dX10_isThere_0.2.2.2.2.2.2.2.2.2.2.2.2.2.1
theorem dX10_isThere_26 : decode cX10_isThere 26 = .ok (.iconst 0, 1) := da9_dX10_isThere_0.2.2.2.2.2.2.2.2.2.2.2.2.2.2.1
theorem dX10_isThere_27 : decode cX10_isThere 27 = .ok (.ireturn, 1) := da9_dX10_isThere_0.2.2.2.2.2.2.2.2.2.2.2.2.2.2.2
theorem da9_dX10_isOrdered_0 : (decode cX10_isOrdered 0 = .ok (.iload_n 1, 1)) ∧ (decode cX10_isOrdered 1 = .ok (.bipush 64, 2)) ∧ (decode cX10_isOrdered 3 = .ok (.idiv, 1)) ∧ (decode cX10_isOrdered 4 = .ok (.ifCond .ne 24, 3)) ∧ (decode cX10_isOrdered 7 = .ok (.aload_n 0, 1)) ∧ (decode cX10_isOrdered 8 = .ok (.getfield 28, 3)) ∧ (decode cX10_isOrdered 11 = .ok (.bipush 28, 2)) ∧ (decode cX10_isOrdered 13 = .ok (.iaload, 1)) ∧ (decode cX10_isOrdered 14 = .ok (.ifCond .eq 10, 3)) ∧ (decode cX10_isOrdered 17 = .ok (.iload_n 1, 1)) ∧ (decode cX10_isOrdered 18 = .ok (.bipush 64, 2)) ∧ (decode cX10_isOrdered 20 = .ok (.irem, 1)) ∧ (decode cX10_isOrdered 21 = .ok (.ifCond .ne 7, 3)) ∧ (decode cX10_isOrdered 24 = .ok (.iconst 1, 1)) ∧ (decode cX10_isOrdered 25 = .ok (.goto 4, 3)) ∧ (decode cX10_isOrdered 28 = .ok (.iconst 0, 1)) := by decide +kernel
theorem dX10_isOrdered_0 : decode cX10_isOrdered 0 = .ok (.iload_n 1, 1) := da9_dX10_isOrdered_0.1
theorem dX10_isOrdered_1 : decode cX10_isOrdered 1 = .ok (.bipush 64, 2) := da9_dX10_isOrdered_0.2.1
theorem dX10_isOrdered_3 : decode cX10_isOrdered 3 = .ok (.idiv, 1) := da9_dX10_isOrdered_0.2.2.1
theorem dX10_isOrdered_4 : decode cX10_isOrdered 4 = .ok (.ifCond .ne 24, 3) := da9_dX10_isOrdered_0.2.2.2.1
theorem dX10_isOrdered_7 : decode cX10_isOrdered 7 = .ok (.aload_n 0, 1) := da9_dX10_isOrdered_0.2.2.2.2.1
theorem dX10_isOrdered_8 : decode cX10_isOrdered 8 = .ok (.getfield 28, 3) := da9_dX10_isOrdered_0.2.2.2.2.2.1
theorem dX10_isOrdered_11 : decode cX10_isOrdered 11 = .ok (.bipush 28, 2) := da9_dX10_isOrdered_0.2.2.2.2.2.2.1
theorem dX10_isOrdered_13 : decode cX10_isOrdered 13 = .ok (.iaload, 1) := da9_dX10_isOrdered_0.2.2.2.2.2.2.2.1
theorem dX10_isOrdered_14 : decode cX10_isOrdered 14 = .ok (.ifCond .eq 10, 3) := da9_dX10_isOrdered_0.2.2.2.2.2.2.2.2.1
theorem dX10_isOrdered_17 : decode cX10_isOrdered 17 = .ok (.iload_n 1, 1) := da9_dX10_isOrdered_0.2.2.2.2.2.2.2.2.2.1
theorem dX10_isOrdered_18 : decode cX10_isOrdered 18 = .ok (.bipush 64, 2) := da9_dX10_isOrdered_0.2.2.2.2.2.2.2.2.2.2.1
theorem dX10_isOrdered_20 : decode cX10_isOrdered 20 = .ok (.irem, 1) := da9_dX10_isOrdered_0.2.2.2.2.2.2.2.2.2.2.2.1
theorem dX10_isOrdered_21 : decode cX10_isOrdered 21 = .ok (.ifCond .ne 7, 3) := da9_dX10_isOrdered_0.2.2.2.2.2.2.2.2.2.2.2.2.1
theorem dX10_isOrdered_24 : decode cX10_isOrdered 24 = .ok (.iconst 1, 1) := da9_dX10_isOrdered_0.2.2.2.2.2.2.2.2.2.2.2.2.2.1
theorem dX10_isOrdered_25 : decode cX10_isOrdered 25 = .ok (.goto 4, 3) := da9_dX10_isOrdered_0.2.2.2.2.2.2.2.2.2.2.2.2.2.2.1
theorem dX10_isOrdered_28 : decode cX10_isOrdered 28 = .ok (.iconst 0, 1) := da9_dX10_isOrdered_0.2.2.2.2.2.2.2.2.2.2.2.2.2.2.2
theorem dX10_isOrdered_29 : decode cX10_isOrdered 29 = .ok (.ireturn, 1) := by decide +kernel
