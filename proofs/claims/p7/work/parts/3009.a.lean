set_option maxRecDepth 20000 in
theorem ggX10_swapsKept_X10_lies : GoodIn wsX10_swapsKept wsX10_lies := goodIn_r _ [5] rfl (by decide +kernel)
set_option maxRecDepth 20000 in
theorem gX10_swapsKept_X10_lies : GoodIn wsX10_swapsKept (va_wsS RX10 18 yX10_lies wsX10_lies) := goodIn_app (goodIn_of _ (by decide +kernel)) ggX10_swapsKept_X10_lies
set_option maxRecDepth 20000 in
theorem ggX10_swapsKept_X10_isPlace : GoodIn wsX10_swapsKept wsX10_isPlace := goodIn_r _ [9, 10, 11, 12, 4, 13, 1, 2, 3, 5, 24, 25, 26, 27, 28, 29, 30, 31, 32, 33, 34, 35, 36, 37, 38, 39, 40, 41, 42, 43, 44, 45, 46, 47, 48, 49, 50, 51, 52, 53, 54, 55, 56, 57, 58, 59, 60, 61, 62, 63, 64, 65, 66, 67, 68, 69, 70, 71, 72, 73, 74, 75, 76, 77, 78, 79] rfl (by decide +kernel)
set_option maxRecDepth 20000 in
theorem gX10_swapsKept_X10_isPlace : GoodIn wsX10_swapsKept (wsV RX10 143 RX10 yX10_isPlace wsX10_isPlace) := goodIn_app (goodIn_of _ (by decide +kernel)) ggX10_swapsKept_X10_isPlace
set_option maxRecDepth 20000 in
theorem ggX10_swapsKept_X10_keeps : GoodIn wsX10_swapsKept wsX10_keeps := goodIn_r _ [17, 18, 19, 1, 24, 25, 26, 27, 28, 29, 30, 31, 32, 33, 34, 35, 36, 37, 38, 39, 40, 41, 42, 43, 44, 45, 46, 47, 48, 49, 50, 51, 52, 53, 54, 55, 56, 57, 58, 59, 60, 61, 62, 63, 64, 65, 66, 67, 68, 69, 70, 71, 72, 73, 74, 75, 76, 77, 78, 79] rfl (by decide +kernel)
set_option maxRecDepth 20000 in
theorem gX10_swapsKept_X10_keeps : GoodIn wsX10_swapsKept (wsV RX10 356 RX10 yX10_keeps wsX10_keeps) := goodIn_app (goodIn_of _ (by decide +kernel)) ggX10_swapsKept_X10_keeps
set_option maxRecDepth 20000 in
theorem ggX10_swapsKept_X10_exchanges : GoodIn wsX10_swapsKept wsX10_exchanges := goodIn_r _ [23, 1, 24, 25, 26, 27, 28, 29, 30, 31, 32, 33, 34, 35, 36, 37, 38, 39, 40, 41, 42, 43, 44, 45, 46, 47, 48, 49, 50, 51, 52, 53, 54, 55, 56, 57, 58, 59, 60, 61, 62, 63, 64, 65, 66, 67, 68, 69, 70, 71, 72, 73, 74, 75, 76, 77, 78, 79] rfl (by decide +kernel)
set_option maxRecDepth 20000 in
theorem gX10_swapsKept_X10_exchanges : GoodIn wsX10_swapsKept (wsV RX10 347 RX10 yX10_exchanges wsX10_exchanges) := goodIn_app (goodIn_of _ (by decide +kernel)) ggX10_swapsKept_X10_exchanges
theorem dX10_swapsKept_0 : decode cX10_swapsKept 0 = .ok (.iload_n 1, 1) := by decide +kernel
theorem dX10_swapsKept_1 : decode cX10_swapsKept 1 = .ok (.iconst 0, 1) := by decide +kernel
theorem dX10_swapsKept_2 : decode cX10_swapsKept 2 = .ok (.iconst 4, 1) := by decide +kernel
theorem dX10_swapsKept_3 : decode cX10_swapsKept 3 = .ok (.invokestatic 18, 3) := by decide +kernel
theorem dX10_swapsKept_6 : decode cX10_swapsKept 6 = .ok (.ifCond .ne 5, 3) := by decide +kernel
theorem dX10_swapsKept_9 : decode cX10_swapsKept 9 = .ok (.iconst (-1), 1) := by decide +kernel
theorem dX10_swapsKept_10 : decode cX10_swapsKept 10 = .ok (.ireturn, 1) := by decide +kernel
theorem dX10_swapsKept_11 : decode cX10_swapsKept 11 = .ok (.aload_n 0, 1) := by decide +kernel
theorem dX10_swapsKept_12 : decode cX10_swapsKept 12 = .ok (.iload_n 1, 1) := by decide +kernel
theorem dX10_swapsKept_13 : decode cX10_swapsKept 13 = .ok (.iconst 1, 1) := by decide +kernel
theorem dX10_swapsKept_14 : decode cX10_swapsKept 14 = .ok (.iadd, 1) := by decide +kernel
theorem dX10_swapsKept_15 : decode cX10_swapsKept 15 = .ok (.invokevirtual 143, 3) := by decide +kernel
theorem dX10_swapsKept_18 : decode cX10_swapsKept 18 = .ok (.ifCond .ne 6, 3) := by decide +kernel
theorem dX10_swapsKept_21 : decode cX10_swapsKept 21 = .ok (.bipush (-3), 2) := by decide +kernel
theorem dX10_swapsKept_23 : decode cX10_swapsKept 23 = .ok (.ireturn, 1) := by decide +kernel
theorem dX10_swapsKept_24 : decode cX10_swapsKept 24 = .ok (.aload_n 0, 1) := by decide +kernel
theorem dX10_swapsKept_25 : decode cX10_swapsKept 25 = .ok (.iconst 2, 1) := by decide +kernel
theorem dX10_swapsKept_26 : decode cX10_swapsKept 26 = .ok (.invokevirtual 356, 3) := by decide +kernel
theorem dX10_swapsKept_29 : decode cX10_swapsKept 29 = .ok (.aload_n 0, 1) := by decide +kernel
theorem dX10_swapsKept_30 : decode cX10_swapsKept 30 = .ok (.iload_n 1, 1) := by decide +kernel
theorem dX10_swapsKept_31 : decode cX10_swapsKept 31 = .ok (.iload_n 1, 1) := by decide +kernel
theorem dX10_swapsKept_32 : decode cX10_swapsKept 32 = .ok (.iconst 1, 1) := by decide +kernel
theorem dX10_swapsKept_33 : decode cX10_swapsKept 33 = .ok (.iadd, 1) := by decide +kernel
theorem dX10_swapsKept_34 : decode cX10_swapsKept 34 = .ok (.invokevirtual 347, 3) := by decide +kernel
theorem dX10_swapsKept_37 : decode cX10_swapsKept 37 = .ok (.aload_n 0, 1) := by decide +kernel
theorem dX10_swapsKept_38 : decode cX10_swapsKept 38 = .ok (.getfield 28, 3) := by decide +kernel
theorem dX10_swapsKept_41 : decode cX10_swapsKept 41 = .ok (.iconst 0, 1) := by decide +kernel
theorem dX10_swapsKept_42 : decode cX10_swapsKept 42 = .ok (.iload_n 1, 1) := by decide +kernel
theorem dX10_swapsKept_43 : decode cX10_swapsKept 43 = .ok (.iadd, 1) := by decide +kernel
theorem dX10_swapsKept_44 : decode cX10_swapsKept 44 = .ok (.iaload, 1) := by decide +kernel
theorem dX10_swapsKept_45 : decode cX10_swapsKept 45 = .ok (.ireturn, 1) := by decide +kernel
set_option maxRecDepth 20000 in
theorem ggX10_passesKept_X10_keeps : GoodIn wsX10_passesKept wsX10_keeps := goodIn_r _ [6, 7, 8, 1, 110, 111, 112, 113, 114, 115, 116, 117, 118, 119, 120, 121, 122, 123, 124, 125, 126, 127, 128, 129, 130, 131, 132, 133, 134, 135, 136, 137, 138, 139, 140, 141, 142, 143, 144, 145, 146, 147, 148, 149, 150, 151, 152, 153, 154, 155, 156, 157, 158, 159, 160, 161, 162, 163, 164, 165] rfl (by decide +kernel)
set_option maxRecDepth 20000 in
theorem gX10_passesKept_X10_keeps : GoodIn wsX10_passesKept (wsV RX10 356 RX10 yX10_keeps wsX10_keeps) := goodIn_app (goodIn_of _ (by decide +kernel)) ggX10_passesKept_X10_keeps
set_option maxRecDepth 20000 in
theorem ggX10_passesKept_X10_yearPasses : GoodIn wsX10_passesKept wsX10_yearPasses := goodIn_r _ [12, 13, 1, 14, 15, 16, 5, 17, 18, 19, 20, 21, 22, 23, 24, 25, 26, 27, 28, 29, 30, 31, 32, 33, 34, 35, 36, 37, 38, 39, 40, 41, 42, 43, 44, 45, 46, 47, 48, 49, 50, 51, 52, 53, 54, 55, 56, 57, 58, 59, 60, 61, 62, 63, 64, 65, 66, 67, 68, 69, 70, 71, 72, 73, 74, 75, 76, 77, 78, 79, 80, 81, 82, 83, 84, 85, 86, 87, 88, 89, 90, 91, 92, 93, 94, 95, 96, 97, 98, 99, 100, 101, 102, 103, 104, 105, 106, 107, 108, 109, 110, 111, 112, 113, 114, 115, 116, 117, 118, 119, 120, 121, 122, 123, 124, 125, 126, 127, 128, 129, 130, 131, 132, 133, 134, 135, 136, 137, 138, 139, 140, 141, 142, 143, 144, 145, 146, 147, 148, 149, 150, 151, 152, 153, 154, 155, 156, 157, 158, 159, 160, 161, 162, 163, 164, 165] rfl (by decide +kernel)
set_option maxRecDepth 20000 in
theorem gX10_passesKept_X10_yearPasses : GoodIn wsX10_passesKept (wsV RX10 362 RX10 yX10_yearPasses wsX10_yearPasses) := goodIn_app (goodIn_of _ (by decide +kernel)) ggX10_passesKept_X10_yearPasses
theorem dX10_passesKept_0 : decode cX10_passesKept 0 = .ok (.aload_n 0, 1) := by decide +kernel
theorem dX10_passesKept_1 : decode cX10_passesKept 1 = .ok (.getfield 28, 3) := by decide +kernel
theorem dX10_passesKept_4 : decode cX10_passesKept 4 = .ok (.bipush 13, 2) := by decide +kernel
theorem dX10_passesKept_6 : decode cX10_passesKept 6 = .ok (.iaload, 1) := by decide +kernel
theorem dX10_passesKept_7 : decode cX10_passesKept 7 = .ok (.sipush 999, 3) := by decide +kernel
theorem dX10_passesKept_10 : decode cX10_passesKept 10 = .ok (.if_icmp .ne 6, 3) := by decide +kernel
theorem dX10_passesKept_13 : decode cX10_passesKept 13 = .ok (.bipush (-3), 2) := by decide +kernel
theorem dX10_passesKept_15 : decode cX10_passesKept 15 = .ok (.ireturn, 1) := by decide +kernel
theorem dX10_passesKept_16 : decode cX10_passesKept 16 = .ok (.aload_n 0, 1) := by decide +kernel
theorem dX10_passesKept_17 : decode cX10_passesKept 17 = .ok (.iconst 3, 1) := by decide +kernel
theorem dX10_passesKept_18 : decode cX10_passesKept 18 = .ok (.invokevirtual 356, 3) := by decide +kernel
theorem dX10_passesKept_21 : decode cX10_passesKept 21 = .ok (.aload_n 0, 1) := by decide +kernel
theorem dX10_passesKept_22 : decode cX10_passesKept 22 = .ok (.invokevirtual 362, 3) := by decide +kernel
theorem dX10_passesKept_25 : decode cX10_passesKept 25 = .ok (.ireturn, 1) := by decide +kernel
set_option maxRecDepth 20000 in
theorem ggX10_turn_X10_turnsKept : GoodIn wsX10_turn wsX10_turnsKept := goodIn_r _ [5, 6, 7, 4, 8, 9, 10, 11, 12, 13, 14, 15, 16, 17, 18, 19, 20, 21, 22, 23, 24, 25, 26, 27, 28, 29, 30, 31, 32, 33, 34, 35, 36, 37, 38, 39, 40, 41, 42, 43, 44, 45, 46, 47, 48, 49, 50, 51, 52, 53, 54, 55, 56, 57, 58, 59, 60, 61, 62, 63, 64, 65, 66, 67, 68, 69, 70, 71, 72, 73, 74, 75, 76, 77, 78, 79, 80, 81, 82, 83, 84, 85, 86, 87, 88, 89, 90, 91, 92, 93, 94, 95, 96, 97, 98, 99, 100, 101, 102, 103, 104, 105, 106, 107, 108, 109, 110, 111, 112, 113, 114, 115, 116, 117, 118, 119, 120, 121, 122, 123, 124, 125, 126, 127, 142, 143, 144, 145, 146, 147, 148, 149, 150, 151, 152, 153, 154, 155, 156, 157, 158, 159, 160, 161, 162, 163, 164, 165, 166, 167, 168, 169, 170, 171, 172, 173, 174, 175, 176, 177, 178, 179, 180, 181, 182, 183, 184, 185, 186, 187, 188, 189, 190, 191, 192, 193, 194, 195, 196, 197] rfl (by decide +kernel)
set_option maxRecDepth 20000 in
theorem gX10_turn_X10_turnsKept : GoodIn wsX10_turn (wsV RX10 365 RX10 yX10_turnsKept wsX10_turnsKept) := goodIn_app (goodIn_of _ (by decide +kernel)) ggX10_turn_X10_turnsKept
set_option maxRecDepth 20000 in
theorem ggX10_turn_X10_goodOr : GoodIn wsX10_turn wsX10_goodOr := goodIn_r _ [131, 132, 133, 134, 4, 135, 136, 137, 138, 139, 140, 141, 142, 143, 144, 145, 146, 147, 148, 149, 150, 151, 152, 153, 154, 155, 156, 157, 158, 159, 160, 161, 162, 163, 164, 165, 166, 167, 168, 169, 170, 171, 172, 173, 174, 175, 176, 177, 178, 179, 180, 181, 182, 183, 184, 185, 186, 187, 188, 189, 190, 191, 192, 193, 194, 195, 196, 197] rfl (by decide +kernel)
set_option maxRecDepth 20000 in
theorem gX10_turn_X10_goodOr : GoodIn wsX10_turn (wsV RX10 368 RX10 yX10_goodOr wsX10_goodOr) := goodIn_app (goodIn_of _ (by decide +kernel)) ggX10_turn_X10_goodOr
theorem dX10_turn_0 : decode cX10_turn 0 = .ok (.aload_n 0, 1) := by decide +kernel
theorem dX10_turn_1 : decode cX10_turn 1 = .ok (.aload_n 0, 1) := by decide +kernel
theorem dX10_turn_2 : decode cX10_turn 2 = .ok (.iload_n 1, 1) := by decide +kernel
theorem dX10_turn_3 : decode cX10_turn 3 = .ok (.invokevirtual 365, 3) := by decide +kernel
theorem dX10_turn_6 : decode cX10_turn 6 = .ok (.invokevirtual 368, 3) := by decide +kernel
theorem dX10_turn_9 : decode cX10_turn 9 = .ok (.ireturn, 1) := by decide +kernel
set_option maxRecDepth 20000 in
theorem ggX10_right_X10_rightsKept : GoodIn wsX10_right wsX10_rightsKept := goodIn_r _ [5, 6, 7, 8, 4, 9, 10, 11, 12, 13, 14, 15, 16, 17, 18, 19, 20, 21, 22, 23, 38, 39, 40, 41, 42, 43, 44, 45, 46, 47, 48, 49, 50, 51, 52, 53, 54, 55, 56, 57, 58, 59, 60, 61, 62, 63, 64, 65, 66, 67, 68, 69, 70, 71, 72, 73, 74, 75, 76, 77, 78, 79, 80, 81, 82, 83, 84, 85, 86, 87, 88, 89, 90, 91, 92, 93] rfl (by decide +kernel)
set_option maxRecDepth 20000 in
theorem gX10_right_X10_rightsKept : GoodIn wsX10_right (wsV RX10 371 RX10 yX10_rightsKept wsX10_rightsKept) := goodIn_app (goodIn_of _ (by decide +kernel)) ggX10_right_X10_rightsKept
set_option maxRecDepth 20000 in
theorem ggX10_right_X10_goodOr : GoodIn wsX10_right wsX10_goodOr := goodIn_r _ [27, 28, 29, 30, 4, 31, 32, 33, 34, 35, 36, 37, 38, 39, 40, 41, 42, 43, 44, 45, 46, 47, 48, 49, 50, 51, 52, 53, 54, 55, 56, 57, 58, 59, 60, 61, 62, 63, 64, 65, 66, 67, 68, 69, 70, 71, 72, 73, 74, 75, 76, 77, 78, 79, 80, 81, 82, 83, 84, 85, 86, 87, 88, 89, 90, 91, 92, 93] rfl (by decide +kernel)
set_option maxRecDepth 20000 in
theorem gX10_right_X10_goodOr : GoodIn wsX10_right (wsV RX10 368 RX10 yX10_goodOr wsX10_goodOr) := goodIn_app (goodIn_of _ (by decide +kernel)) ggX10_right_X10_goodOr
theorem dX10_right_0 : decode cX10_right 0 = .ok (.aload_n 0, 1) := by decide +kernel
theorem dX10_right_1 : decode cX10_right 1 = .ok (.aload_n 0, 1) := by decide +kernel
theorem dX10_right_2 : decode cX10_right 2 = .ok (.iload_n 1, 1) := by decide +kernel
theorem dX10_right_3 : decode cX10_right 3 = .ok (.invokevirtual 371, 3) := by decide +kernel
theorem dX10_right_6 : decode cX10_right 6 = .ok (.invokevirtual 368, 3) := by decide +kernel
theorem dX10_right_9 : decode cX10_right 9 = .ok (.ireturn, 1) := by decide +kernel
set_option maxRecDepth 20000 in
theorem ggX10_swap_X10_swapsKept : GoodIn wsX10_swap wsX10_swapsKept := goodIn_r _ [5, 6, 7, 8, 4, 9, 10, 11, 12, 13, 14, 15, 16, 17, 18, 19, 20, 21, 22, 23, 24, 25, 26, 27, 42, 43, 44, 45, 46, 47, 48, 49, 50, 51, 52, 53, 54, 55, 56, 57, 58, 59, 60, 61, 62, 63, 64, 65, 66, 67, 68, 69, 70, 71, 72, 73, 74, 75, 76, 77, 78, 79, 80, 81, 82, 83, 84, 85, 86, 87, 88, 89, 90, 91, 92, 93, 94, 95, 96, 97] rfl (by decide +kernel)
set_option maxRecDepth 20000 in
theorem gX10_swap_X10_swapsKept : GoodIn wsX10_swap (wsV RX10 374 RX10 yX10_swapsKept wsX10_swapsKept) := goodIn_app (goodIn_of _ (by decide +kernel)) ggX10_swap_X10_swapsKept
set_option maxRecDepth 20000 in
theorem ggX10_swap_X10_goodOr : GoodIn wsX10_swap wsX10_goodOr := goodIn_r _ [31, 32, 33, 34, 4, 35, 36, 37, 38, 39, 40, 41, 42, 43, 44, 45, 46, 47, 48, 49, 50, 51, 52, 53, 54, 55, 56, 57, 58, 59, 60, 61, 62, 63, 64, 65, 66, 67, 68, 69, 70, 71, 72, 73, 74, 75, 76, 77, 78, 79, 80, 81, 82, 83, 84, 85, 86, 87, 88, 89, 90, 91, 92, 93, 94, 95, 96, 97] rfl (by decide +kernel)
set_option maxRecDepth 20000 in
theorem gX10_swap_X10_goodOr : GoodIn wsX10_swap (wsV RX10 368 RX10 yX10_goodOr wsX10_goodOr) := goodIn_app (goodIn_of _ (by decide +kernel)) ggX10_swap_X10_goodOr
theorem dX10_swap_0 : decode cX10_swap 0 = .ok (.aload_n 0, 1) := by decide +kernel
theorem dX10_swap_1 : decode cX10_swap 1 = .ok (.aload_n 0, 1) := by decide +kernel
theorem dX10_swap_2 : decode cX10_swap 2 = .ok (.iload_n 1, 1) := by decide +kernel
theorem dX10_swap_3 : decode cX10_swap 3 = .ok (.invokevirtual 374, 3) := by decide +kernel
theorem dX10_swap_6 : decode cX10_swap 6 = .ok (.invokevirtual 368, 3) := by decide +kernel
theorem dX10_swap_9 : decode cX10_swap 9 = .ok (.ireturn, 1) := by decide +kernel
set_option maxRecDepth 20000 in
theorem ggX10_pass_X10_passesKept : GoodIn wsX10_pass wsX10_passesKept := goodIn_r _ [5, 6, 7, 8, 9, 4, 10, 11, 12, 13, 14, 15, 16, 17, 18, 19, 20, 21, 22, 23, 24, 25, 26, 27, 28, 29, 30, 31, 32, 33, 34, 35, 36, 37, 38, 39, 40, 41, 42, 43, 44, 45, 46, 47, 48, 49, 50, 51, 52, 53, 54, 55, 56, 57, 58, 59, 60, 61, 62, 63, 64, 65, 66, 67, 68, 69, 70, 71, 72, 73, 74, 75, 76, 77, 78, 79, 80, 81, 82, 83, 84, 85, 86, 87, 88, 89, 90, 91, 92, 93, 94, 95, 96, 97, 98, 99, 100, 101, 102, 103, 104, 105, 106, 107, 108, 109, 110, 111, 112, 113, 128, 129, 130, 131, 132, 133, 134, 135, 136, 137, 138, 139, 140, 141, 142, 143, 144, 145, 146, 147, 148, 149, 150, 151, 152, 153, 154, 155, 156, 157, 158, 159, 160, 161, 162, 163, 164, 165, 166, 167, 168, 169, 170, 171, 172, 173, 174, 175, 176, 177, 178, 179, 180, 181, 182, 183] rfl (by decide +kernel)
set_option maxRecDepth 20000 in
theorem gX10_pass_X10_passesKept : GoodIn wsX10_pass (wsV RX10 377 RX10 yX10_passesKept wsX10_passesKept) := goodIn_app (goodIn_of _ (by decide +kernel)) ggX10_pass_X10_passesKept
set_option maxRecDepth 20000 in
theorem ggX10_pass_X10_goodOr : GoodIn wsX10_pass wsX10_goodOr := goodIn_r _ [117, 118, 119, 120, 4, 121, 122, 123, 124, 125, 126, 127, 128, 129, 130, 131, 132, 133, 134, 135, 136, 137, 138, 139, 140, 141, 142, 143, 144, 145, 146, 147, 148, 149, 150, 151, 152, 153, 154, 155, 156, 157, 158, 159, 160, 161, 162, 163, 164, 165, 166, 167, 168, 169, 170, 171, 172, 173, 174, 175, 176, 177, 178, 179, 180, 181, 182, 183] rfl (by decide +kernel)
set_option maxRecDepth 20000 in
theorem gX10_pass_X10_goodOr : GoodIn wsX10_pass (wsV RX10 368 RX10 yX10_goodOr wsX10_goodOr) := goodIn_app (goodIn_of _ (by decide +kernel)) ggX10_pass_X10_goodOr
theorem dX10_pass_0 : decode cX10_pass 0 = .ok (.aload_n 0, 1) := by decide +kernel
theorem dX10_pass_1 : decode cX10_pass 1 = .ok (.aload_n 0, 1) := by decide +kernel
theorem dX10_pass_2 : decode cX10_pass 2 = .ok (.invokevirtual 377, 3) := by decide +kernel
theorem dX10_pass_5 : decode cX10_pass 5 = .ok (.invokevirtual 368, 3) := by decide +kernel
theorem dX10_pass_8 : decode cX10_pass 8 = .ok (.ireturn, 1) := by decide +kernel
theorem dX10_allOrders_0 : decode cX10_allOrders 0 = .ok (.iconst 1, 1) := by decide +kernel
theorem dX10_allOrders_1 : decode cX10_allOrders 1 = .ok (.istore_n 1, 1) := by decide +kernel
theorem dX10_allOrders_2 : decode cX10_allOrders 2 = .ok (.iconst 2, 1) := by decide +kernel
theorem dX10_allOrders_3 : decode cX10_allOrders 3 = .ok (.istore_n 2, 1) := by decide +kernel
theorem dX10_allOrders_4 : decode cX10_allOrders 4 = .ok (.iload_n 2, 1) := by decide +kernel
theorem dX10_allOrders_5 : decode cX10_allOrders 5 = .ok (.iload_n 0, 1) := by decide +kernel
theorem dX10_allOrders_6 : decode cX10_allOrders 6 = .ok (.if_icmp .gt 13, 3) := by decide +kernel
theorem dX10_allOrders_9 : decode cX10_allOrders 9 = .ok (.iload_n 1, 1) := by decide +kernel
theorem dX10_allOrders_10 : decode cX10_allOrders 10 = .ok (.iload_n 2, 1) := by decide +kernel
theorem dX10_allOrders_11 : decode cX10_allOrders 11 = .ok (.imul, 1) := by decide +kernel
theorem dX10_allOrders_12 : decode cX10_allOrders 12 = .ok (.istore_n 1, 1) := by decide +kernel
theorem dX10_allOrders_13 : decode cX10_allOrders 13 = .ok (.iinc 2 1, 3) := by decide +kernel
theorem dX10_allOrders_16 : decode cX10_allOrders 16 = .ok (.goto (-12), 3) := by decide +kernel
theorem dX10_allOrders_19 : decode cX10_allOrders 19 = .ok (.iload_n 1, 1) := by decide +kernel
theorem dX10_allOrders_20 : decode cX10_allOrders 20 = .ok (.ireturn, 1) := by decide +kernel
set_option maxRecDepth 20000 in
theorem ggX10_numberOf_X10_size : GoodIn wsX10_numberOf wsX10_size := goodIn_r _ [6, 7, 8, 9, 10, 11, 12, 13, 14, 15, 16, 17, 18, 19, 20, 21, 22, 23, 24, 25, 26, 27, 28, 29, 30, 31, 32, 33, 34, 35, 36, 37, 38, 39, 40, 41, 42, 43, 44, 45, 46, 47, 48, 49, 50, 51, 52, 53, 54, 55, 56, 57, 58, 59, 60, 61, 62, 63] rfl (by decide +kernel)
set_option maxRecDepth 20000 in
theorem gX10_numberOf_X10_size : GoodIn wsX10_numberOf (wsV RX10 125 RX10 yX10_size wsX10_size) := goodIn_app (goodIn_of _ (by decide +kernel)) ggX10_numberOf_X10_size
theorem dX10_numberOf_0 : decode cX10_numberOf 0 = .ok (.iconst 0, 1) := by decide +kernel
theorem dX10_numberOf_1 : decode cX10_numberOf 1 = .ok (.istore_n 1, 1) := by decide +kernel
theorem dX10_numberOf_2 : decode cX10_numberOf 2 = .ok (.iconst 0, 1) := by decide +kernel
theorem dX10_numberOf_3 : decode cX10_numberOf 3 = .ok (.istore_n 2, 1) := by decide +kernel
theorem dX10_numberOf_4 : decode cX10_numberOf 4 = .ok (.iload_n 2, 1) := by decide +kernel
theorem dX10_numberOf_5 : decode cX10_numberOf 5 = .ok (.aload_n 0, 1) := by decide +kernel
theorem dX10_numberOf_6 : decode cX10_numberOf 6 = .ok (.invokevirtual 125, 3) := by decide +kernel
theorem dX10_numberOf_9 : decode cX10_numberOf 9 = .ok (.if_icmp .ge 66, 3) := by decide +kernel
theorem dX10_numberOf_12 : decode cX10_numberOf 12 = .ok (.iconst 0, 1) := by decide +kernel
theorem dX10_numberOf_13 : decode cX10_numberOf 13 = .ok (.istore_n 3, 1) := by decide +kernel
theorem dX10_numberOf_14 : decode cX10_numberOf 14 = .ok (.iload_n 2, 1) := by decide +kernel
theorem dX10_numberOf_15 : decode cX10_numberOf 15 = .ok (.iconst 1, 1) := by decide +kernel
theorem dX10_numberOf_16 : decode cX10_numberOf 16 = .ok (.iadd, 1) := by decide +kernel
theorem dX10_numberOf_17 : decode cX10_numberOf 17 = .ok (.istore 4, 2) := by decide +kernel
theorem dX10_numberOf_19 : decode cX10_numberOf 19 = .ok (.iload 4, 2) := by decide +kernel
theorem dX10_numberOf_21 : decode cX10_numberOf 21 = .ok (.aload_n 0, 1) := by decide +kernel
theorem dX10_numberOf_22 : decode cX10_numberOf 22 = .ok (.invokevirtual 125, 3) := by decide +kernel
theorem dX10_numberOf_25 : decode cX10_numberOf 25 = .ok (.if_icmp .ge 33, 3) := by decide +kernel
theorem dX10_numberOf_28 : decode cX10_numberOf 28 = .ok (.iload_n 3, 1) := by decide +kernel
theorem dX10_numberOf_29 : decode cX10_numberOf 29 = .ok (.aload_n 0, 1) := by decide +kernel
theorem dX10_numberOf_30 : decode cX10_numberOf 30 = .ok (.getfield 84, 3) := by decide +kernel
theorem dX10_numberOf_33 : decode cX10_numberOf 33 = .ok (.iload 4, 2) := by decide +kernel
theorem dX10_numberOf_35 : decode cX10_numberOf 35 = .ok (.iaload, 1) := by decide +kernel
theorem dX10_numberOf_36 : decode cX10_numberOf 36 = .ok (.aload_n 0, 1) := by decide +kernel
theorem dX10_numberOf_37 : decode cX10_numberOf 37 = .ok (.getfield 84, 3) := by decide +kernel
theorem dX10_numberOf_40 : decode cX10_numberOf 40 = .ok (.iload_n 2, 1) := by decide +kernel
theorem dX10_numberOf_41 : decode cX10_numberOf 41 = .ok (.iaload, 1) := by decide +kernel
theorem dX10_numberOf_42 : decode cX10_numberOf 42 = .ok (.if_icmp .ge 7, 3) := by decide +kernel
theorem dX10_numberOf_45 : decode cX10_numberOf 45 = .ok (.iconst 1, 1) := by decide +kernel
theorem dX10_numberOf_46 : decode cX10_numberOf 46 = .ok (.goto 4, 3) := by decide +kernel
theorem dX10_numberOf_49 : decode cX10_numberOf 49 = .ok (.iconst 0, 1) := by decide +kernel
theorem dX10_numberOf_50 : decode cX10_numberOf 50 = .ok (.iadd, 1) := by decide +kernel
theorem dX10_numberOf_51 : decode cX10_numberOf 51 = .ok (.istore_n 3, 1) := by decide +kernel
theorem dX10_numberOf_52 : decode cX10_numberOf 52 = .ok (.iinc 4 1, 3) := by decide +kernel
theorem dX10_numberOf_55 : decode cX10_numberOf 55 = .ok (.goto (-36), 3) := by decide +kernel
theorem dX10_numberOf_58 : decode cX10_numberOf 58 = .ok (.iload_n 1, 1) := by decide +kernel
theorem dX10_numberOf_59 : decode cX10_numberOf 59 = .ok (.aload_n 0, 1) := by decide +kernel
theorem dX10_numberOf_60 : decode cX10_numberOf 60 = .ok (.invokevirtual 125, 3) := by decide +kernel
theorem dX10_numberOf_63 : decode cX10_numberOf 63 = .ok (.iload_n 2, 1) := by decide +kernel
theorem dX10_numberOf_64 : decode cX10_numberOf 64 = .ok (.isub, 1) := by decide +kernel
theorem dX10_numberOf_65 : decode cX10_numberOf 65 = .ok (.imul, 1) := by decide +kernel
theorem dX10_numberOf_66 : decode cX10_numberOf 66 = .ok (.iload_n 3, 1) := by decide +kernel
theorem dX10_numberOf_67 : decode cX10_numberOf 67 = .ok (.iadd, 1) := by decide +kernel
theorem dX10_numberOf_68 : decode cX10_numberOf 68 = .ok (.istore_n 1, 1) := by decide +kernel
theorem dX10_numberOf_69 : decode cX10_numberOf 69 = .ok (.iinc 2 1, 3) := by decide +kernel
theorem dX10_numberOf_72 : decode cX10_numberOf 72 = .ok (.goto (-68), 3) := by decide +kernel
theorem dX10_numberOf_75 : decode cX10_numberOf 75 = .ok (.iload_n 1, 1) := by decide +kernel
theorem dX10_numberOf_76 : decode cX10_numberOf 76 = .ok (.ireturn, 1) := by decide +kernel
set_option maxRecDepth 20000 in
theorem ggX10_laysOrder_X10_size : GoodIn wsX10_laysOrder wsX10_size := goodIn_r _ [6, 7, 14, 15, 16, 17, 18, 19, 20, 21, 22, 23, 24, 25, 26, 27, 28, 29, 30, 31, 32, 33, 34, 35, 36, 37, 38, 39, 40, 41, 42, 43, 44, 45, 46, 47, 48, 49, 50, 51, 52, 53, 54, 55, 56, 57, 58, 59, 60, 61, 62, 63, 64, 65, 66, 67, 68, 69] rfl (by decide +kernel)
set_option maxRecDepth 20000 in
theorem gX10_laysOrder_X10_size : GoodIn wsX10_laysOrder (wsV RX10 125 RX10 yX10_size wsX10_size) := goodIn_app (goodIn_of _ (by decide +kernel)) ggX10_laysOrder_X10_size
set_option maxRecDepth 20000 in
theorem ggX10_laysOrder_X10_allOrders : GoodIn wsX10_laysOrder wsX10_allOrders := goodIn_r _ [10] rfl (by decide +kernel)
set_option maxRecDepth 20000 in
theorem gX10_laysOrder_X10_allOrders : GoodIn wsX10_laysOrder (va_wsS RX10 380 yX10_allOrders wsX10_allOrders) := goodIn_app (goodIn_of _ (by decide +kernel)) ggX10_laysOrder_X10_allOrders
set_option maxRecDepth 20000 in
theorem ggX10_laysOrder_X10_isIn : GoodIn wsX10_laysOrder wsX10_isIn := goodIn_r _ [13] rfl (by decide +kernel)
set_option maxRecDepth 20000 in
theorem gX10_laysOrder_X10_isIn : GoodIn wsX10_laysOrder (va_wsS RX10 383 yX10_isIn wsX10_isIn) := goodIn_app (goodIn_of _ (by decide +kernel)) ggX10_laysOrder_X10_isIn
theorem dX10_laysOrder_0 : decode cX10_laysOrder 0 = .ok (.iconst 0, 1) := by decide +kernel
theorem dX10_laysOrder_1 : decode cX10_laysOrder 1 = .ok (.istore_n 2, 1) := by decide +kernel
theorem dX10_laysOrder_2 : decode cX10_laysOrder 2 = .ok (.iload_n 1, 1) := by decide +kernel
theorem dX10_laysOrder_3 : decode cX10_laysOrder 3 = .ok (.istore_n 3, 1) := by decide +kernel
theorem dX10_laysOrder_4 : decode cX10_laysOrder 4 = .ok (.iconst 0, 1) := by decide +kernel
theorem dX10_laysOrder_5 : decode cX10_laysOrder 5 = .ok (.istore 4, 2) := by decide +kernel
theorem dX10_laysOrder_7 : decode cX10_laysOrder 7 = .ok (.iload 4, 2) := by decide +kernel
theorem dX10_laysOrder_9 : decode cX10_laysOrder 9 = .ok (.aload_n 0, 1) := by decide +kernel
theorem dX10_laysOrder_10 : decode cX10_laysOrder 10 = .ok (.invokevirtual 125, 3) := by decide +kernel
theorem dX10_laysOrder_13 : decode cX10_laysOrder 13 = .ok (.if_icmp .ge 97, 3) := by decide +kernel
theorem dX10_laysOrder_16 : decode cX10_laysOrder 16 = .ok (.aload_n 0, 1) := by decide +kernel
theorem dX10_laysOrder_17 : decode cX10_laysOrder 17 = .ok (.invokevirtual 125, 3) := by decide +kernel
theorem dX10_laysOrder_20 : decode cX10_laysOrder 20 = .ok (.iconst 1, 1) := by decide +kernel
theorem dX10_laysOrder_21 : decode cX10_laysOrder 21 = .ok (.isub, 1) := by decide +kernel
theorem dX10_laysOrder_22 : decode cX10_laysOrder 22 = .ok (.iload 4, 2) := by decide +kernel
theorem dX10_laysOrder_24 : decode cX10_laysOrder 24 = .ok (.isub, 1) := by decide +kernel
theorem dX10_laysOrder_25 : decode cX10_laysOrder 25 = .ok (.invokestatic 380, 3) := by decide +kernel
theorem dX10_laysOrder_28 : decode cX10_laysOrder 28 = .ok (.istore 5, 2) := by decide +kernel
theorem dX10_laysOrder_30 : decode cX10_laysOrder 30 = .ok (.iload_n 3, 1) := by decide +kernel
theorem dX10_laysOrder_31 : decode cX10_laysOrder 31 = .ok (.iload 5, 2) := by decide +kernel
theorem dX10_laysOrder_33 : decode cX10_laysOrder 33 = .ok (.idiv, 1) := by decide +kernel
theorem dX10_laysOrder_34 : decode cX10_laysOrder 34 = .ok (.istore 6, 2) := by decide +kernel
theorem dX10_laysOrder_36 : decode cX10_laysOrder 36 = .ok (.iload_n 3, 1) := by decide +kernel
theorem dX10_laysOrder_37 : decode cX10_laysOrder 37 = .ok (.iload 5, 2) := by decide +kernel
theorem dX10_laysOrder_39 : decode cX10_laysOrder 39 = .ok (.irem, 1) := by decide +kernel
theorem dX10_laysOrder_40 : decode cX10_laysOrder 40 = .ok (.istore_n 3, 1) := by decide +kernel
theorem dX10_laysOrder_41 : decode cX10_laysOrder 41 = .ok (.iconst 0, 1) := by decide +kernel
theorem dX10_laysOrder_42 : decode cX10_laysOrder 42 = .ok (.istore 7, 2) := by decide +kernel
theorem dX10_laysOrder_44 : decode cX10_laysOrder 44 = .ok (.iload_n 2, 1) := by decide +kernel
theorem dX10_laysOrder_45 : decode cX10_laysOrder 45 = .ok (.iload 7, 2) := by decide +kernel
theorem dX10_laysOrder_47 : decode cX10_laysOrder 47 = .ok (.invokestatic 383, 3) := by decide +kernel
theorem dX10_laysOrder_50 : decode cX10_laysOrder 50 = .ok (.ifCond .ne 8, 3) := by decide +kernel
theorem dX10_laysOrder_53 : decode cX10_laysOrder 53 = .ok (.iload 6, 2) := by decide +kernel
theorem dX10_laysOrder_55 : decode cX10_laysOrder 55 = .ok (.ifCond .le 28, 3) := by decide +kernel
theorem dX10_laysOrder_58 : decode cX10_laysOrder 58 = .ok (.iload 6, 2) := by decide +kernel
theorem dX10_laysOrder_60 : decode cX10_laysOrder 60 = .ok (.iload_n 2, 1) := by decide +kernel
theorem dX10_laysOrder_61 : decode cX10_laysOrder 61 = .ok (.iload 7, 2) := by decide +kernel
theorem dX10_laysOrder_63 : decode cX10_laysOrder 63 = .ok (.invokestatic 383, 3) := by decide +kernel
theorem dX10_laysOrder_66 : decode cX10_laysOrder 66 = .ok (.ifCond .eq 7, 3) := by decide +kernel
theorem dX10_laysOrder_69 : decode cX10_laysOrder 69 = .ok (.iconst 0, 1) := by decide +kernel
theorem dX10_laysOrder_70 : decode cX10_laysOrder 70 = .ok (.goto 4, 3) := by decide +kernel
theorem dX10_laysOrder_73 : decode cX10_laysOrder 73 = .ok (.iconst 1, 1) := by decide +kernel
theorem dX10_laysOrder_74 : decode cX10_laysOrder 74 = .ok (.isub, 1) := by decide +kernel
theorem dX10_laysOrder_75 : decode cX10_laysOrder 75 = .ok (.istore 6, 2) := by decide +kernel
theorem dX10_laysOrder_77 : decode cX10_laysOrder 77 = .ok (.iinc 7 1, 3) := by decide +kernel
theorem dX10_laysOrder_80 : decode cX10_laysOrder 80 = .ok (.goto (-36), 3) := by decide +kernel
theorem dX10_laysOrder_83 : decode cX10_laysOrder 83 = .ok (.iload_n 2, 1) := by decide +kernel
theorem dX10_laysOrder_84 : decode cX10_laysOrder 84 = .ok (.iconst 1, 1) := by decide +kernel
theorem dX10_laysOrder_85 : decode cX10_laysOrder 85 = .ok (.iload 7, 2) := by decide +kernel
theorem dX10_laysOrder_87 : decode cX10_laysOrder 87 = .ok (.ishl, 1) := by decide +kernel
theorem dX10_laysOrder_88 : decode cX10_laysOrder 88 = .ok (.ior, 1) := by decide +kernel
theorem dX10_laysOrder_89 : decode cX10_laysOrder 89 = .ok (.istore_n 2, 1) := by decide +kernel
theorem dX10_laysOrder_90 : decode cX10_laysOrder 90 = .ok (.aload_n 0, 1) := by decide +kernel
theorem dX10_laysOrder_91 : decode cX10_laysOrder 91 = .ok (.getfield 75, 3) := by decide +kernel
theorem dX10_laysOrder_94 : decode cX10_laysOrder 94 = .ok (.bipush 6, 2) := by decide +kernel
theorem dX10_laysOrder_96 : decode cX10_laysOrder 96 = .ok (.iload_n 1, 1) := by decide +kernel
theorem dX10_laysOrder_97 : decode cX10_laysOrder 97 = .ok (.imul, 1) := by decide +kernel
theorem dX10_laysOrder_98 : decode cX10_laysOrder 98 = .ok (.iload 4, 2) := by decide +kernel
theorem dX10_laysOrder_100 : decode cX10_laysOrder 100 = .ok (.iadd, 1) := by decide +kernel
theorem dX10_laysOrder_101 : decode cX10_laysOrder 101 = .ok (.iload 7, 2) := by decide +kernel
theorem dX10_laysOrder_103 : decode cX10_laysOrder 103 = .ok (.iastore, 1) := by decide +kernel
theorem dX10_laysOrder_104 : decode cX10_laysOrder 104 = .ok (.iinc 4 1, 3) := by decide +kernel
theorem dX10_laysOrder_107 : decode cX10_laysOrder 107 = .ok (.goto (-100), 3) := by decide +kernel
theorem dX10_laysOrder_110 : decode cX10_laysOrder 110 = .ok (.return_, 1) := by decide +kernel
set_option maxRecDepth 20000 in
theorem ggX10_headsBehind_X10_size : GoodIn wsX10_headsBehind wsX10_size := goodIn_r _ [5, 6, 7, 8, 9, 10, 11, 12, 13, 14, 15, 16, 17, 18, 19, 20, 21, 22, 23, 24, 25, 26, 27, 28, 29, 30, 31, 32, 33, 34, 35, 36, 37, 38, 39, 40, 41, 42, 43, 44, 45, 46, 47, 48, 49, 50, 51, 52, 53, 54, 55, 56, 57, 58, 59, 60, 61, 62] rfl (by decide +kernel)
set_option maxRecDepth 20000 in
theorem gX10_headsBehind_X10_size : GoodIn wsX10_headsBehind (wsV RX10 125 RX10 yX10_size wsX10_size) := goodIn_app (goodIn_of _ (by decide +kernel)) ggX10_headsBehind_X10_size
theorem dX10_headsBehind_0 : decode cX10_headsBehind 0 = .ok (.iconst 0, 1) := by decide +kernel
theorem dX10_headsBehind_1 : decode cX10_headsBehind 1 = .ok (.istore_n 3, 1) := by decide +kernel
theorem dX10_headsBehind_2 : decode cX10_headsBehind 2 = .ok (.iconst 0, 1) := by decide +kernel
theorem dX10_headsBehind_3 : decode cX10_headsBehind 3 = .ok (.istore 4, 2) := by decide +kernel
theorem dX10_headsBehind_5 : decode cX10_headsBehind 5 = .ok (.iload 4, 2) := by decide +kernel
theorem dX10_headsBehind_7 : decode cX10_headsBehind 7 = .ok (.aload_n 0, 1) := by decide +kernel
theorem dX10_headsBehind_8 : decode cX10_headsBehind 8 = .ok (.invokevirtual 125, 3) := by decide +kernel
theorem dX10_headsBehind_11 : decode cX10_headsBehind 11 = .ok (.if_icmp .ge 42, 3) := by decide +kernel
theorem dX10_headsBehind_14 : decode cX10_headsBehind 14 = .ok (.iload_n 3, 1) := by decide +kernel
theorem dX10_headsBehind_15 : decode cX10_headsBehind 15 = .ok (.iload 4, 2) := by decide +kernel
theorem dX10_headsBehind_17 : decode cX10_headsBehind 17 = .ok (.iload_n 2, 1) := by decide +kernel
theorem dX10_headsBehind_18 : decode cX10_headsBehind 18 = .ok (.if_icmp .ge 18, 3) := by decide +kernel
theorem dX10_headsBehind_21 : decode cX10_headsBehind 21 = .ok (.iconst 1, 1) := by decide +kernel
theorem dX10_headsBehind_22 : decode cX10_headsBehind 22 = .ok (.iload_n 1, 1) := by decide +kernel
theorem dX10_headsBehind_23 : decode cX10_headsBehind 23 = .ok (.iload_n 2, 1) := by decide +kernel
theorem dX10_headsBehind_24 : decode cX10_headsBehind 24 = .ok (.iconst 1, 1) := by decide +kernel
theorem dX10_headsBehind_25 : decode cX10_headsBehind 25 = .ok (.isub, 1) := by decide +kernel
theorem dX10_headsBehind_26 : decode cX10_headsBehind 26 = .ok (.iload 4, 2) := by decide +kernel
theorem dX10_headsBehind_28 : decode cX10_headsBehind 28 = .ok (.isub, 1) := by decide +kernel
theorem dX10_headsBehind_29 : decode cX10_headsBehind 29 = .ok (.ishr, 1) := by decide +kernel
theorem dX10_headsBehind_30 : decode cX10_headsBehind 30 = .ok (.iconst 1, 1) := by decide +kernel
theorem dX10_headsBehind_31 : decode cX10_headsBehind 31 = .ok (.iand, 1) := by decide +kernel
theorem dX10_headsBehind_32 : decode cX10_headsBehind 32 = .ok (.isub, 1) := by decide +kernel
theorem dX10_headsBehind_33 : decode cX10_headsBehind 33 = .ok (.goto 9, 3) := by decide +kernel
theorem dX10_headsBehind_36 : decode cX10_headsBehind 36 = .ok (.iload_n 1, 1) := by decide +kernel
theorem dX10_headsBehind_37 : decode cX10_headsBehind 37 = .ok (.iload 4, 2) := by decide +kernel
theorem dX10_headsBehind_39 : decode cX10_headsBehind 39 = .ok (.ishr, 1) := by decide +kernel
theorem dX10_headsBehind_40 : decode cX10_headsBehind 40 = .ok (.iconst 1, 1) := by decide +kernel
theorem dX10_headsBehind_41 : decode cX10_headsBehind 41 = .ok (.iand, 1) := by decide +kernel
theorem dX10_headsBehind_42 : decode cX10_headsBehind 42 = .ok (.iload 4, 2) := by decide +kernel
theorem dX10_headsBehind_44 : decode cX10_headsBehind 44 = .ok (.ishl, 1) := by decide +kernel
theorem dX10_headsBehind_45 : decode cX10_headsBehind 45 = .ok (.ior, 1) := by decide +kernel
theorem dX10_headsBehind_46 : decode cX10_headsBehind 46 = .ok (.istore_n 3, 1) := by decide +kernel
theorem dX10_headsBehind_47 : decode cX10_headsBehind 47 = .ok (.iinc 4 1, 3) := by decide +kernel
theorem dX10_headsBehind_50 : decode cX10_headsBehind 50 = .ok (.goto (-45), 3) := by decide +kernel
theorem dX10_headsBehind_53 : decode cX10_headsBehind 53 = .ok (.iload_n 3, 1) := by decide +kernel
theorem dX10_headsBehind_54 : decode cX10_headsBehind 54 = .ok (.ireturn, 1) := by decide +kernel
