set_option maxRecDepth 20000 in
theorem ggX10_readOrder_X10_takes0 : GoodIn wsX10_readOrder wsX10_takes0 := goodIn_r _ [5, 6, 7, 8, 9, 10, 4, 11, 12, 65, 66, 67, 68, 69, 70, 71, 72, 73, 74, 75, 76, 77, 78, 79, 80, 81, 82, 83, 84, 85, 86, 87, 88, 89, 90, 91, 92, 93, 94, 95, 96, 97, 98, 99, 100, 101, 102, 103, 104, 105, 106, 107, 108, 109, 110, 111, 112, 113, 114, 115, 116, 117, 118, 119, 120] (by decide +kernel) (by decide +kernel)
set_option maxRecDepth 20000 in
theorem gX10_readOrder_X10_takes0 : GoodIn wsX10_readOrder (wsV RX10 199 RX10 yX10_takes0 wsX10_takes0) := goodIn_app (goodIn_of _ (by decide +kernel)) ggX10_readOrder_X10_takes0
set_option maxRecDepth 20000 in
theorem ggX10_readOrder_X10_must : GoodIn wsX10_readOrder wsX10_must := goodIn_r _ [36, 1, 2, 3, 4, 5, 6, 7, 8, 9, 10, 11, 12, 28, 29, 30, 31, 32, 65, 66, 67, 68, 69, 70, 71, 72, 73, 74, 75, 76, 77, 78, 79, 80, 81, 82, 83, 84, 85, 86, 87, 88, 89, 90, 91, 92, 93, 94, 95, 96, 97, 98, 99, 100, 101, 102, 103, 104, 105, 106, 107, 108, 109, 110, 111, 112, 113, 114, 115, 116, 117, 118, 119, 120] (by decide +kernel) (by decide +kernel)
set_option maxRecDepth 20000 in
theorem gX10_readOrder_X10_must : GoodIn wsX10_readOrder (wsV RX10 212 RX10 yX10_must wsX10_must) := goodIn_app (goodIn_of _ (by decide +kernel)) ggX10_readOrder_X10_must
theorem dX10_readOrder_0 : decode cX10_readOrder 0 = .ok (.aload_n 0, 1) := by decide +kernel
theorem dX10_readOrder_1 : decode cX10_readOrder 1 = .ok (.bipush 22, 2) := by decide +kernel
theorem dX10_readOrder_3 : decode cX10_readOrder 3 = .ok (.invokevirtual 199, 3) := by decide +kernel
theorem dX10_readOrder_6 : decode cX10_readOrder 6 = .ok (.ifCond .ne 21, 3) := by decide +kernel
theorem dX10_readOrder_9 : decode cX10_readOrder 9 = .ok (.aload_n 0, 1) := by decide +kernel
theorem dX10_readOrder_10 : decode cX10_readOrder 10 = .ok (.bipush 23, 2) := by decide +kernel
theorem dX10_readOrder_12 : decode cX10_readOrder 12 = .ok (.invokevirtual 199, 3) := by decide +kernel
theorem dX10_readOrder_15 : decode cX10_readOrder 15 = .ok (.ifCond .ne 12, 3) := by decide +kernel
theorem dX10_readOrder_18 : decode cX10_readOrder 18 = .ok (.aload_n 0, 1) := by decide +kernel
theorem dX10_readOrder_19 : decode cX10_readOrder 19 = .ok (.bipush 24, 2) := by decide +kernel
theorem dX10_readOrder_21 : decode cX10_readOrder 21 = .ok (.invokevirtual 199, 3) := by decide +kernel
theorem dX10_readOrder_24 : decode cX10_readOrder 24 = .ok (.ifCond .eq 11, 3) := by decide +kernel
theorem dX10_readOrder_35 : decode cX10_readOrder 35 = .ok (.aload_n 0, 1) := by decide +kernel
theorem dX10_readOrder_36 : decode cX10_readOrder 36 = .ok (.bipush 25, 2) := by decide +kernel
theorem dX10_readOrder_38 : decode cX10_readOrder 38 = .ok (.invokevirtual 212, 3) := by decide +kernel
theorem dX10_readOrder_41 : decode cX10_readOrder 41 = .ok (.aload_n 0, 1) := by decide +kernel
theorem dX10_readOrder_42 : decode cX10_readOrder 42 = .ok (.bipush 26, 2) := by decide +kernel
theorem dX10_readOrder_44 : decode cX10_readOrder 44 = .ok (.invokevirtual 199, 3) := by decide +kernel
theorem dX10_readOrder_47 : decode cX10_readOrder 47 = .ok (.ifCond .eq 10, 3) := by decide +kernel
theorem dX10_readOrder_57 : decode cX10_readOrder 57 = .ok (.aload_n 0, 1) := by decide +kernel
theorem dX10_readOrder_58 : decode cX10_readOrder 58 = .ok (.iconst 4, 1) := by decide +kernel
theorem dX10_readOrder_59 : decode cX10_readOrder 59 = .ok (.invokevirtual 199, 3) := by decide +kernel
theorem dX10_readOrder_62 : decode cX10_readOrder 62 = .ok (.ifCond .eq 8, 3) := by decide +kernel
theorem dX10_readOrder_70 : decode cX10_readOrder 70 = .ok (.return_, 1) := by decide +kernel
set_option maxRecDepth 20000 in
theorem ggX10_readOne_X10_readOrder : GoodIn wsX10_readOne wsX10_readOrder := goodIn_r _ [6, 7, 8, 9, 5, 10, 11, 12, 13, 14, 15, 16, 17, 18, 19, 20, 21, 22, 23, 24, 25, 26, 27, 28, 29, 30, 31, 1, 32, 33, 34, 35, 36, 37, 38, 39, 40, 41, 42, 43, 44, 45, 46, 47, 48, 49, 50, 51, 52, 53, 54, 55, 56, 57, 58, 59, 60, 61, 62, 63, 64, 65, 66, 67, 68, 73, 74, 75, 76, 77, 78, 79, 80, 81, 82, 83, 84, 85, 86, 87, 88, 89, 90, 91, 92, 93, 94, 95, 96, 97, 98, 99, 100, 101, 102, 103, 104, 105, 106, 107, 108, 109, 110, 111, 112, 113, 114, 115, 116, 117, 118, 119, 120, 121, 122, 123, 124, 125, 126, 127, 128] (by decide +kernel) (by decide +kernel)
set_option maxRecDepth 20000 in
theorem gX10_readOne_X10_readOrder : GoodIn wsX10_readOne (wsV RX10 225 RX10 yX10_readOrder wsX10_readOrder) := goodIn_app (goodIn_of _ (by decide +kernel)) ggX10_readOne_X10_readOrder
theorem dX10_readOne_7 : decode cX10_readOne 7 = .ok (.aload_n 0, 1) := by decide +kernel
theorem dX10_readOne_8 : decode cX10_readOne 8 = .ok (.invokevirtual 225, 3) := by decide +kernel
theorem dX10_readOne_11 : decode cX10_readOne 11 = .ok (.goto 7, 3) := by decide +kernel
theorem dX10_readsAs_10 : decode cX10_readsAs 10 = .ok (.bipush 15, 2) := by decide +kernel
theorem dX10_readsAs_12 : decode cX10_readsAs 12 = .ok (.goto 5, 3) := by decide +kernel
theorem dX10_readsAs_25 : decode cX10_readsAs 25 = .ok (.bipush 21, 2) := by decide +kernel
theorem dX10_readsAs_27 : decode cX10_readsAs 27 = .ok (.goto 5, 3) := by decide +kernel
theorem dX10_fault_0 : decode cX10_fault 0 = .ok (.aload_n 0, 1) := by decide +kernel
theorem dX10_fault_1 : decode cX10_fault 1 = .ok (.getfield 51, 3) := by decide +kernel
theorem dX10_fault_4 : decode cX10_fault 4 = .ok (.ireturn, 1) := by decide +kernel
set_option maxRecDepth 20000 in
theorem ggX10_isLaw_X10_lies : GoodIn wsX10_isLaw wsX10_lies := goodIn_r _ [5] (by decide +kernel) (by decide +kernel)
set_option maxRecDepth 20000 in
theorem gX10_isLaw_X10_lies : GoodIn wsX10_isLaw (va_wsS RX10 18 yX10_lies wsX10_lies) := goodIn_app (goodIn_of _ (by decide +kernel)) ggX10_isLaw_X10_lies
theorem dX10_isLaw_0 : decode cX10_isLaw 0 = .ok (.iload_n 1, 1) := by decide +kernel
theorem dX10_isLaw_1 : decode cX10_isLaw 1 = .ok (.iconst (-1), 1) := by decide +kernel
theorem dX10_isLaw_2 : decode cX10_isLaw 2 = .ok (.aload_n 0, 1) := by decide +kernel
theorem dX10_isLaw_3 : decode cX10_isLaw 3 = .ok (.getfield 28, 3) := by decide +kernel
theorem dX10_isLaw_6 : decode cX10_isLaw 6 = .ok (.bipush 31, 2) := by decide +kernel
theorem dX10_isLaw_8 : decode cX10_isLaw 8 = .ok (.iaload, 1) := by decide +kernel
theorem dX10_isLaw_9 : decode cX10_isLaw 9 = .ok (.iconst 1, 1) := by decide +kernel
theorem dX10_isLaw_10 : decode cX10_isLaw 10 = .ok (.isub, 1) := by decide +kernel
theorem dX10_isLaw_11 : decode cX10_isLaw 11 = .ok (.invokestatic 18, 3) := by decide +kernel
theorem dX10_isLaw_14 : decode cX10_isLaw 14 = .ok (.ireturn, 1) := by decide +kernel
set_option maxRecDepth 20000 in
theorem ggX10_force_X10_isLaw : GoodIn wsX10_force wsX10_isLaw := goodIn_r _ [6, 1, 7, 8, 5, 9, 20, 21, 22, 23, 24, 25, 26, 27, 28, 29, 30, 31, 32, 33, 34, 35, 36, 37, 38, 39, 40, 41, 42, 43, 44, 45, 46, 47, 48, 49, 50, 51, 52, 53, 54, 55, 56, 57, 58, 59, 60, 61, 62, 63, 64, 65, 66, 67, 68, 69, 70, 71, 72, 73, 74, 75] (by decide +kernel) (by decide +kernel)
set_option maxRecDepth 20000 in
theorem gX10_force_X10_isLaw : GoodIn wsX10_force (wsV RX10 272 RX10 yX10_isLaw wsX10_isLaw) := goodIn_app (goodIn_of _ (by decide +kernel)) ggX10_force_X10_isLaw
set_option maxRecDepth 20000 in
theorem ggX10_force_X10_refuses : GoodIn wsX10_force wsX10_refuses := goodIn_r _ [13, 14, 15, 20, 21, 22, 23, 24, 25, 26, 27, 28, 29, 30, 31, 32, 33, 34, 35, 36, 37, 38, 39, 40, 41, 42, 43, 44, 45, 46, 47, 48, 49, 50, 51, 52, 53, 54, 55, 56, 57, 58, 59, 60, 61, 62, 63, 64, 65, 66, 67, 68, 69, 70, 71, 72, 73, 74, 75] (by decide +kernel) (by decide +kernel)
set_option maxRecDepth 20000 in
theorem gX10_force_X10_refuses : GoodIn wsX10_force (wsV RX10 119 RX10 yX10_refuses wsX10_refuses) := goodIn_app (goodIn_of _ (by decide +kernel)) ggX10_force_X10_refuses
set_option maxRecDepth 20000 in
theorem ggX10_force_X10_good : GoodIn wsX10_force wsX10_good := goodIn_r _ [19, 14, 20, 21, 22, 23, 24, 25, 26, 27, 28, 29, 30, 31, 32, 33, 34, 35, 36, 37, 38, 39, 40, 41, 42, 43, 44, 45, 46, 47, 48, 49, 50, 51, 52, 53, 54, 55, 56, 57, 58, 59, 60, 61, 62, 63, 64, 65, 66, 67, 68, 69, 70, 71, 72, 73, 74, 75] (by decide +kernel) (by decide +kernel)
set_option maxRecDepth 20000 in
theorem gX10_force_X10_good : GoodIn wsX10_force (wsV RX10 14 RX10 yX10_good wsX10_good) := goodIn_app (goodIn_of _ (by decide +kernel)) ggX10_force_X10_good
theorem dX10_force_0 : decode cX10_force 0 = .ok (.aload_n 0, 1) := by decide +kernel
theorem dX10_force_1 : decode cX10_force 1 = .ok (.iload_n 1, 1) := by decide +kernel
theorem dX10_force_2 : decode cX10_force 2 = .ok (.invokevirtual 272, 3) := by decide +kernel
theorem dX10_force_5 : decode cX10_force 5 = .ok (.ifCond .ne 10, 3) := by decide +kernel
theorem dX10_force_8 : decode cX10_force 8 = .ok (.aload_n 0, 1) := by decide +kernel
theorem dX10_force_9 : decode cX10_force 9 = .ok (.bipush (-2), 2) := by decide +kernel
theorem dX10_force_11 : decode cX10_force 11 = .ok (.invokevirtual 119, 3) := by decide +kernel
theorem dX10_force_14 : decode cX10_force 14 = .ok (.ireturn, 1) := by decide +kernel
theorem dX10_force_15 : decode cX10_force 15 = .ok (.aload_n 0, 1) := by decide +kernel
theorem dX10_force_16 : decode cX10_force 16 = .ok (.getfield 28, 3) := by decide +kernel
theorem dX10_force_19 : decode cX10_force 19 = .ok (.bipush 32, 2) := by decide +kernel
theorem dX10_force_21 : decode cX10_force 21 = .ok (.iaload, 1) := by decide +kernel
theorem dX10_force_22 : decode cX10_force 22 = .ok (.istore_n 2, 1) := by decide +kernel
theorem dX10_force_23 : decode cX10_force 23 = .ok (.aload_n 0, 1) := by decide +kernel
theorem dX10_force_24 : decode cX10_force 24 = .ok (.getfield 28, 3) := by decide +kernel
theorem dX10_force_27 : decode cX10_force 27 = .ok (.bipush 32, 2) := by decide +kernel
theorem dX10_force_29 : decode cX10_force 29 = .ok (.iload_n 1, 1) := by decide +kernel
theorem dX10_force_30 : decode cX10_force 30 = .ok (.iastore, 1) := by decide +kernel
theorem dX10_force_31 : decode cX10_force 31 = .ok (.aload_n 0, 1) := by decide +kernel
theorem dX10_force_32 : decode cX10_force 32 = .ok (.iload_n 2, 1) := by decide +kernel
theorem dX10_force_33 : decode cX10_force 33 = .ok (.invokevirtual 14, 3) := by decide +kernel
theorem dX10_force_36 : decode cX10_force 36 = .ok (.ireturn, 1) := by decide +kernel
set_option maxRecDepth 20000 in
theorem ggX10_canTurn_X10_size : GoodIn wsX10_canTurn wsX10_size := goodIn_r _ [6, 1, 99, 100, 101, 102, 103, 104, 105, 106, 107, 108, 109, 110, 111, 112, 113, 114, 115, 116, 117, 118, 119, 120, 121, 122, 123, 124, 125, 126, 127, 128, 129, 130, 131, 132, 133, 134, 135, 136, 137, 138, 139, 140, 141, 142, 143, 144, 145, 146, 147, 148, 149, 150, 151, 152, 153, 154] (by decide +kernel) (by decide +kernel)
set_option maxRecDepth 20000 in
theorem gX10_canTurn_X10_size : GoodIn wsX10_canTurn (wsV RX10 125 RX10 yX10_size wsX10_size) := goodIn_app (goodIn_of _ (by decide +kernel)) ggX10_canTurn_X10_size
theorem dX10_canTurn_0 : decode cX10_canTurn 0 = .ok (.iload_n 1, 1) := by decide +kernel
theorem dX10_canTurn_1 : decode cX10_canTurn 1 = .ok (.aload_n 0, 1) := by decide +kernel
theorem dX10_canTurn_2 : decode cX10_canTurn 2 = .ok (.invokevirtual 125, 3) := by decide +kernel
theorem dX10_canTurn_5 : decode cX10_canTurn 5 = .ok (.if_icmp .le 5, 3) := by decide +kernel
theorem dX10_canTurn_8 : decode cX10_canTurn 8 = .ok (.iconst 0, 1) := by decide +kernel
theorem dX10_canTurn_9 : decode cX10_canTurn 9 = .ok (.ireturn, 1) := by decide +kernel
set_option maxRecDepth 20000 in
theorem ggX10_goodOr_X10_refuses : GoodIn wsX10_goodOr wsX10_refuses := goodIn_r _ [5, 6, 7, 12, 13, 14, 15, 16, 17, 18, 19, 20, 21, 22, 23, 24, 25, 26, 27, 28, 29, 30, 31, 32, 33, 34, 35, 36, 37, 38, 39, 40, 41, 42, 43, 44, 45, 46, 47, 48, 49, 50, 51, 52, 53, 54, 55, 56, 57, 58, 59, 60, 61, 62, 63, 64, 65, 66, 67] (by decide +kernel) (by decide +kernel)
set_option maxRecDepth 20000 in
theorem gX10_goodOr_X10_refuses : GoodIn wsX10_goodOr (wsV RX10 119 RX10 yX10_refuses wsX10_refuses) := goodIn_app (goodIn_of _ (by decide +kernel)) ggX10_goodOr_X10_refuses
theorem dX10_goodOr_0 : decode cX10_goodOr 0 = .ok (.iload_n 1, 1) := by decide +kernel
theorem dX10_goodOr_1 : decode cX10_goodOr 1 = .ok (.ifCond .ge 11, 3) := by decide +kernel
theorem dX10_goodOr_4 : decode cX10_goodOr 4 = .ok (.aload_n 0, 1) := by decide +kernel
theorem dX10_goodOr_5 : decode cX10_goodOr 5 = .ok (.iload_n 1, 1) := by decide +kernel
theorem dX10_goodOr_6 : decode cX10_goodOr 6 = .ok (.invokevirtual 119, 3) := by decide +kernel
theorem dX10_goodOr_9 : decode cX10_goodOr 9 = .ok (.goto 8, 3) := by decide +kernel
theorem dX10_goodOr_17 : decode cX10_goodOr 17 = .ok (.ireturn, 1) := by decide +kernel
set_option maxRecDepth 20000 in
theorem ggX10_turnsKept_X10_lies : GoodIn wsX10_turnsKept wsX10_lies := goodIn_r _ [4] (by decide +kernel) (by decide +kernel)
set_option maxRecDepth 20000 in
theorem gX10_turnsKept_X10_lies : GoodIn wsX10_turnsKept (va_wsS RX10 18 yX10_lies wsX10_lies) := goodIn_app (goodIn_of _ (by decide +kernel)) ggX10_turnsKept_X10_lies
set_option maxRecDepth 20000 in
theorem ggX10_turnsKept_X10_canTurn : GoodIn wsX10_turnsKept wsX10_canTurn := goodIn_r _ [8, 9, 10, 11, 12, 3, 13, 14, 15, 16, 17, 18, 19, 20, 21, 22, 23, 24, 25, 26, 27, 28, 29, 30, 31, 32, 33, 34, 35, 36, 37, 38, 39, 40, 41, 42, 43, 44, 45, 46, 47, 48, 49, 50, 51, 52, 53, 54, 55, 56, 57, 58, 59, 60, 61, 62, 63, 64, 65, 66, 67, 68, 69, 70, 71, 72, 73, 74, 1, 2, 4, 75, 76, 77, 78, 79, 80, 81, 82, 83, 84, 85, 86, 87, 88, 89, 90, 91, 92, 93, 94, 95, 96, 97, 98, 99, 100, 101, 102, 124, 125, 126, 127, 128, 129, 130, 131, 132, 133, 134, 135, 136, 137, 138, 139, 140, 141, 142, 143, 144, 145, 146, 147, 148, 149, 150, 151, 152, 153, 154, 155, 156, 157, 158, 159, 160, 161, 162, 163, 164, 165, 166, 167, 168, 169, 170, 171, 172, 173, 174, 175, 176, 177, 178, 179] (by decide +kernel) (by decide +kernel)
set_option maxRecDepth 20000 in
theorem gX10_turnsKept_X10_canTurn : GoodIn wsX10_turnsKept (wsV RX10 353 RX10 yX10_canTurn wsX10_canTurn) := goodIn_app (goodIn_of _ (by decide +kernel)) ggX10_turnsKept_X10_canTurn
theorem dX10_turnsKept_0 : decode cX10_turnsKept 0 = .ok (.iload_n 1, 1) := by decide +kernel
theorem dX10_turnsKept_1 : decode cX10_turnsKept 1 = .ok (.iconst 1, 1) := by decide +kernel
theorem dX10_turnsKept_2 : decode cX10_turnsKept 2 = .ok (.bipush 6, 2) := by decide +kernel
theorem dX10_turnsKept_4 : decode cX10_turnsKept 4 = .ok (.invokestatic 18, 3) := by decide +kernel
theorem dX10_turnsKept_7 : decode cX10_turnsKept 7 = .ok (.ifCond .ne 5, 3) := by decide +kernel
theorem dX10_turnsKept_10 : decode cX10_turnsKept 10 = .ok (.iconst (-1), 1) := by decide +kernel
theorem dX10_turnsKept_11 : decode cX10_turnsKept 11 = .ok (.ireturn, 1) := by decide +kernel
theorem dX10_turnsKept_12 : decode cX10_turnsKept 12 = .ok (.aload_n 0, 1) := by decide +kernel
theorem dX10_turnsKept_13 : decode cX10_turnsKept 13 = .ok (.iload_n 1, 1) := by decide +kernel
theorem dX10_turnsKept_14 : decode cX10_turnsKept 14 = .ok (.invokevirtual 353, 3) := by decide +kernel
theorem dX10_turnsKept_17 : decode cX10_turnsKept 17 = .ok (.ifCond .ne 6, 3) := by decide +kernel
theorem dX10_turnsKept_20 : decode cX10_turnsKept 20 = .ok (.bipush (-3), 2) := by decide +kernel
theorem dX10_turnsKept_22 : decode cX10_turnsKept 22 = .ok (.ireturn, 1) := by decide +kernel
set_option maxRecDepth 20000 in
theorem ggX10_turn_X10_turnsKept : GoodIn wsX10_turn wsX10_turnsKept := goodIn_r _ [5, 6, 7, 4, 8, 9, 10, 11, 12, 13, 14, 15, 16, 17, 18, 19, 20, 21, 22, 23, 24, 25, 26, 27, 28, 29, 30, 31, 32, 33, 34, 35, 36, 37, 38, 39, 40, 41, 42, 43, 44, 45, 46, 47, 48, 49, 50, 51, 52, 53, 54, 55, 56, 57, 58, 59, 60, 61, 62, 63, 64, 65, 66, 67, 68, 69, 70, 71, 72, 73, 74, 75, 76, 77, 78, 79, 80, 81, 82, 83, 84, 85, 86, 87, 88, 89, 90, 91, 92, 93, 94, 95, 96, 97, 98, 99, 100, 101, 102, 103, 104, 105, 106, 107, 108, 109, 110, 111, 112, 113, 114, 115, 116, 117, 118, 119, 120, 121, 122, 123, 124, 125, 126, 127, 142, 143, 144, 145, 146, 147, 148, 149, 150, 151, 152, 153, 154, 155, 156, 157, 158, 159, 160, 161, 162, 163, 164, 165, 166, 167, 168, 169, 170, 171, 172, 173, 174, 175, 176, 177, 178, 179, 180, 181, 182, 183, 184, 185, 186, 187, 188, 189, 190, 191, 192, 193, 194, 195, 196, 197] (by decide +kernel) (by decide +kernel)
set_option maxRecDepth 20000 in
theorem gX10_turn_X10_turnsKept : GoodIn wsX10_turn (wsV RX10 365 RX10 yX10_turnsKept wsX10_turnsKept) := goodIn_app (goodIn_of _ (by decide +kernel)) ggX10_turn_X10_turnsKept
set_option maxRecDepth 20000 in
theorem ggX10_turn_X10_goodOr : GoodIn wsX10_turn wsX10_goodOr := goodIn_r _ [131, 132, 133, 134, 4, 135, 136, 137, 138, 139, 140, 141, 142, 143, 144, 145, 146, 147, 148, 149, 150, 151, 152, 153, 154, 155, 156, 157, 158, 159, 160, 161, 162, 163, 164, 165, 166, 167, 168, 169, 170, 171, 172, 173, 174, 175, 176, 177, 178, 179, 180, 181, 182, 183, 184, 185, 186, 187, 188, 189, 190, 191, 192, 193, 194, 195, 196, 197] (by decide +kernel) (by decide +kernel)
set_option maxRecDepth 20000 in
theorem gX10_turn_X10_goodOr : GoodIn wsX10_turn (wsV RX10 368 RX10 yX10_goodOr wsX10_goodOr) := goodIn_app (goodIn_of _ (by decide +kernel)) ggX10_turn_X10_goodOr
theorem dX10_turn_0 : decode cX10_turn 0 = .ok (.aload_n 0, 1) := by decide +kernel
theorem dX10_turn_1 : decode cX10_turn 1 = .ok (.aload_n 0, 1) := by decide +kernel
theorem dX10_turn_2 : decode cX10_turn 2 = .ok (.iload_n 1, 1) := by decide +kernel
theorem dX10_turn_3 : decode cX10_turn 3 = .ok (.invokevirtual 365, 3) := by decide +kernel
theorem dX10_turn_6 : decode cX10_turn 6 = .ok (.invokevirtual 368, 3) := by decide +kernel
theorem dX10_turn_9 : decode cX10_turn 9 = .ok (.ireturn, 1) := by decide +kernel
theorem dX10_stopped_0 : decode cX10_stopped 0 = .ok (.aload_n 0, 1) := by decide +kernel
theorem dX10_stopped_1 : decode cX10_stopped 1 = .ok (.getfield 110, 3) := by decide +kernel
theorem dX10_stopped_4 : decode cX10_stopped 4 = .ok (.ireturn, 1) := by decide +kernel
set_option maxRecDepth 20000 in
theorem ggX10_orders_X10_readsAs : GoodIn wsX10_orders wsX10_readsAs := goodIn_r _ [13, 14, 15, 16, 17, 18, 19, 12, 20, 21, 22, 23, 24, 25, 26, 27, 28, 29, 30, 31, 32, 33, 34, 35, 36, 37, 38, 39, 40, 41, 42, 43, 44, 45, 46, 47, 48, 49, 50, 51, 52, 53, 54, 55, 56, 57, 58, 59, 60, 61, 62, 63, 64, 65, 66, 67, 68, 69, 70, 71, 72, 73, 74, 75, 76, 77, 78, 79, 80, 81, 82, 83, 84, 85, 86, 87, 88, 89, 90, 91, 92, 93, 94, 95, 96, 97, 98, 99, 100, 101, 102, 103, 104, 105, 106, 107, 108, 109, 110, 111, 112, 297, 298, 299, 300, 301, 302, 303, 304, 305, 306, 307, 308, 309, 310, 311, 312, 313, 314, 315, 316, 317, 318, 319, 320, 321, 322, 323, 324, 325, 326, 327, 328, 329, 330, 331, 332, 333, 334, 335, 336, 337, 338, 339, 340, 341, 342, 343, 344, 345, 346, 347, 348, 349, 350, 351, 352] (by decide +kernel) (by decide +kernel)
set_option maxRecDepth 20000 in
theorem gX10_orders_X10_readsAs : GoodIn wsX10_orders (wsV RX10 265 RX10 yX10_readsAs wsX10_readsAs) := goodIn_app (goodIn_of _ (by decide +kernel)) ggX10_orders_X10_readsAs
set_option maxRecDepth 20000 in
theorem ggX10_orders_X10_refuses : GoodIn wsX10_orders wsX10_refuses := goodIn_r _ [116, 117, 118, 297, 298, 299, 300, 301, 302, 303, 304, 305, 306, 307, 308, 309, 310, 311, 312, 313, 314, 315, 316, 317, 318, 319, 320, 321, 322, 323, 324, 325, 326, 327, 328, 329, 330, 331, 332, 333, 334, 335, 336, 337, 338, 339, 340, 341, 342, 343, 344, 345, 346, 347, 348, 349, 350, 351, 352] (by decide +kernel) (by decide +kernel)
set_option maxRecDepth 20000 in
theorem gX10_orders_X10_refuses : GoodIn wsX10_orders (wsV RX10 119 RX10 yX10_refuses wsX10_refuses) := goodIn_app (goodIn_of _ (by decide +kernel)) ggX10_orders_X10_refuses
theorem dX10_orders_0 : decode cX10_orders 0 = .ok (.aload_n 0, 1) := by decide +kernel
theorem dX10_orders_1 : decode cX10_orders 1 = .ok (.iconst (-1), 1) := by decide +kernel
theorem dX10_orders_2 : decode cX10_orders 2 = .ok (.putfield 110, 3) := by decide +kernel
theorem dX10_orders_5 : decode cX10_orders 5 = .ok (.aload_n 0, 1) := by decide +kernel
theorem dX10_orders_6 : decode cX10_orders 6 = .ok (.iconst 1, 1) := by decide +kernel
theorem dX10_orders_7 : decode cX10_orders 7 = .ok (.invokevirtual 265, 3) := by decide +kernel
theorem dX10_orders_10 : decode cX10_orders 10 = .ok (.ifCond .ne 10, 3) := by decide +kernel
theorem dX10_orders_13 : decode cX10_orders 13 = .ok (.aload_n 0, 1) := by decide +kernel
theorem dX10_orders_14 : decode cX10_orders 14 = .ok (.bipush (-6), 2) := by decide +kernel
theorem dX10_orders_16 : decode cX10_orders 16 = .ok (.invokevirtual 119, 3) := by decide +kernel
theorem dX10_orders_19 : decode cX10_orders 19 = .ok (.ireturn, 1) := by decide +kernel
