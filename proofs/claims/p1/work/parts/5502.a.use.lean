theorem dX0_keep_0 : decode cX0_keep 0 = .ok (.aload_n 0, 1) := by decide +kernel
theorem dX0_keep_1 : decode cX0_keep 1 = .ok (.getfield 19, 3) := by decide +kernel
theorem dX0_keep_4 : decode cX0_keep 4 = .ok (.bipush 16, 2) := by decide +kernel
theorem dX0_keep_6 : decode cX0_keep 6 = .ok (.if_icmp .lt 39, 3) := by decide +kernel
theorem dX0_keep_45 : decode cX0_keep 45 = .ok (.aload_n 0, 1) := by decide +kernel
theorem dX0_keep_46 : decode cX0_keep 46 = .ok (.getfield 9, 3) := by decide +kernel
theorem dX0_keep_49 : decode cX0_keep 49 = .ok (.aload_n 0, 1) := by decide +kernel
theorem dX0_keep_50 : decode cX0_keep 50 = .ok (.getfield 19, 3) := by decide +kernel
theorem dX0_keep_53 : decode cX0_keep 53 = .ok (.lload_n 2, 1) := by decide +kernel
theorem dX0_keep_54 : decode cX0_keep 54 = .ok (.lastore, 1) := by decide +kernel
theorem dX0_keep_55 : decode cX0_keep 55 = .ok (.aload_n 0, 1) := by decide +kernel
theorem dX0_keep_56 : decode cX0_keep 56 = .ok (.getfield 15, 3) := by decide +kernel
theorem dX0_keep_59 : decode cX0_keep 59 = .ok (.aload_n 0, 1) := by decide +kernel
theorem dX0_keep_60 : decode cX0_keep 60 = .ok (.getfield 19, 3) := by decide +kernel
theorem dX0_keep_63 : decode cX0_keep 63 = .ok (.iload_n 1, 1) := by decide +kernel
theorem dX0_keep_64 : decode cX0_keep 64 = .ok (.iastore, 1) := by decide +kernel
theorem dX0_keep_65 : decode cX0_keep 65 = .ok (.aload_n 0, 1) := by decide +kernel
theorem dX0_keep_66 : decode cX0_keep 66 = .ok (.dup, 1) := by decide +kernel
theorem dX0_keep_67 : decode cX0_keep 67 = .ok (.getfield 19, 3) := by decide +kernel
theorem dX0_keep_70 : decode cX0_keep 70 = .ok (.iconst 1, 1) := by decide +kernel
theorem dX0_keep_71 : decode cX0_keep 71 = .ok (.iadd, 1) := by decide +kernel
theorem dX0_keep_72 : decode cX0_keep 72 = .ok (.putfield 19, 3) := by decide +kernel
theorem dX0_keep_75 : decode cX0_keep 75 = .ok (.return_, 1) := by decide +kernel
theorem dX1_seat_0 : decode cX1_seat 0 = .ok (.aload_n 0, 1) := by decide +kernel
theorem dX1_seat_1 : decode cX1_seat 1 = .ok (.aload_n 1, 1) := by decide +kernel
theorem dX1_seat_2 : decode cX1_seat 2 = .ok (.putfield 15, 3) := by decide +kernel
theorem dX1_seat_5 : decode cX1_seat 5 = .ok (.aload_n 0, 1) := by decide +kernel
theorem dX1_seat_6 : decode cX1_seat 6 = .ok (.getfield 11, 3) := by decide +kernel
theorem dX1_seat_9 : decode cX1_seat 9 = .ok (.bipush 8, 2) := by decide +kernel
theorem dX1_seat_11 : decode cX1_seat 11 = .ok (.iload_n 2, 1) := by decide +kernel
theorem dX1_seat_12 : decode cX1_seat 12 = .ok (.iastore, 1) := by decide +kernel
theorem dX1_seat_13 : decode cX1_seat 13 = .ok (.return_, 1) := by decide +kernel
theorem dX1_setCommon_0 : decode cX1_setCommon 0 = .ok (.aload_n 0, 1) := by decide +kernel
theorem dX1_setCommon_1 : decode cX1_setCommon 1 = .ok (.getfield 11, 3) := by decide +kernel
theorem dX1_setCommon_4 : decode cX1_setCommon 4 = .ok (.iconst 4, 1) := by decide +kernel
theorem dX1_setCommon_5 : decode cX1_setCommon 5 = .ok (.iload_n 1, 1) := by decide +kernel
theorem dX1_setCommon_6 : decode cX1_setCommon 6 = .ok (.iastore, 1) := by decide +kernel
theorem dX1_setCommon_7 : decode cX1_setCommon 7 = .ok (.aload_n 0, 1) := by decide +kernel
theorem dX1_setCommon_8 : decode cX1_setCommon 8 = .ok (.getfield 11, 3) := by decide +kernel
theorem dX1_setCommon_11 : decode cX1_setCommon 11 = .ok (.bipush 7, 2) := by decide +kernel
theorem dX1_setCommon_13 : decode cX1_setCommon 13 = .ok (.iload_n 2, 1) := by decide +kernel
theorem dX1_setCommon_14 : decode cX1_setCommon 14 = .ok (.iastore, 1) := by decide +kernel
theorem dX1_setCommon_15 : decode cX1_setCommon 15 = .ok (.return_, 1) := by decide +kernel
set_option maxRecDepth 20000 in
theorem ggX6_lawAt_X6_isLaw : GoodIn wsX6_lawAt wsX6_isLaw := goodIn_r _ [6, 7, 8, 9, 10, 11, 12, 13, 14, 15, 16, 17] rfl (by decide +kernel)
set_option maxRecDepth 20000 in
theorem gX6_lawAt_X6_isLaw : GoodIn wsX6_lawAt (wsV RX6 61 RX6 yX6_isLaw wsX6_isLaw) := goodIn_app (goodIn_of _ (by decide +kernel)) ggX6_lawAt_X6_isLaw
theorem dX6_lawAt_0 : decode cX6_lawAt 0 = .ok (.aload_n 0, 1) := by decide +kernel
theorem dX6_lawAt_1 : decode cX6_lawAt 1 = .ok (.iload_n 1, 1) := by decide +kernel
theorem dX6_lawAt_2 : decode cX6_lawAt 2 = .ok (.invokevirtual 61, 3) := by decide +kernel
theorem dX6_lawAt_5 : decode cX6_lawAt 5 = .ok (.ifCond .eq 12, 3) := by decide +kernel
theorem dX6_lawAt_17 : decode cX6_lawAt 17 = .ok (.aconst_null, 1) := by decide +kernel
theorem dX6_lawAt_18 : decode cX6_lawAt 18 = .ok (.areturn, 1) := by decide +kernel
set_option maxRecDepth 20000 in
theorem ggX8_tell_X9_isBit : GoodIn wsX8_tell wsX9_isBit := goodIn_r _ [11] rfl (by decide +kernel)
set_option maxRecDepth 20000 in
theorem gX8_tell_X9_isBit_n32 : GoodIn wsX8_tell (wsX9_isBit) := ggX8_tell_X9_isBit
theorem dX8_tell_8 : decode cX8_tell 8 = .ok (.iload_n 2, 1) := by decide +kernel
theorem dX8_tell_9 : decode cX8_tell 9 = .ok (.invokestatic 32, 3) := by decide +kernel
theorem dX8_tell_12 : decode cX8_tell 12 = .ok (.ifCond .ne 5, 3) := by decide +kernel
theorem dX8_tell_17 : decode cX8_tell 17 = .ok (.iload_n 2, 1) := by decide +kernel
theorem dX8_tell_18 : decode cX8_tell 18 = .ok (.ifCond .ne 12, 3) := by decide +kernel
theorem dX8_tell_21 : decode cX8_tell 21 = .ok (.aload_n 0, 1) := by decide +kernel
theorem dX8_tell_22 : decode cX8_tell 22 = .ok (.getfield 9, 3) := by decide +kernel
theorem dX8_tell_25 : decode cX8_tell 25 = .ok (.iload_n 1, 1) := by decide +kernel
theorem dX8_tell_26 : decode cX8_tell 26 = .ok (.iaload, 1) := by decide +kernel
theorem dX8_tell_27 : decode cX8_tell 27 = .ok (.goto 9, 3) := by decide +kernel
theorem dX8_tell_36 : decode cX8_tell 36 = .ok (.ireturn, 1) := by decide +kernel
theorem dX8_pack_0 : decode cX8_pack 0 = .ok (.aload_n 0, 1) := by decide +kernel
theorem dX8_pack_1 : decode cX8_pack 1 = .ok (.getfield 18, 3) := by decide +kernel
theorem dX8_pack_4 : decode cX8_pack 4 = .ok (.i2l, 1) := by decide +kernel
theorem dX8_pack_5 : decode cX8_pack 5 = .ok (.lstore_n 1, 1) := by decide +kernel
theorem dX8_pack_6 : decode cX8_pack 6 = .ok (.iconst 0, 1) := by decide +kernel
theorem dX8_pack_7 : decode cX8_pack 7 = .ok (.istore_n 3, 1) := by decide +kernel
theorem dX8_pack_8 : decode cX8_pack 8 = .ok (.iload_n 3, 1) := by decide +kernel
theorem dX8_pack_9 : decode cX8_pack 9 = .ok (.bipush 6, 2) := by decide +kernel
theorem dX8_pack_11 : decode cX8_pack 11 = .ok (.if_icmp .ge 31, 3) := by decide +kernel
theorem dX8_pack_14 : decode cX8_pack 14 = .ok (.lload_n 1, 1) := by decide +kernel
theorem dX8_pack_15 : decode cX8_pack 15 = .ok (.iconst 4, 1) := by decide +kernel
theorem dX8_pack_16 : decode cX8_pack 16 = .ok (.lshl, 1) := by decide +kernel
theorem dX8_pack_17 : decode cX8_pack 17 = .ok (.aload_n 0, 1) := by decide +kernel
theorem dX8_pack_18 : decode cX8_pack 18 = .ok (.getfield 9, 3) := by decide +kernel
theorem dX8_pack_21 : decode cX8_pack 21 = .ok (.iload_n 3, 1) := by decide +kernel
theorem dX8_pack_22 : decode cX8_pack 22 = .ok (.iaload, 1) := by decide +kernel
theorem dX8_pack_23 : decode cX8_pack 23 = .ok (.iconst 1, 1) := by decide +kernel
theorem dX8_pack_24 : decode cX8_pack 24 = .ok (.ishl, 1) := by decide +kernel
theorem dX8_pack_25 : decode cX8_pack 25 = .ok (.i2l, 1) := by decide +kernel
theorem dX8_pack_26 : decode cX8_pack 26 = .ok (.lor, 1) := by decide +kernel
theorem dX8_pack_27 : decode cX8_pack 27 = .ok (.aload_n 0, 1) := by decide +kernel
theorem dX8_pack_28 : decode cX8_pack 28 = .ok (.getfield 15, 3) := by decide +kernel
theorem dX8_pack_31 : decode cX8_pack 31 = .ok (.iload_n 3, 1) := by decide +kernel
theorem dX8_pack_32 : decode cX8_pack 32 = .ok (.iaload, 1) := by decide +kernel
theorem dX8_pack_33 : decode cX8_pack 33 = .ok (.i2l, 1) := by decide +kernel
theorem dX8_pack_34 : decode cX8_pack 34 = .ok (.lor, 1) := by decide +kernel
theorem dX8_pack_35 : decode cX8_pack 35 = .ok (.lstore_n 1, 1) := by decide +kernel
theorem dX8_pack_36 : decode cX8_pack 36 = .ok (.iinc 3 1, 3) := by decide +kernel
theorem dX8_pack_39 : decode cX8_pack 39 = .ok (.goto (-31), 3) := by decide +kernel
theorem dX8_pack_42 : decode cX8_pack 42 = .ok (.lload_n 1, 1) := by decide +kernel
theorem dX8_pack_43 : decode cX8_pack 43 = .ok (.bipush 14, 2) := by decide +kernel
theorem dX8_pack_45 : decode cX8_pack 45 = .ok (.lshl, 1) := by decide +kernel
theorem dX8_pack_46 : decode cX8_pack 46 = .ok (.aload_n 0, 1) := by decide +kernel
theorem dX8_pack_47 : decode cX8_pack 47 = .ok (.getfield 22, 3) := by decide +kernel
theorem dX8_pack_50 : decode cX8_pack 50 = .ok (.i2l, 1) := by decide +kernel
theorem dX8_pack_51 : decode cX8_pack 51 = .ok (.lor, 1) := by decide +kernel
theorem dX8_pack_52 : decode cX8_pack 52 = .ok (.bipush 10, 2) := by decide +kernel
theorem dX8_pack_54 : decode cX8_pack 54 = .ok (.lshl, 1) := by decide +kernel
theorem dX8_pack_55 : decode cX8_pack 55 = .ok (.aload_n 0, 1) := by decide +kernel
theorem dX8_pack_56 : decode cX8_pack 56 = .ok (.getfield 25, 3) := by decide +kernel
theorem dX8_pack_59 : decode cX8_pack 59 = .ok (.i2l, 1) := by decide +kernel
theorem dX8_pack_60 : decode cX8_pack 60 = .ok (.lor, 1) := by decide +kernel
theorem dX8_pack_61 : decode cX8_pack 61 = .ok (.lreturn, 1) := by decide +kernel
set_option maxRecDepth 20000 in
theorem ggX8_act_X8_turnTop : GoodIn wsX8_act wsX8_turnTop := goodIn_r _ [5, 6, 7, 8, 9, 10, 11, 12, 13, 14, 15, 16, 17, 18, 19, 20, 21, 22, 23, 24, 25, 26, 27, 28, 29, 4, 30, 31, 32, 33, 34, 35, 36, 37, 38, 39, 40, 41, 42, 43, 44, 45, 46, 47, 48, 49, 50, 51, 52, 53, 54, 55, 56, 57, 58, 59, 60, 61, 62, 63, 64, 65, 66, 67, 68, 69, 70, 71, 72, 73, 74, 75, 76, 77, 78, 106, 107, 108, 109, 110, 111, 112, 113, 114, 115, 116, 117, 118, 119, 120, 121, 122, 123] rfl (by decide +kernel)
set_option maxRecDepth 20000 in
theorem gX8_act_X8_turnTop : GoodIn wsX8_act (wsV RX8 47 RX8 yX8_turnTop wsX8_turnTop) := goodIn_app (goodIn_of _ (by decide +kernel)) ggX8_act_X8_turnTop
set_option maxRecDepth 20000 in
theorem ggX8_act_X8_rightAt : GoodIn wsX8_act wsX8_rightAt := goodIn_r _ [82, 7, 32, 33, 34, 4, 35, 6, 106, 107, 108, 109, 110] rfl (by decide +kernel)
set_option maxRecDepth 20000 in
theorem gX8_act_X8_rightAt : GoodIn wsX8_act (wsV RX8 51 RX8 yX8_rightAt wsX8_rightAt) := goodIn_app (goodIn_of _ (by decide +kernel)) ggX8_act_X8_rightAt
set_option maxRecDepth 20000 in
theorem ggX8_act_X8_swapAt : GoodIn wsX8_act wsX8_swapAt := goodIn_r _ [86, 31, 32, 33, 34, 4, 35, 6, 75, 76, 77, 78, 7, 106, 107, 108, 109, 110] rfl (by decide +kernel)
set_option maxRecDepth 20000 in
theorem gX8_act_X8_swapAt : GoodIn wsX8_act (wsV RX8 55 RX8 yX8_swapAt wsX8_swapAt) := goodIn_app (goodIn_of _ (by decide +kernel)) ggX8_act_X8_swapAt
set_option maxRecDepth 20000 in
theorem ggX8_act_X8_passYear : GoodIn wsX8_act wsX8_passYear := goodIn_r _ [90, 91, 6, 7, 92, 93, 94, 16, 95, 26, 96, 33, 34, 4, 35, 22, 23, 24, 25, 43, 44, 45, 46, 47, 48, 49, 50, 51, 52, 53, 54, 55, 56, 10, 11, 12, 57, 58, 59, 60, 61, 62, 97, 37, 98, 99, 100, 101, 102, 103, 104, 105, 106, 107, 108, 109, 110, 111, 112, 113, 114, 115, 116, 117, 118, 119, 120, 121, 122, 123] rfl (by decide +kernel)
set_option maxRecDepth 20000 in
theorem gX8_act_X8_passYear : GoodIn wsX8_act (wsV RX8 58 RX8 yX8_passYear wsX8_passYear) := goodIn_app (goodIn_of _ (by decide +kernel)) ggX8_act_X8_passYear
theorem dX8_act_0 : decode cX8_act 0 = .ok (.iload_n 1, 1) := by decide +kernel
theorem dX8_act_1 : decode cX8_act 1 = .ok (.tableswitch 56 0 3 #[31, 38, 44, 50], 31) := by decide +kernel
theorem dX8_act_32 : decode cX8_act 32 = .ok (.aload_n 0, 1) := by decide +kernel
theorem dX8_act_33 : decode cX8_act 33 = .ok (.iload_n 2, 1) := by decide +kernel
theorem dX8_act_34 : decode cX8_act 34 = .ok (.aload_n 3, 1) := by decide +kernel
theorem dX8_act_35 : decode cX8_act 35 = .ok (.invokevirtual 47, 3) := by decide +kernel
theorem dX8_act_38 : decode cX8_act 38 = .ok (.ireturn, 1) := by decide +kernel
theorem dX8_act_39 : decode cX8_act 39 = .ok (.aload_n 0, 1) := by decide +kernel
theorem dX8_act_40 : decode cX8_act 40 = .ok (.iload_n 2, 1) := by decide +kernel
theorem dX8_act_41 : decode cX8_act 41 = .ok (.invokevirtual 51, 3) := by decide +kernel
theorem dX8_act_44 : decode cX8_act 44 = .ok (.ireturn, 1) := by decide +kernel
theorem dX8_act_45 : decode cX8_act 45 = .ok (.aload_n 0, 1) := by decide +kernel
theorem dX8_act_46 : decode cX8_act 46 = .ok (.iload_n 2, 1) := by decide +kernel
theorem dX8_act_47 : decode cX8_act 47 = .ok (.invokevirtual 55, 3) := by decide +kernel
theorem dX8_act_50 : decode cX8_act 50 = .ok (.ireturn, 1) := by decide +kernel
theorem dX8_act_51 : decode cX8_act 51 = .ok (.aload_n 0, 1) := by decide +kernel
theorem dX8_act_52 : decode cX8_act 52 = .ok (.aload_n 3, 1) := by decide +kernel
theorem dX8_act_53 : decode cX8_act 53 = .ok (.invokevirtual 58, 3) := by decide +kernel
theorem dX8_act_56 : decode cX8_act 56 = .ok (.ireturn, 1) := by decide +kernel
theorem dX8_turnTop_0 : decode cX8_turnTop 0 = .ok (.iload_n 1, 1) := by decide +kernel
theorem dX8_turnTop_1 : decode cX8_turnTop 1 = .ok (.iconst 1, 1) := by decide +kernel
theorem dX8_turnTop_2 : decode cX8_turnTop 2 = .ok (.if_icmp .lt 9, 3) := by decide +kernel
theorem dX8_turnTop_5 : decode cX8_turnTop 5 = .ok (.iload_n 1, 1) := by decide +kernel
theorem dX8_turnTop_6 : decode cX8_turnTop 6 = .ok (.bipush 6, 2) := by decide +kernel
theorem dX8_turnTop_8 : decode cX8_turnTop 8 = .ok (.if_icmp .le 5, 3) := by decide +kernel
theorem dX8_turnTop_11 : decode cX8_turnTop 11 = .ok (.iconst (-1), 1) := by decide +kernel
theorem dX8_turnTop_12 : decode cX8_turnTop 12 = .ok (.ireturn, 1) := by decide +kernel
theorem dX8_turnTop_13 : decode cX8_turnTop 13 = .ok (.iload_n 1, 1) := by decide +kernel
theorem dX8_turnTop_14 : decode cX8_turnTop 14 = .ok (.aload_n 0, 1) := by decide +kernel
theorem dX8_turnTop_15 : decode cX8_turnTop 15 = .ok (.getfield 18, 3) := by decide +kernel
theorem dX8_turnTop_18 : decode cX8_turnTop 18 = .ok (.if_icmp .gt 12, 3) := by decide +kernel
theorem dX8_turnTop_30 : decode cX8_turnTop 30 = .ok (.bipush (-3), 2) := by decide +kernel
theorem dX8_turnTop_32 : decode cX8_turnTop 32 = .ok (.ireturn, 1) := by decide +kernel
set_option maxRecDepth 20000 in
theorem ggX8_rightAt_X8_isFloor : GoodIn wsX8_rightAt wsX8_isFloor := goodIn_r _ [6, 7, 8, 9, 10, 11, 12] rfl (by decide +kernel)
set_option maxRecDepth 20000 in
theorem gX8_rightAt_X8_isFloor : GoodIn wsX8_rightAt (wsV RX8 28 RX8 yX8_isFloor wsX8_isFloor) := goodIn_app (goodIn_of _ (by decide +kernel)) ggX8_rightAt_X8_isFloor
theorem dX8_rightAt_0 : decode cX8_rightAt 0 = .ok (.iload_n 1, 1) := by decide +kernel
theorem dX8_rightAt_1 : decode cX8_rightAt 1 = .ok (.ifCond .lt 9, 3) := by decide +kernel
theorem dX8_rightAt_4 : decode cX8_rightAt 4 = .ok (.iload_n 1, 1) := by decide +kernel
theorem dX8_rightAt_5 : decode cX8_rightAt 5 = .ok (.bipush 6, 2) := by decide +kernel
theorem dX8_rightAt_7 : decode cX8_rightAt 7 = .ok (.if_icmp .lt 5, 3) := by decide +kernel
theorem dX8_rightAt_10 : decode cX8_rightAt 10 = .ok (.iconst (-1), 1) := by decide +kernel
theorem dX8_rightAt_11 : decode cX8_rightAt 11 = .ok (.ireturn, 1) := by decide +kernel
theorem dX8_rightAt_12 : decode cX8_rightAt 12 = .ok (.aload_n 0, 1) := by decide +kernel
theorem dX8_rightAt_13 : decode cX8_rightAt 13 = .ok (.iload_n 1, 1) := by decide +kernel
theorem dX8_rightAt_14 : decode cX8_rightAt 14 = .ok (.invokevirtual 28, 3) := by decide +kernel
theorem dX8_rightAt_17 : decode cX8_rightAt 17 = .ok (.ifCond .ne 6, 3) := by decide +kernel
theorem dX8_rightAt_20 : decode cX8_rightAt 20 = .ok (.bipush (-3), 2) := by decide +kernel
theorem dX8_rightAt_22 : decode cX8_rightAt 22 = .ok (.ireturn, 1) := by decide +kernel
theorem dX8_rightAt_23 : decode cX8_rightAt 23 = .ok (.aload_n 0, 1) := by decide +kernel
theorem dX8_rightAt_24 : decode cX8_rightAt 24 = .ok (.getfield 15, 3) := by decide +kernel
theorem dX8_rightAt_27 : decode cX8_rightAt 27 = .ok (.iload_n 1, 1) := by decide +kernel
theorem dX8_rightAt_28 : decode cX8_rightAt 28 = .ok (.iconst 1, 1) := by decide +kernel
theorem dX8_rightAt_29 : decode cX8_rightAt 29 = .ok (.aload_n 0, 1) := by decide +kernel
theorem dX8_rightAt_30 : decode cX8_rightAt 30 = .ok (.getfield 15, 3) := by decide +kernel
theorem dX8_rightAt_33 : decode cX8_rightAt 33 = .ok (.iload_n 1, 1) := by decide +kernel
theorem dX8_rightAt_34 : decode cX8_rightAt 34 = .ok (.iaload, 1) := by decide +kernel
theorem dX8_rightAt_35 : decode cX8_rightAt 35 = .ok (.isub, 1) := by decide +kernel
theorem dX8_rightAt_36 : decode cX8_rightAt 36 = .ok (.iastore, 1) := by decide +kernel
theorem dX8_rightAt_37 : decode cX8_rightAt 37 = .ok (.aload_n 0, 1) := by decide +kernel
theorem dX8_rightAt_38 : decode cX8_rightAt 38 = .ok (.getfield 15, 3) := by decide +kernel
theorem dX8_rightAt_41 : decode cX8_rightAt 41 = .ok (.iload_n 1, 1) := by decide +kernel
theorem dX8_rightAt_42 : decode cX8_rightAt 42 = .ok (.iaload, 1) := by decide +kernel
theorem dX8_rightAt_43 : decode cX8_rightAt 43 = .ok (.ireturn, 1) := by decide +kernel
set_option maxRecDepth 20000 in
theorem ggX8_swapAt_X8_isFloor : GoodIn wsX8_swapAt wsX8_isFloor := goodIn_r _ [6, 7, 13, 14, 15, 16, 17] rfl (by decide +kernel)
set_option maxRecDepth 20000 in
theorem gX8_swapAt_X8_isFloor : GoodIn wsX8_swapAt (wsV RX8 28 RX8 yX8_isFloor wsX8_isFloor) := goodIn_app (goodIn_of _ (by decide +kernel)) ggX8_swapAt_X8_isFloor
theorem dX8_swapAt_0 : decode cX8_swapAt 0 = .ok (.iload_n 1, 1) := by decide +kernel
theorem dX8_swapAt_1 : decode cX8_swapAt 1 = .ok (.ifCond .lt 8, 3) := by decide +kernel
theorem dX8_swapAt_4 : decode cX8_swapAt 4 = .ok (.iload_n 1, 1) := by decide +kernel
theorem dX8_swapAt_5 : decode cX8_swapAt 5 = .ok (.iconst 5, 1) := by decide +kernel
theorem dX8_swapAt_6 : decode cX8_swapAt 6 = .ok (.if_icmp .lt 5, 3) := by decide +kernel
theorem dX8_swapAt_9 : decode cX8_swapAt 9 = .ok (.iconst (-1), 1) := by decide +kernel
theorem dX8_swapAt_10 : decode cX8_swapAt 10 = .ok (.ireturn, 1) := by decide +kernel
theorem dX8_swapAt_11 : decode cX8_swapAt 11 = .ok (.aload_n 0, 1) := by decide +kernel
theorem dX8_swapAt_12 : decode cX8_swapAt 12 = .ok (.iload_n 1, 1) := by decide +kernel
theorem dX8_swapAt_13 : decode cX8_swapAt 13 = .ok (.iconst 1, 1) := by decide +kernel
theorem dX8_swapAt_14 : decode cX8_swapAt 14 = .ok (.iadd, 1) := by decide +kernel
theorem dX8_swapAt_15 : decode cX8_swapAt 15 = .ok (.invokevirtual 28, 3) := by decide +kernel
theorem dX8_swapAt_18 : decode cX8_swapAt 18 = .ok (.ifCond .ne 6, 3) := by decide +kernel
theorem dX8_swapAt_21 : decode cX8_swapAt 21 = .ok (.bipush (-3), 2) := by decide +kernel
theorem dX8_swapAt_23 : decode cX8_swapAt 23 = .ok (.ireturn, 1) := by decide +kernel
set_option maxRecDepth 20000 in
theorem ggX8_passYear_J6_bitCount_0f7a4 : GoodIn wsX8_passYear wsJ6_bitCount_0f7a4 := goodIn_r _ [48, 49, 50, 51] rfl (by decide +kernel)
set_option maxRecDepth 20000 in
theorem gX8_passYear_J6_bitCount_0f7a4 : GoodIn wsX8_passYear (va_wsS RX8 83 yJ6_bitCount_0f7a4 wsJ6_bitCount_0f7a4) := goodIn_app (goodIn_of _ (by decide +kernel)) ggX8_passYear_J6_bitCount_0f7a4
theorem dX8_passYear_0 : decode cX8_passYear 0 = .ok (.aload_n 0, 1) := by decide +kernel
theorem dX8_passYear_1 : decode cX8_passYear 1 = .ok (.getfield 25, 3) := by decide +kernel
theorem dX8_passYear_4 : decode cX8_passYear 4 = .ok (.sipush 999, 3) := by decide +kernel
theorem dX8_passYear_7 : decode cX8_passYear 7 = .ok (.if_icmp .lt 6, 3) := by decide +kernel
theorem dX8_passYear_13 : decode cX8_passYear 13 = .ok (.iconst 0, 1) := by decide +kernel
theorem dX8_passYear_14 : decode cX8_passYear 14 = .ok (.istore_n 2, 1) := by decide +kernel
theorem dX8_passYear_15 : decode cX8_passYear 15 = .ok (.iconst 0, 1) := by decide +kernel
theorem dX8_passYear_16 : decode cX8_passYear 16 = .ok (.istore_n 3, 1) := by decide +kernel
theorem dX8_passYear_17 : decode cX8_passYear 17 = .ok (.iload_n 3, 1) := by decide +kernel
theorem dX8_passYear_18 : decode cX8_passYear 18 = .ok (.aload_n 0, 1) := by decide +kernel
theorem dX8_passYear_19 : decode cX8_passYear 19 = .ok (.getfield 18, 3) := by decide +kernel
theorem dX8_passYear_22 : decode cX8_passYear 22 = .ok (.if_icmp .ge 23, 3) := by decide +kernel
theorem dX8_passYear_45 : decode cX8_passYear 45 = .ok (.iconst 0, 1) := by decide +kernel
theorem dX8_passYear_46 : decode cX8_passYear 46 = .ok (.istore_n 3, 1) := by decide +kernel
theorem dX8_passYear_47 : decode cX8_passYear 47 = .ok (.iload_n 3, 1) := by decide +kernel
theorem dX8_passYear_48 : decode cX8_passYear 48 = .ok (.aload_n 0, 1) := by decide +kernel
theorem dX8_passYear_49 : decode cX8_passYear 49 = .ok (.getfield 18, 3) := by decide +kernel
theorem dX8_passYear_52 : decode cX8_passYear 52 = .ok (.if_icmp .ge 23, 3) := by decide +kernel
theorem dX8_passYear_75 : decode cX8_passYear 75 = .ok (.aload_n 0, 1) := by decide +kernel
theorem dX8_passYear_76 : decode cX8_passYear 76 = .ok (.dup, 1) := by decide +kernel
theorem dX8_passYear_77 : decode cX8_passYear 77 = .ok (.getfield 25, 3) := by decide +kernel
theorem dX8_passYear_80 : decode cX8_passYear 80 = .ok (.iconst 1, 1) := by decide +kernel
theorem dX8_passYear_81 : decode cX8_passYear 81 = .ok (.iadd, 1) := by decide +kernel
theorem dX8_passYear_82 : decode cX8_passYear 82 = .ok (.putfield 25, 3) := by decide +kernel
theorem dX8_passYear_85 : decode cX8_passYear 85 = .ok (.iload_n 2, 1) := by decide +kernel
theorem dX8_passYear_86 : decode cX8_passYear 86 = .ok (.invokestatic 83, 3) := by decide +kernel
theorem dX8_passYear_89 : decode cX8_passYear 89 = .ok (.ireturn, 1) := by decide +kernel
set_option maxRecDepth 20000 in
theorem ggX9_force_X6_isLaw : GoodIn wsX9_force wsX6_isLaw := goodIn_r _ [6, 7, 38, 39, 40, 41, 42, 43, 44, 45, 46, 47] rfl (by decide +kernel)
set_option maxRecDepth 20000 in
theorem gX9_force_X6_isLaw : GoodIn wsX9_force (wsV RX9 205 RX6 yX6_isLaw wsX6_isLaw) := goodIn_app (goodIn_of _ (by decide +kernel)) ggX9_force_X6_isLaw
set_option maxRecDepth 20000 in
theorem ggX9_force_X9_refuse : GoodIn wsX9_force wsX9_refuse := goodIn_r _ [12, 13, 14, 19, 20, 21, 22, 23, 24, 25, 26, 27, 28, 29, 30, 31, 32, 33, 34, 35, 36, 37] rfl (by decide +kernel)
set_option maxRecDepth 20000 in
theorem gX9_force_X9_refuse : GoodIn wsX9_force (wsV RX9 118 RX9 yX9_refuse wsX9_refuse) := goodIn_app (goodIn_of _ (by decide +kernel)) ggX9_force_X9_refuse
set_option maxRecDepth 20000 in
theorem ggX9_force_X9_accept : GoodIn wsX9_force wsX9_accept := goodIn_r _ [18, 13, 19, 20, 21, 22, 23, 24, 25, 26, 27, 28, 29, 30, 31, 32, 33, 34, 35, 36, 37] rfl (by decide +kernel)
set_option maxRecDepth 20000 in
theorem gX9_force_X9_accept : GoodIn wsX9_force (wsV RX9 138 RX9 yX9_accept wsX9_accept) := goodIn_app (goodIn_of _ (by decide +kernel)) ggX9_force_X9_accept
theorem dX9_force_0 : decode cX9_force 0 = .ok (.iload_n 1, 1) := by decide +kernel
theorem dX9_force_1 : decode cX9_force 1 = .ok (.iconst (-1), 1) := by decide +kernel
theorem dX9_force_2 : decode cX9_force 2 = .ok (.if_icmp .eq 21, 3) := by decide +kernel
theorem dX9_force_5 : decode cX9_force 5 = .ok (.aload_n 0, 1) := by decide +kernel
theorem dX9_force_6 : decode cX9_force 6 = .ok (.getfield 10, 3) := by decide +kernel
theorem dX9_force_9 : decode cX9_force 9 = .ok (.iload_n 1, 1) := by decide +kernel
theorem dX9_force_10 : decode cX9_force 10 = .ok (.invokevirtual 205, 3) := by decide +kernel
theorem dX9_force_13 : decode cX9_force 13 = .ok (.ifCond .ne 10, 3) := by decide +kernel
theorem dX9_force_16 : decode cX9_force 16 = .ok (.aload_n 0, 1) := by decide +kernel
theorem dX9_force_17 : decode cX9_force 17 = .ok (.bipush (-2), 2) := by decide +kernel
theorem dX9_force_19 : decode cX9_force 19 = .ok (.invokevirtual 118, 3) := by decide +kernel
theorem dX9_force_22 : decode cX9_force 22 = .ok (.ireturn, 1) := by decide +kernel
theorem dX9_force_23 : decode cX9_force 23 = .ok (.aload_n 0, 1) := by decide +kernel
theorem dX9_force_24 : decode cX9_force 24 = .ok (.getfield 10, 3) := by decide +kernel
theorem dX9_force_27 : decode cX9_force 27 = .ok (.getfield 208, 3) := by decide +kernel
theorem dX9_force_30 : decode cX9_force 30 = .ok (.istore_n 2, 1) := by decide +kernel
theorem dX9_force_31 : decode cX9_force 31 = .ok (.aload_n 0, 1) := by decide +kernel
theorem dX9_force_32 : decode cX9_force 32 = .ok (.getfield 10, 3) := by decide +kernel
theorem dX9_force_35 : decode cX9_force 35 = .ok (.iload_n 1, 1) := by decide +kernel
theorem dX9_force_36 : decode cX9_force 36 = .ok (.putfield 208, 3) := by decide +kernel
theorem dX9_force_39 : decode cX9_force 39 = .ok (.aload_n 0, 1) := by decide +kernel
theorem dX9_force_40 : decode cX9_force 40 = .ok (.iload_n 2, 1) := by decide +kernel
theorem dX9_force_41 : decode cX9_force 41 = .ok (.invokevirtual 138, 3) := by decide +kernel
theorem dX9_force_44 : decode cX9_force 44 = .ok (.ireturn, 1) := by decide +kernel
set_option maxRecDepth 20000 in
theorem ggX9_turn_X9_move : GoodIn wsX9_turn wsX9_move := goodIn_r _ [5, 6, 7, 8, 9, 10, 11, 12, 13, 14, 15, 16, 17, 18, 19, 20, 4, 21, 22, 23, 24, 25, 26, 27, 28, 29, 30, 31, 32, 33, 34, 35, 36, 37, 38, 39, 40, 41, 42, 43, 44, 45, 46, 47, 48, 49, 50, 51, 52, 53, 54, 55, 56, 57, 58, 59, 60, 61, 62, 63, 64, 65, 66, 67, 68, 69, 70, 71, 72, 73, 74, 75, 76, 77, 78, 79, 80, 81, 82, 83, 84, 85, 86, 87, 88, 89, 90, 91, 92, 93, 94, 95, 96, 97, 98, 99, 100, 101, 102, 103, 104, 105, 106, 107, 108, 109, 110, 111, 112, 113, 114, 115, 116, 117, 118, 119, 120, 121, 122, 123, 124, 125, 126, 127, 128, 129, 130, 131, 132, 133, 134, 135, 136, 137, 138, 139, 140, 141, 142, 143, 144, 145, 146, 147, 148, 149, 150, 151, 152, 153, 154, 155, 156, 157, 158, 159, 160, 161, 162, 163, 164, 165, 166, 167, 168, 169, 170, 171, 172, 173, 174, 175, 176, 177, 178, 179, 180, 181, 182, 183, 184, 185, 186, 187, 188, 189, 190, 191, 192, 193, 194, 195, 196, 197, 198, 199, 200, 201, 202, 203, 204, 205, 206, 207, 208, 209, 210, 211, 212, 213, 214] rfl (by decide +kernel)
set_option maxRecDepth 20000 in
theorem gX9_turn_X9_move : GoodIn wsX9_turn (wsV RX9 211 RX9 yX9_move wsX9_move) := goodIn_app (goodIn_of _ (by decide +kernel)) ggX9_turn_X9_move
theorem dX9_turn_0 : decode cX9_turn 0 = .ok (.aload_n 0, 1) := by decide +kernel
theorem dX9_turn_1 : decode cX9_turn 1 = .ok (.iconst 0, 1) := by decide +kernel
theorem dX9_turn_2 : decode cX9_turn 2 = .ok (.iload_n 1, 1) := by decide +kernel
theorem dX9_turn_3 : decode cX9_turn 3 = .ok (.invokevirtual 211, 3) := by decide +kernel
theorem dX9_turn_6 : decode cX9_turn 6 = .ok (.ireturn, 1) := by decide +kernel
set_option maxRecDepth 20000 in
theorem ggX9_right_X9_move : GoodIn wsX9_right wsX9_move := goodIn_r _ [5, 6, 7, 8, 9, 10, 11, 12, 13, 14, 15, 16, 17, 18, 19, 20, 4, 21, 22, 23, 24, 25, 26, 27, 28, 29, 30, 31, 32, 33, 34, 35, 36, 37, 38, 39, 40, 41, 42, 43, 44, 45, 46, 47, 48, 49, 50, 51, 52, 53, 54, 55, 56, 57, 58, 59, 60, 61, 62, 63, 64, 65, 66, 67, 68, 69, 70, 71, 72, 73, 74, 75, 76, 77, 78, 79, 80, 81, 82, 83, 84, 85, 86, 87, 88, 89, 90, 91, 92, 93, 94, 95, 96, 97, 98, 99, 100, 101, 102, 103, 104, 105, 106, 107, 108, 109, 110, 111, 112, 113, 114, 115, 116, 117, 118, 119, 120, 121, 122, 123, 124, 125, 126, 127, 128, 129, 130, 131, 132, 133, 134, 135, 136, 137, 138, 139, 140, 141, 142, 143, 144, 145, 146, 147, 148, 149, 150, 151, 152, 153, 154, 155, 156, 157, 158, 159, 160, 161, 162, 163, 164, 165, 166, 167, 168, 169, 170, 171, 172, 173, 174, 175, 176, 177, 178, 179, 180, 181, 182, 183, 184, 185, 186, 187, 188, 189, 190, 191, 192, 193, 194, 195, 196, 197, 198, 199, 200, 201, 202, 203, 204, 205, 206, 207, 208, 209, 210, 211, 212, 213, 214] rfl (by decide +kernel)
set_option maxRecDepth 20000 in
theorem gX9_right_X9_move : GoodIn wsX9_right (wsV RX9 211 RX9 yX9_move wsX9_move) := goodIn_app (goodIn_of _ (by decide +kernel)) ggX9_right_X9_move
theorem dX9_right_0 : decode cX9_right 0 = .ok (.aload_n 0, 1) := by decide +kernel
theorem dX9_right_1 : decode cX9_right 1 = .ok (.iconst 1, 1) := by decide +kernel
theorem dX9_right_2 : decode cX9_right 2 = .ok (.iload_n 1, 1) := by decide +kernel
theorem dX9_right_3 : decode cX9_right 3 = .ok (.invokevirtual 211, 3) := by decide +kernel
theorem dX9_right_6 : decode cX9_right 6 = .ok (.ireturn, 1) := by decide +kernel
set_option maxRecDepth 20000 in
theorem ggX9_swap_X9_move : GoodIn wsX9_swap wsX9_move := goodIn_r _ [5, 6, 7, 8, 9, 10, 11, 12, 13, 14, 15, 16, 17, 18, 19, 20, 4, 21, 22, 23, 24, 25, 26, 27, 28, 29, 30, 31, 32, 33, 34, 35, 36, 37, 38, 39, 40, 41, 42, 43, 44, 45, 46, 47, 48, 49, 50, 51, 52, 53, 54, 55, 56, 57, 58, 59, 60, 61, 62, 63, 64, 65, 66, 67, 68, 69, 70, 71, 72, 73, 74, 75, 76, 77, 78, 79, 80, 81, 82, 83, 84, 85, 86, 87, 88, 89, 90, 91, 92, 93, 94, 95, 96, 97, 98, 99, 100, 101, 102, 103, 104, 105, 106, 107, 108, 109, 110, 111, 112, 113, 114, 115, 116, 117, 118, 119, 120, 121, 122, 123, 124, 125, 126, 127, 128, 129, 130, 131, 132, 133, 134, 135, 136, 137, 138, 139, 140, 141, 142, 143, 144, 145, 146, 147, 148, 149, 150, 151, 152, 153, 154, 155, 156, 157, 158, 159, 160, 161, 162, 163, 164, 165, 166, 167, 168, 169, 170, 171, 172, 173, 174, 175, 176, 177, 178, 179, 180, 181, 182, 183, 184, 185, 186, 187, 188, 189, 190, 191, 192, 193, 194, 195, 196, 197, 198, 199, 200, 201, 202, 203, 204, 205, 206, 207, 208, 209, 210, 211, 212, 213, 214] rfl (by decide +kernel)
set_option maxRecDepth 20000 in
theorem gX9_swap_X9_move : GoodIn wsX9_swap (wsV RX9 211 RX9 yX9_move wsX9_move) := goodIn_app (goodIn_of _ (by decide +kernel)) ggX9_swap_X9_move
theorem dX9_swap_0 : decode cX9_swap 0 = .ok (.aload_n 0, 1) := by decide +kernel
theorem dX9_swap_1 : decode cX9_swap 1 = .ok (.iconst 2, 1) := by decide +kernel
theorem dX9_swap_2 : decode cX9_swap 2 = .ok (.iload_n 1, 1) := by decide +kernel
theorem dX9_swap_3 : decode cX9_swap 3 = .ok (.invokevirtual 211, 3) := by decide +kernel
theorem dX9_swap_6 : decode cX9_swap 6 = .ok (.ireturn, 1) := by decide +kernel
set_option maxRecDepth 20000 in
theorem ggX9_pass_X9_move : GoodIn wsX9_pass wsX9_move := goodIn_r _ [5, 6, 7, 8, 9, 10, 11, 12, 13, 14, 15, 16, 17, 18, 19, 20, 4, 21, 22, 23, 24, 25, 26, 27, 28, 29, 30, 31, 32, 33, 34, 35, 36, 37, 38, 39, 40, 41, 42, 43, 44, 45, 46, 47, 48, 49, 50, 51, 52, 53, 54, 55, 56, 57, 58, 59, 60, 61, 62, 63, 64, 65, 66, 67, 68, 69, 70, 71, 72, 73, 74, 75, 76, 77, 78, 79, 80, 81, 82, 83, 84, 85, 86, 87, 88, 89, 90, 91, 92, 93, 94, 95, 96, 97, 98, 99, 100, 101, 102, 103, 104, 105, 106, 107, 108, 109, 110, 111, 112, 113, 114, 115, 116, 117, 118, 119, 120, 121, 122, 123, 124, 125, 126, 127, 128, 129, 130, 131, 132, 133, 134, 135, 136, 137, 138, 139, 140, 141, 142, 143, 144, 145, 146, 147, 148, 149, 150, 151, 152, 153, 154, 155, 156, 157, 158, 159, 160, 161, 162, 163, 164, 165, 166, 167, 168, 169, 170, 171, 172, 173, 174, 175, 176, 177, 178, 179, 180, 181, 182, 183, 184, 185, 186, 187, 188, 189, 190, 191, 192, 193, 194, 195, 196, 197, 198, 199, 200, 201, 202, 203, 204, 205, 206, 207, 208, 209, 210, 211, 212, 213, 214] rfl (by decide +kernel)
set_option maxRecDepth 20000 in
theorem gX9_pass_X9_move : GoodIn wsX9_pass (wsV RX9 211 RX9 yX9_move wsX9_move) := goodIn_app (goodIn_of _ (by decide +kernel)) ggX9_pass_X9_move
theorem dX9_pass_0 : decode cX9_pass 0 = .ok (.aload_n 0, 1) := by decide +kernel
theorem dX9_pass_1 : decode cX9_pass 1 = .ok (.iconst 3, 1) := by decide +kernel
theorem dX9_pass_2 : decode cX9_pass 2 = .ok (.iconst 0, 1) := by decide +kernel
theorem dX9_pass_3 : decode cX9_pass 3 = .ok (.invokevirtual 211, 3) := by decide +kernel
theorem dX9_pass_6 : decode cX9_pass 6 = .ok (.ireturn, 1) := by decide +kernel
set_option maxRecDepth 20000 in
theorem ggX9_move_X8_pack : GoodIn wsX9_move wsX8_pack := goodIn_r _ [7, 8, 9, 10, 11, 12, 187, 188, 189, 190, 191] rfl (by decide +kernel)
set_option maxRecDepth 20000 in
theorem gX9_move_X8_pack : GoodIn wsX9_move (wsV RX9 318 RX8 yX8_pack wsX8_pack) := goodIn_app (goodIn_of _ (by decide +kernel)) ggX9_move_X8_pack
set_option maxRecDepth 20000 in
theorem ggX9_move_X9_seated : GoodIn wsX9_move wsX9_seated := goodIn_r _ [17, 18, 1, 19, 20, 21, 22, 23, 24, 25, 26, 27, 28, 29, 30, 31, 32, 33, 34, 35, 36, 158, 159, 160, 161, 162, 163, 164, 165, 166, 167, 168, 169, 170, 171, 172, 173, 174, 175, 176, 177, 178, 179, 180, 181, 182, 183, 184, 185, 186, 192, 193, 194] rfl (by decide +kernel)
set_option maxRecDepth 20000 in
theorem gX9_move_X9_seated : GoodIn wsX9_move (wsV RX9 144 RX9 yX9_seated wsX9_seated) := goodIn_app (goodIn_of _ (by decide +kernel)) ggX9_move_X9_seated
set_option maxRecDepth 20000 in
theorem ggX9_move_X8_act : GoodIn wsX9_move wsX8_act := goodIn_r _ [40, 41, 42, 43, 6, 44, 8, 10, 11, 45, 46, 47, 48, 49, 50, 51, 33, 52, 53, 54, 55, 56, 57, 58, 59, 60, 36, 61, 62, 63, 64, 9, 65, 66, 67, 68, 69, 16, 70, 71, 72, 73, 74, 75, 76, 77, 78, 35, 79, 80, 81, 82, 83, 84, 85, 86, 87, 88, 89, 90, 91, 92, 93, 94, 95, 96, 97, 98, 99, 100, 101, 102, 103, 104, 105, 106, 107, 108, 109, 110, 111, 112, 113, 114, 115, 116, 117, 118, 119, 120, 121, 12, 122, 123, 124, 125, 126, 127, 128, 129, 130, 131, 132, 133, 134, 135, 187, 188, 189, 190, 191, 192, 193, 194, 195, 196, 197, 198, 199, 200, 201, 202, 203, 204] rfl (by decide +kernel)
set_option maxRecDepth 20000 in
theorem gX9_move_X8_act : GoodIn wsX9_move (wsV RX9 325 RX8 yX8_act wsX8_act) := goodIn_app (goodIn_of _ (by decide +kernel)) ggX9_move_X8_act
set_option maxRecDepth 20000 in
theorem ggX9_move_X9_refuse : GoodIn wsX9_move wsX9_refuse := goodIn_r _ [139, 140, 141, 158, 159, 160, 161, 162, 163, 164, 165, 166, 167, 168, 169, 170, 171, 172, 173, 174, 175, 176] rfl (by decide +kernel)
set_option maxRecDepth 20000 in
theorem gX9_move_X9_refuse : GoodIn wsX9_move (wsV RX9 118 RX9 yX9_refuse wsX9_refuse) := goodIn_app (goodIn_of _ (by decide +kernel)) ggX9_move_X9_refuse
set_option maxRecDepth 20000 in
theorem ggX9_move_X0_keep : GoodIn wsX9_move wsX0_keep := goodIn_r _ [146, 147, 148, 149, 150, 151, 152, 153, 205, 206, 207, 208, 209, 210] rfl (by decide +kernel)
set_option maxRecDepth 20000 in
theorem gX9_move_X0_keep : GoodIn wsX9_move (wsV RX9 342 RX0 yX0_keep wsX0_keep) := goodIn_app (goodIn_of _ (by decide +kernel)) ggX9_move_X0_keep
set_option maxRecDepth 20000 in
theorem ggX9_move_X9_accept : GoodIn wsX9_move wsX9_accept := goodIn_r _ [157, 140, 158, 159, 160, 161, 162, 163, 164, 165, 166, 167, 168, 169, 170, 171, 172, 173, 174, 175, 176] rfl (by decide +kernel)
set_option maxRecDepth 20000 in
theorem gX9_move_X9_accept : GoodIn wsX9_move (wsV RX9 138 RX9 yX9_accept wsX9_accept) := goodIn_app (goodIn_of _ (by decide +kernel)) ggX9_move_X9_accept
theorem dX9_move_0 : decode cX9_move 0 = .ok (.aload_n 0, 1) := by decide +kernel
theorem dX9_move_1 : decode cX9_move 1 = .ok (.getfield 10, 3) := by decide +kernel
theorem dX9_move_4 : decode cX9_move 4 = .ok (.getfield 122, 3) := by decide +kernel
theorem dX9_move_7 : decode cX9_move 7 = .ok (.invokevirtual 318, 3) := by decide +kernel
theorem dX9_move_10 : decode cX9_move 10 = .ok (.lstore_n 3, 1) := by decide +kernel
theorem dX9_move_11 : decode cX9_move 11 = .ok (.aload_n 0, 1) := by decide +kernel
theorem dX9_move_12 : decode cX9_move 12 = .ok (.getfield 10, 3) := by decide +kernel
theorem dX9_move_15 : decode cX9_move 15 = .ok (.getfield 122, 3) := by decide +kernel
theorem dX9_move_18 : decode cX9_move 18 = .ok (.iload_n 1, 1) := by decide +kernel
theorem dX9_move_19 : decode cX9_move 19 = .ok (.iload_n 2, 1) := by decide +kernel
theorem dX9_move_20 : decode cX9_move 20 = .ok (.aload_n 0, 1) := by decide +kernel
theorem dX9_move_21 : decode cX9_move 21 = .ok (.invokevirtual 144, 3) := by decide +kernel
theorem dX9_move_24 : decode cX9_move 24 = .ok (.invokevirtual 325, 3) := by decide +kernel
theorem dX9_move_27 : decode cX9_move 27 = .ok (.istore 5, 2) := by decide +kernel
theorem dX9_move_29 : decode cX9_move 29 = .ok (.iload 5, 2) := by decide +kernel
theorem dX9_move_31 : decode cX9_move 31 = .ok (.ifCond .ge 10, 3) := by decide +kernel
theorem dX9_move_34 : decode cX9_move 34 = .ok (.aload_n 0, 1) := by decide +kernel
theorem dX9_move_35 : decode cX9_move 35 = .ok (.iload 5, 2) := by decide +kernel
theorem dX9_move_37 : decode cX9_move 37 = .ok (.invokevirtual 118, 3) := by decide +kernel
theorem dX9_move_40 : decode cX9_move 40 = .ok (.ireturn, 1) := by decide +kernel
theorem dX9_move_41 : decode cX9_move 41 = .ok (.aload_n 0, 1) := by decide +kernel
theorem dX9_move_42 : decode cX9_move 42 = .ok (.getfield 27, 3) := by decide +kernel
theorem dX9_move_45 : decode cX9_move 45 = .ok (.iload_n 1, 1) := by decide +kernel
theorem dX9_move_46 : decode cX9_move 46 = .ok (.lload_n 3, 1) := by decide +kernel
theorem dX9_move_47 : decode cX9_move 47 = .ok (.invokevirtual 342, 3) := by decide +kernel
theorem dX9_move_50 : decode cX9_move 50 = .ok (.aload_n 0, 1) := by decide +kernel
theorem dX9_move_51 : decode cX9_move 51 = .ok (.iload 5, 2) := by decide +kernel
theorem dX9_move_53 : decode cX9_move 53 = .ok (.invokevirtual 138, 3) := by decide +kernel
theorem dX9_move_56 : decode cX9_move 56 = .ok (.ireturn, 1) := by decide +kernel
set_option maxRecDepth 20000 in
theorem ggX9_seated_X6_lawAt : GoodIn wsX9_seated wsX6_lawAt := goodIn_r _ [7, 8, 9, 10, 11, 6, 12, 13, 40, 41, 42, 43, 44, 45, 46, 47, 48, 49] rfl (by decide +kernel)
set_option maxRecDepth 20000 in
theorem gX9_seated_X6_lawAt : GoodIn wsX9_seated (wsV RX9 306 RX6 yX6_lawAt wsX6_lawAt) := goodIn_app (goodIn_of _ (by decide +kernel)) ggX9_seated_X6_lawAt
set_option maxRecDepth 20000 in
theorem ggX9_seated_X1_seat : GoodIn wsX9_seated wsX1_seat := goodIn_r _ [18, 19, 20, 50, 51, 52] rfl (by decide +kernel)
set_option maxRecDepth 20000 in
theorem gX9_seated_X1_seat : GoodIn wsX9_seated (wsV RX9 313 RX1 yX1_seat wsX1_seat) := goodIn_app (goodIn_of _ (by decide +kernel)) ggX9_seated_X1_seat
theorem dX9_seated_0 : decode cX9_seated 0 = .ok (.aload_n 0, 1) := by decide +kernel
theorem dX9_seated_1 : decode cX9_seated 1 = .ok (.getfield 50, 3) := by decide +kernel
theorem dX9_seated_4 : decode cX9_seated 4 = .ok (.aload_n 0, 1) := by decide +kernel
theorem dX9_seated_5 : decode cX9_seated 5 = .ok (.getfield 10, 3) := by decide +kernel
theorem dX9_seated_8 : decode cX9_seated 8 = .ok (.aload_n 0, 1) := by decide +kernel
theorem dX9_seated_9 : decode cX9_seated 9 = .ok (.getfield 10, 3) := by decide +kernel
theorem dX9_seated_12 : decode cX9_seated 12 = .ok (.getfield 208, 3) := by decide +kernel
theorem dX9_seated_15 : decode cX9_seated 15 = .ok (.invokevirtual 306, 3) := by decide +kernel
theorem dX9_seated_18 : decode cX9_seated 18 = .ok (.aload_n 0, 1) := by decide +kernel
theorem dX9_seated_19 : decode cX9_seated 19 = .ok (.getfield 10, 3) := by decide +kernel
theorem dX9_seated_22 : decode cX9_seated 22 = .ok (.getfield 310, 3) := by decide +kernel
theorem dX9_seated_25 : decode cX9_seated 25 = .ok (.invokevirtual 313, 3) := by decide +kernel
theorem dX9_seated_28 : decode cX9_seated 28 = .ok (.aload_n 0, 1) := by decide +kernel
theorem dX9_seated_29 : decode cX9_seated 29 = .ok (.getfield 50, 3) := by decide +kernel
theorem dX9_seated_32 : decode cX9_seated 32 = .ok (.areturn, 1) := by decide +kernel
theorem dJ6_bitCount_0f7a4_0 : decode cJ6_bitCount_0f7a4 0 = .ok (.iload_n 0, 1) := by decide +kernel
theorem dJ6_bitCount_0f7a4_1 : decode cJ6_bitCount_0f7a4 1 = .ok (.iload_n 0, 1) := by decide +kernel
theorem dJ6_bitCount_0f7a4_2 : decode cJ6_bitCount_0f7a4 2 = .ok (.iconst 1, 1) := by decide +kernel
theorem dJ6_bitCount_0f7a4_3 : decode cJ6_bitCount_0f7a4 3 = .ok (.iushr, 1) := by decide +kernel
theorem dJ6_bitCount_0f7a4_4 : decode cJ6_bitCount_0f7a4 4 = .ok (.ldc_w 265, 3) := by decide +kernel
theorem dJ6_bitCount_0f7a4_7 : decode cJ6_bitCount_0f7a4 7 = .ok (.iand, 1) := by decide +kernel
theorem dJ6_bitCount_0f7a4_8 : decode cJ6_bitCount_0f7a4 8 = .ok (.isub, 1) := by decide +kernel
theorem dJ6_bitCount_0f7a4_9 : decode cJ6_bitCount_0f7a4 9 = .ok (.istore_n 0, 1) := by decide +kernel
theorem dJ6_bitCount_0f7a4_10 : decode cJ6_bitCount_0f7a4 10 = .ok (.iload_n 0, 1) := by decide +kernel
theorem dJ6_bitCount_0f7a4_11 : decode cJ6_bitCount_0f7a4 11 = .ok (.ldc_w 266, 3) := by decide +kernel
theorem dJ6_bitCount_0f7a4_14 : decode cJ6_bitCount_0f7a4 14 = .ok (.iand, 1) := by decide +kernel
theorem dJ6_bitCount_0f7a4_15 : decode cJ6_bitCount_0f7a4 15 = .ok (.iload_n 0, 1) := by decide +kernel
theorem dJ6_bitCount_0f7a4_16 : decode cJ6_bitCount_0f7a4 16 = .ok (.iconst 2, 1) := by decide +kernel
theorem dJ6_bitCount_0f7a4_17 : decode cJ6_bitCount_0f7a4 17 = .ok (.iushr, 1) := by decide +kernel
theorem dJ6_bitCount_0f7a4_18 : decode cJ6_bitCount_0f7a4 18 = .ok (.ldc_w 266, 3) := by decide +kernel
theorem dJ6_bitCount_0f7a4_21 : decode cJ6_bitCount_0f7a4 21 = .ok (.iand, 1) := by decide +kernel
theorem dJ6_bitCount_0f7a4_22 : decode cJ6_bitCount_0f7a4 22 = .ok (.iadd, 1) := by decide +kernel
theorem dJ6_bitCount_0f7a4_23 : decode cJ6_bitCount_0f7a4 23 = .ok (.istore_n 0, 1) := by decide +kernel
theorem dJ6_bitCount_0f7a4_24 : decode cJ6_bitCount_0f7a4 24 = .ok (.iload_n 0, 1) := by decide +kernel
theorem dJ6_bitCount_0f7a4_25 : decode cJ6_bitCount_0f7a4 25 = .ok (.iload_n 0, 1) := by decide +kernel
theorem dJ6_bitCount_0f7a4_26 : decode cJ6_bitCount_0f7a4 26 = .ok (.iconst 4, 1) := by decide +kernel
theorem dJ6_bitCount_0f7a4_27 : decode cJ6_bitCount_0f7a4 27 = .ok (.iushr, 1) := by decide +kernel
theorem dJ6_bitCount_0f7a4_28 : decode cJ6_bitCount_0f7a4 28 = .ok (.iadd, 1) := by decide +kernel
theorem dJ6_bitCount_0f7a4_29 : decode cJ6_bitCount_0f7a4 29 = .ok (.ldc_w 267, 3) := by decide +kernel
theorem dJ6_bitCount_0f7a4_32 : decode cJ6_bitCount_0f7a4 32 = .ok (.iand, 1) := by decide +kernel
theorem dJ6_bitCount_0f7a4_33 : decode cJ6_bitCount_0f7a4 33 = .ok (.istore_n 0, 1) := by decide +kernel
theorem dJ6_bitCount_0f7a4_34 : decode cJ6_bitCount_0f7a4 34 = .ok (.iload_n 0, 1) := by decide +kernel
theorem dJ6_bitCount_0f7a4_35 : decode cJ6_bitCount_0f7a4 35 = .ok (.iload_n 0, 1) := by decide +kernel
theorem dJ6_bitCount_0f7a4_36 : decode cJ6_bitCount_0f7a4 36 = .ok (.bipush 8, 2) := by decide +kernel
theorem dJ6_bitCount_0f7a4_38 : decode cJ6_bitCount_0f7a4 38 = .ok (.iushr, 1) := by decide +kernel
theorem dJ6_bitCount_0f7a4_39 : decode cJ6_bitCount_0f7a4 39 = .ok (.iadd, 1) := by decide +kernel
theorem dJ6_bitCount_0f7a4_40 : decode cJ6_bitCount_0f7a4 40 = .ok (.istore_n 0, 1) := by decide +kernel
theorem dJ6_bitCount_0f7a4_41 : decode cJ6_bitCount_0f7a4 41 = .ok (.iload_n 0, 1) := by decide +kernel
theorem dJ6_bitCount_0f7a4_42 : decode cJ6_bitCount_0f7a4 42 = .ok (.iload_n 0, 1) := by decide +kernel
theorem dJ6_bitCount_0f7a4_43 : decode cJ6_bitCount_0f7a4 43 = .ok (.bipush 16, 2) := by decide +kernel
theorem dJ6_bitCount_0f7a4_45 : decode cJ6_bitCount_0f7a4 45 = .ok (.iushr, 1) := by decide +kernel
theorem dJ6_bitCount_0f7a4_46 : decode cJ6_bitCount_0f7a4 46 = .ok (.iadd, 1) := by decide +kernel
theorem dJ6_bitCount_0f7a4_47 : decode cJ6_bitCount_0f7a4 47 = .ok (.istore_n 0, 1) := by decide +kernel
theorem dJ6_bitCount_0f7a4_48 : decode cJ6_bitCount_0f7a4 48 = .ok (.iload_n 0, 1) := by decide +kernel
theorem dJ6_bitCount_0f7a4_49 : decode cJ6_bitCount_0f7a4 49 = .ok (.bipush 63, 2) := by decide +kernel
theorem dJ6_bitCount_0f7a4_51 : decode cJ6_bitCount_0f7a4 51 = .ok (.iand, 1) := by decide +kernel
theorem dJ6_bitCount_0f7a4_52 : decode cJ6_bitCount_0f7a4 52 = .ok (.ireturn, 1) := by decide +kernel
