theorem dX1_seat_0 : decode cX1_seat 0 = .ok (.aload_n 0, 1) := by decide +kernel
theorem dX1_seat_1 : decode cX1_seat 1 = .ok (.aload_n 1, 1) := by decide +kernel
theorem dX1_seat_2 : decode cX1_seat 2 = .ok (.putfield 15, 3) := by decide +kernel
theorem dX1_seat_5 : decode cX1_seat 5 = .ok (.aload_n 0, 1) := by decide +kernel
theorem dX1_seat_6 : decode cX1_seat 6 = .ok (.getfield 11, 3) := by decide +kernel
theorem dX1_seat_9 : decode cX1_seat 9 = .ok (.bipush 8, 2) := by decide +kernel
theorem dX1_seat_11 : decode cX1_seat 11 = .ok (.iload_n 2, 1) := by decide +kernel
theorem dX1_seat_12 : decode cX1_seat 12 = .ok (.iastore, 1) := by decide +kernel
theorem dX1_seat_13 : decode cX1_seat 13 = .ok (.return_, 1) := by decide +kernel
theorem dX1_setCommon_0 : decode cX1_setCommon 0 = .ok (.aload_n 0, 1) := by decide +kernel
theorem dX1_setCommon_1 : decode cX1_setCommon 1 = .ok (.getfield 11, 3) := by decide +kernel
theorem dX1_setCommon_4 : decode cX1_setCommon 4 = .ok (.iconst 4, 1) := by decide +kernel
theorem dX1_setCommon_5 : decode cX1_setCommon 5 = .ok (.iload_n 1, 1) := by decide +kernel
theorem dX1_setCommon_6 : decode cX1_setCommon 6 = .ok (.iastore, 1) := by decide +kernel
theorem dX1_setCommon_7 : decode cX1_setCommon 7 = .ok (.aload_n 0, 1) := by decide +kernel
theorem dX1_setCommon_8 : decode cX1_setCommon 8 = .ok (.getfield 11, 3) := by decide +kernel
theorem dX1_setCommon_11 : decode cX1_setCommon 11 = .ok (.bipush 7, 2) := by decide +kernel
theorem dX1_setCommon_13 : decode cX1_setCommon 13 = .ok (.iload_n 2, 1) := by decide +kernel
theorem dX1_setCommon_14 : decode cX1_setCommon 14 = .ok (.iastore, 1) := by decide +kernel
theorem dX1_setCommon_15 : decode cX1_setCommon 15 = .ok (.return_, 1) := by decide +kernel
set_option maxRecDepth 20000 in
theorem ggX4_read_X7_clear : GoodIn wsX4_read wsX7_clear := goodIn_r _ [18, 19, 20, 189, 190, 191, 192, 193, 194, 195, 196] (by decide +kernel) (by decide +kernel)
set_option maxRecDepth 20000 in
theorem gX4_read_X7_clear : GoodIn wsX4_read (wsV RX4 54 RX7 yX7_clear wsX7_clear) := goodIn_app (goodIn_of _ (by decide +kernel)) ggX4_read_X7_clear
set_option maxRecDepth 20000 in
theorem ggX4_read_X4_step : GoodIn wsX4_read wsX4_step := goodIn_r _ [25, 12, 9, 26, 6, 1, 27, 13, 2, 3, 4, 5, 28, 29, 24, 30, 178, 179, 180, 181, 182, 183, 184, 185, 186, 187, 188] (by decide +kernel) (by decide +kernel)
set_option maxRecDepth 20000 in
theorem gX4_read_X4_step : GoodIn wsX4_read (wsV RX4 59 RX4 yX4_step wsX4_step) := goodIn_app (goodIn_of _ (by decide +kernel)) ggX4_read_X4_step
set_option maxRecDepth 20000 in
theorem ggX4_read_X4_readClause : GoodIn wsX4_read wsX4_readClause := goodIn_r _ [38, 7, 8, 12, 39, 40, 41, 24, 42, 13, 43, 44, 45, 46, 47, 48, 49, 50, 51, 52, 53, 54, 55, 56, 57, 58, 59, 60, 61, 62, 63, 64, 65, 66, 67, 68, 69, 70, 71, 72, 73, 74, 75, 76, 77, 78, 79, 80, 81, 82, 83, 84, 85, 86, 87, 88, 89, 90, 91, 92, 93, 94, 95, 9, 26, 1, 31, 32, 33, 34, 96, 97, 98, 17, 99, 19, 100, 101, 102, 20, 103, 104, 21, 22, 23, 25, 6, 27, 2, 3, 4, 5, 28, 29, 30, 105, 106, 107, 108, 109, 110, 111, 112, 113, 114, 115, 116, 117, 118, 119, 120, 121, 122, 123, 124, 125, 11, 10, 126, 127, 128, 129, 130, 131, 132, 133, 134, 135, 136, 137, 138, 139, 140, 141, 142, 143, 144, 145, 146, 147, 148, 149, 150, 151, 152, 153, 154, 155, 156, 157, 158, 159, 160, 161, 162, 163, 164, 165, 166, 167, 168, 169, 170, 171, 172, 173, 174, 175, 176, 177, 178, 179, 180, 181, 182, 183, 184, 185, 186, 187, 188, 189, 190, 191, 192, 193, 194, 195, 196] (by decide +kernel) (by decide +kernel)
set_option maxRecDepth 20000 in
theorem gX4_read_X4_readClause : GoodIn wsX4_read (wsV RX4 65 RX4 yX4_readClause wsX4_readClause) := goodIn_app (goodIn_of _ (by decide +kernel)) ggX4_read_X4_readClause
set_option maxRecDepth 20000 in
theorem ggX4_read_X4_expectSign : GoodIn wsX4_read wsX4_expectSign := goodIn_r _ [133, 116, 117, 118, 24, 119, 13, 26, 6, 1, 21, 22, 23, 25, 12, 9, 27, 2, 3, 4, 5, 28, 29, 30, 31, 32, 33, 34, 178, 179, 180, 181, 182, 183, 184, 185, 186, 187, 188] (by decide +kernel) (by decide +kernel)
set_option maxRecDepth 20000 in
theorem gX4_read_X4_expectSign : GoodIn wsX4_read (wsV RX4 68 RX4 yX4_expectSign wsX4_expectSign) := goodIn_app (goodIn_of _ (by decide +kernel)) ggX4_read_X4_expectSign
theorem dX4_read_0 : decode cX4_read 0 = .ok (.aload_n 0, 1) := by decide +kernel
theorem dX4_read_1 : decode cX4_read 1 = .ok (.aload_n 1, 1) := by decide +kernel
theorem dX4_read_2 : decode cX4_read 2 = .ok (.putfield 9, 3) := by decide +kernel
theorem dX4_read_5 : decode cX4_read 5 = .ok (.aload_n 0, 1) := by decide +kernel
theorem dX4_read_6 : decode cX4_read 6 = .ok (.iload_n 2, 1) := by decide +kernel
theorem dX4_read_7 : decode cX4_read 7 = .ok (.aload_n 1, 1) := by decide +kernel
theorem dX4_read_8 : decode cX4_read 8 = .ok (.arraylength, 1) := by decide +kernel
theorem dX4_read_9 : decode cX4_read 9 = .ok (.invokestatic 48, 3) := by decide +kernel
theorem dX4_read_12 : decode cX4_read 12 = .ok (.putfield 15, 3) := by decide +kernel
theorem dX4_read_15 : decode cX4_read 15 = .ok (.aload_n 0, 1) := by decide +kernel
theorem dX4_read_16 : decode cX4_read 16 = .ok (.iload_n 3, 1) := by decide +kernel
theorem dX4_read_17 : decode cX4_read 17 = .ok (.putfield 19, 3) := by decide +kernel
theorem dX4_read_20 : decode cX4_read 20 = .ok (.aload_n 0, 1) := by decide +kernel
theorem dX4_read_21 : decode cX4_read 21 = .ok (.aload 4, 2) := by decide +kernel
theorem dX4_read_23 : decode cX4_read 23 = .ok (.putfield 23, 3) := by decide +kernel
theorem dX4_read_26 : decode cX4_read 26 = .ok (.aload_n 0, 1) := by decide +kernel
theorem dX4_read_27 : decode cX4_read 27 = .ok (.getfield 23, 3) := by decide +kernel
theorem dX4_read_30 : decode cX4_read 30 = .ok (.invokevirtual 54, 3) := by decide +kernel
theorem dX4_read_33 : decode cX4_read 33 = .ok (.aload_n 0, 1) := by decide +kernel
theorem dX4_read_34 : decode cX4_read 34 = .ok (.iconst 0, 1) := by decide +kernel
theorem dX4_read_35 : decode cX4_read 35 = .ok (.putfield 33, 3) := by decide +kernel
theorem dX4_read_38 : decode cX4_read 38 = .ok (.aload_n 0, 1) := by decide +kernel
theorem dX4_read_39 : decode cX4_read 39 = .ok (.iconst 0, 1) := by decide +kernel
theorem dX4_read_40 : decode cX4_read 40 = .ok (.putfield 39, 3) := by decide +kernel
theorem dX4_read_43 : decode cX4_read 43 = .ok (.aload_n 0, 1) := by decide +kernel
theorem dX4_read_44 : decode cX4_read 44 = .ok (.iconst 0, 1) := by decide +kernel
theorem dX4_read_45 : decode cX4_read 45 = .ok (.putfield 42, 3) := by decide +kernel
theorem dX4_read_48 : decode cX4_read 48 = .ok (.aload_n 0, 1) := by decide +kernel
theorem dX4_read_49 : decode cX4_read 49 = .ok (.iconst (-1), 1) := by decide +kernel
theorem dX4_read_50 : decode cX4_read 50 = .ok (.putfield 45, 3) := by decide +kernel
theorem dX4_read_53 : decode cX4_read 53 = .ok (.aload_n 0, 1) := by decide +kernel
theorem dX4_read_54 : decode cX4_read 54 = .ok (.invokevirtual 59, 3) := by decide +kernel
theorem dX4_read_57 : decode cX4_read 57 = .ok (.iconst 0, 1) := by decide +kernel
theorem dX4_read_58 : decode cX4_read 58 = .ok (.istore 5, 2) := by decide +kernel
theorem dX4_read_60 : decode cX4_read 60 = .ok (.iload 5, 2) := by decide +kernel
theorem dX4_read_62 : decode cX4_read 62 = .ok (.bipush 12, 2) := by decide +kernel
theorem dX4_read_64 : decode cX4_read 64 = .ok (.if_icmp .gt 58, 3) := by decide +kernel
theorem dX4_read_67 : decode cX4_read 67 = .ok (.aload_n 0, 1) := by decide +kernel
theorem dX4_read_68 : decode cX4_read 68 = .ok (.getfield 45, 3) := by decide +kernel
theorem dX4_read_71 : decode cX4_read 71 = .ok (.iconst (-1), 1) := by decide +kernel
theorem dX4_read_72 : decode cX4_read 72 = .ok (.if_icmp .ne 50, 3) := by decide +kernel
theorem dX4_read_75 : decode cX4_read 75 = .ok (.iload 5, 2) := by decide +kernel
theorem dX4_read_77 : decode cX4_read 77 = .ok (.bipush 12, 2) := by decide +kernel
theorem dX4_read_79 : decode cX4_read 79 = .ok (.if_icmp .ne 10, 3) := by decide +kernel
theorem dX4_read_89 : decode cX4_read 89 = .ok (.aload_n 0, 1) := by decide +kernel
theorem dX4_read_90 : decode cX4_read 90 = .ok (.invokevirtual 65, 3) := by decide +kernel
theorem dX4_read_93 : decode cX4_read 93 = .ok (.aload_n 0, 1) := by decide +kernel
theorem dX4_read_94 : decode cX4_read 94 = .ok (.getfield 45, 3) := by decide +kernel
theorem dX4_read_97 : decode cX4_read 97 = .ok (.iconst (-1), 1) := by decide +kernel
theorem dX4_read_98 : decode cX4_read 98 = .ok (.if_icmp .ne 12, 3) := by decide +kernel
theorem dX4_read_110 : decode cX4_read 110 = .ok (.aload_n 0, 1) := by decide +kernel
theorem dX4_read_111 : decode cX4_read 111 = .ok (.bipush 59, 2) := by decide +kernel
theorem dX4_read_113 : decode cX4_read 113 = .ok (.invokevirtual 68, 3) := by decide +kernel
theorem dX4_read_116 : decode cX4_read 116 = .ok (.iinc 5 1, 3) := by decide +kernel
theorem dX4_read_119 : decode cX4_read 119 = .ok (.goto (-59), 3) := by decide +kernel
theorem dX4_read_122 : decode cX4_read 122 = .ok (.aload_n 0, 1) := by decide +kernel
theorem dX4_read_123 : decode cX4_read 123 = .ok (.getfield 45, 3) := by decide +kernel
theorem dX4_read_126 : decode cX4_read 126 = .ok (.ireturn, 1) := by decide +kernel
theorem dX4_readClause_8 : decode cX4_readClause 8 = .ok (.ldc 72, 2) := by decide +kernel
theorem dX4_readClause_10 : decode cX4_readClause 10 = .ok (.goto 5, 3) := by decide +kernel
theorem dX6_isLaw_0 : decode cX6_isLaw 0 = .ok (.iload_n 1, 1) := by decide +kernel
theorem dX6_isLaw_1 : decode cX6_isLaw 1 = .ok (.ifCond .lt 15, 3) := by decide +kernel
theorem dX6_isLaw_4 : decode cX6_isLaw 4 = .ok (.iload_n 1, 1) := by decide +kernel
theorem dX6_isLaw_5 : decode cX6_isLaw 5 = .ok (.aload_n 0, 1) := by decide +kernel
theorem dX6_isLaw_6 : decode cX6_isLaw 6 = .ok (.getfield 44, 3) := by decide +kernel
theorem dX6_isLaw_9 : decode cX6_isLaw 9 = .ok (.if_icmp .ge 7, 3) := by decide +kernel
theorem dX6_isLaw_12 : decode cX6_isLaw 12 = .ok (.iconst 1, 1) := by decide +kernel
theorem dX6_isLaw_13 : decode cX6_isLaw 13 = .ok (.goto 4, 3) := by decide +kernel
theorem dX6_isLaw_16 : decode cX6_isLaw 16 = .ok (.iconst 0, 1) := by decide +kernel
theorem dX6_isLaw_17 : decode cX6_isLaw 17 = .ok (.ireturn, 1) := by decide +kernel
set_option maxRecDepth 20000 in
theorem ggX6_lawAt_X6_isLaw : GoodIn wsX6_lawAt wsX6_isLaw := goodIn_r _ [6, 7, 8, 9, 10, 11, 12, 13, 14, 15, 16, 17] (by decide +kernel) (by decide +kernel)
set_option maxRecDepth 20000 in
theorem gX6_lawAt_X6_isLaw : GoodIn wsX6_lawAt (wsV RX6 61 RX6 yX6_isLaw wsX6_isLaw) := goodIn_app (goodIn_of _ (by decide +kernel)) ggX6_lawAt_X6_isLaw
theorem dX6_lawAt_0 : decode cX6_lawAt 0 = .ok (.aload_n 0, 1) := by decide +kernel
theorem dX6_lawAt_1 : decode cX6_lawAt 1 = .ok (.iload_n 1, 1) := by decide +kernel
theorem dX6_lawAt_2 : decode cX6_lawAt 2 = .ok (.invokevirtual 61, 3) := by decide +kernel
theorem dX6_lawAt_5 : decode cX6_lawAt 5 = .ok (.ifCond .eq 12, 3) := by decide +kernel
theorem dX6_lawAt_17 : decode cX6_lawAt 17 = .ok (.aconst_null, 1) := by decide +kernel
theorem dX6_lawAt_18 : decode cX6_lawAt 18 = .ok (.areturn, 1) := by decide +kernel
set_option maxRecDepth 20000 in
theorem ggX8_tell_X9_isBit : GoodIn wsX8_tell wsX9_isBit := goodIn_r _ [11] (by decide +kernel) (by decide +kernel)
set_option maxRecDepth 20000 in
theorem gX8_tell_X9_isBit_n32 : GoodIn wsX8_tell (wsX9_isBit) := ggX8_tell_X9_isBit
theorem dX8_tell_8 : decode cX8_tell 8 = .ok (.iload_n 2, 1) := by decide +kernel
theorem dX8_tell_9 : decode cX8_tell 9 = .ok (.invokestatic 32, 3) := by decide +kernel
theorem dX8_tell_12 : decode cX8_tell 12 = .ok (.ifCond .ne 5, 3) := by decide +kernel
theorem dX8_tell_17 : decode cX8_tell 17 = .ok (.iload_n 2, 1) := by decide +kernel
theorem dX8_tell_18 : decode cX8_tell 18 = .ok (.ifCond .ne 12, 3) := by decide +kernel
theorem dX8_tell_21 : decode cX8_tell 21 = .ok (.aload_n 0, 1) := by decide +kernel
theorem dX8_tell_22 : decode cX8_tell 22 = .ok (.getfield 9, 3) := by decide +kernel
theorem dX8_tell_25 : decode cX8_tell 25 = .ok (.iload_n 1, 1) := by decide +kernel
theorem dX8_tell_26 : decode cX8_tell 26 = .ok (.iaload, 1) := by decide +kernel
theorem dX8_tell_27 : decode cX8_tell 27 = .ok (.goto 9, 3) := by decide +kernel
theorem dX8_tell_36 : decode cX8_tell 36 = .ok (.ireturn, 1) := by decide +kernel
theorem dX8_pack_0 : decode cX8_pack 0 = .ok (.aload_n 0, 1) := by decide +kernel
theorem dX8_pack_1 : decode cX8_pack 1 = .ok (.getfield 18, 3) := by decide +kernel
theorem dX8_pack_4 : decode cX8_pack 4 = .ok (.i2l, 1) := by decide +kernel
theorem dX8_pack_5 : decode cX8_pack 5 = .ok (.lstore_n 1, 1) := by decide +kernel
theorem dX8_pack_6 : decode cX8_pack 6 = .ok (.iconst 0, 1) := by decide +kernel
theorem dX8_pack_7 : decode cX8_pack 7 = .ok (.istore_n 3, 1) := by decide +kernel
theorem dX8_pack_8 : decode cX8_pack 8 = .ok (.iload_n 3, 1) := by decide +kernel
theorem dX8_pack_9 : decode cX8_pack 9 = .ok (.bipush 6, 2) := by decide +kernel
theorem dX8_pack_11 : decode cX8_pack 11 = .ok (.if_icmp .ge 31, 3) := by decide +kernel
theorem dX8_pack_14 : decode cX8_pack 14 = .ok (.lload_n 1, 1) := by decide +kernel
theorem dX8_pack_15 : decode cX8_pack 15 = .ok (.iconst 4, 1) := by decide +kernel
theorem dX8_pack_16 : decode cX8_pack 16 = .ok (.lshl, 1) := by decide +kernel
theorem dX8_pack_17 : decode cX8_pack 17 = .ok (.aload_n 0, 1) := by decide +kernel
theorem dX8_pack_18 : decode cX8_pack 18 = .ok (.getfield 9, 3) := by decide +kernel
theorem dX8_pack_21 : decode cX8_pack 21 = .ok (.iload_n 3, 1) := by decide +kernel
theorem dX8_pack_22 : decode cX8_pack 22 = .ok (.iaload, 1) := by decide +kernel
theorem dX8_pack_23 : decode cX8_pack 23 = .ok (.iconst 1, 1) := by decide +kernel
theorem dX8_pack_24 : decode cX8_pack 24 = .ok (.ishl, 1) := by decide +kernel
theorem dX8_pack_25 : decode cX8_pack 25 = .ok (.i2l, 1) := by decide +kernel
theorem dX8_pack_26 : decode cX8_pack 26 = .ok (.lor, 1) := by decide +kernel
theorem dX8_pack_27 : decode cX8_pack 27 = .ok (.aload_n 0, 1) := by decide +kernel
theorem dX8_pack_28 : decode cX8_pack 28 = .ok (.getfield 15, 3) := by decide +kernel
theorem dX8_pack_31 : decode cX8_pack 31 = .ok (.iload_n 3, 1) := by decide +kernel
theorem dX8_pack_32 : decode cX8_pack 32 = .ok (.iaload, 1) := by decide +kernel
theorem dX8_pack_33 : decode cX8_pack 33 = .ok (.i2l, 1) := by decide +kernel
theorem dX8_pack_34 : decode cX8_pack 34 = .ok (.lor, 1) := by decide +kernel
theorem dX8_pack_35 : decode cX8_pack 35 = .ok (.lstore_n 1, 1) := by decide +kernel
theorem dX8_pack_36 : decode cX8_pack 36 = .ok (.iinc 3 1, 3) := by decide +kernel
theorem dX8_pack_39 : decode cX8_pack 39 = .ok (.goto (-31), 3) := by decide +kernel
theorem dX8_pack_42 : decode cX8_pack 42 = .ok (.lload_n 1, 1) := by decide +kernel
theorem dX8_pack_43 : decode cX8_pack 43 = .ok (.bipush 14, 2) := by decide +kernel
theorem dX8_pack_45 : decode cX8_pack 45 = .ok (.lshl, 1) := by decide +kernel
theorem dX8_pack_46 : decode cX8_pack 46 = .ok (.aload_n 0, 1) := by decide +kernel
theorem dX8_pack_47 : decode cX8_pack 47 = .ok (.getfield 22, 3) := by decide +kernel
theorem dX8_pack_50 : decode cX8_pack 50 = .ok (.i2l, 1) := by decide +kernel
theorem dX8_pack_51 : decode cX8_pack 51 = .ok (.lor, 1) := by decide +kernel
theorem dX8_pack_52 : decode cX8_pack 52 = .ok (.bipush 10, 2) := by decide +kernel
theorem dX8_pack_54 : decode cX8_pack 54 = .ok (.lshl, 1) := by decide +kernel
theorem dX8_pack_55 : decode cX8_pack 55 = .ok (.aload_n 0, 1) := by decide +kernel
theorem dX8_pack_56 : decode cX8_pack 56 = .ok (.getfield 25, 3) := by decide +kernel
theorem dX8_pack_59 : decode cX8_pack 59 = .ok (.i2l, 1) := by decide +kernel
theorem dX8_pack_60 : decode cX8_pack 60 = .ok (.lor, 1) := by decide +kernel
theorem dX8_pack_61 : decode cX8_pack 61 = .ok (.lreturn, 1) := by decide +kernel
set_option maxRecDepth 20000 in
theorem ggX8_act_X8_turnTop : GoodIn wsX8_act wsX8_turnTop := goodIn_r _ [5, 6, 7, 8, 9, 10, 11, 12, 13, 14, 15, 16, 17, 18, 19, 20, 21, 22, 23, 24, 25, 26, 27, 28, 29, 4, 30, 31, 32, 33, 34, 35, 36, 37, 38, 39, 40, 41, 42, 43, 44, 45, 46, 47, 48, 49, 50, 51, 52, 53, 54, 55, 56, 57, 58, 59, 60, 61, 62, 63, 64, 65, 66, 67, 68, 69, 70, 71, 72, 73, 74, 75, 76, 77, 78, 106, 107, 108, 109, 110, 111, 112, 113, 114, 115, 116, 117, 118, 119, 120, 121, 122, 123] (by decide +kernel) (by decide +kernel)
set_option maxRecDepth 20000 in
theorem gX8_act_X8_turnTop : GoodIn wsX8_act (wsV RX8 47 RX8 yX8_turnTop wsX8_turnTop) := goodIn_app (goodIn_of _ (by decide +kernel)) ggX8_act_X8_turnTop
set_option maxRecDepth 20000 in
theorem ggX8_act_X8_rightAt : GoodIn wsX8_act wsX8_rightAt := goodIn_r _ [82, 7, 32, 33, 34, 4, 35, 6, 106, 107, 108, 109, 110] (by decide +kernel) (by decide +kernel)
set_option maxRecDepth 20000 in
theorem gX8_act_X8_rightAt : GoodIn wsX8_act (wsV RX8 51 RX8 yX8_rightAt wsX8_rightAt) := goodIn_app (goodIn_of _ (by decide +kernel)) ggX8_act_X8_rightAt
theorem dX8_act_0 : decode cX8_act 0 = .ok (.iload_n 1, 1) := by decide +kernel
theorem dX8_act_1 : decode cX8_act 1 = .ok (.tableswitch 56 0 3 #[31, 38, 44, 50], 31) := by decide +kernel
theorem dX8_act_32 : decode cX8_act 32 = .ok (.aload_n 0, 1) := by decide +kernel
theorem dX8_act_33 : decode cX8_act 33 = .ok (.iload_n 2, 1) := by decide +kernel
theorem dX8_act_34 : decode cX8_act 34 = .ok (.aload_n 3, 1) := by decide +kernel
theorem dX8_act_35 : decode cX8_act 35 = .ok (.invokevirtual 47, 3) := by decide +kernel
theorem dX8_act_38 : decode cX8_act 38 = .ok (.ireturn, 1) := by decide +kernel
theorem dX8_act_39 : decode cX8_act 39 = .ok (.aload_n 0, 1) := by decide +kernel
theorem dX8_act_40 : decode cX8_act 40 = .ok (.iload_n 2, 1) := by decide +kernel
theorem dX8_act_41 : decode cX8_act 41 = .ok (.invokevirtual 51, 3) := by decide +kernel
theorem dX8_act_44 : decode cX8_act 44 = .ok (.ireturn, 1) := by decide +kernel
theorem dX8_turnTop_0 : decode cX8_turnTop 0 = .ok (.iload_n 1, 1) := by decide +kernel
theorem dX8_turnTop_1 : decode cX8_turnTop 1 = .ok (.iconst 1, 1) := by decide +kernel
theorem dX8_turnTop_2 : decode cX8_turnTop 2 = .ok (.if_icmp .lt 9, 3) := by decide +kernel
theorem dX8_turnTop_5 : decode cX8_turnTop 5 = .ok (.iload_n 1, 1) := by decide +kernel
theorem dX8_turnTop_6 : decode cX8_turnTop 6 = .ok (.bipush 6, 2) := by decide +kernel
theorem dX8_turnTop_8 : decode cX8_turnTop 8 = .ok (.if_icmp .le 5, 3) := by decide +kernel
theorem dX8_turnTop_11 : decode cX8_turnTop 11 = .ok (.iconst (-1), 1) := by decide +kernel
theorem dX8_turnTop_12 : decode cX8_turnTop 12 = .ok (.ireturn, 1) := by decide +kernel
theorem dX8_turnTop_13 : decode cX8_turnTop 13 = .ok (.iload_n 1, 1) := by decide +kernel
theorem dX8_turnTop_14 : decode cX8_turnTop 14 = .ok (.aload_n 0, 1) := by decide +kernel
theorem dX8_turnTop_15 : decode cX8_turnTop 15 = .ok (.getfield 18, 3) := by decide +kernel
theorem dX8_turnTop_18 : decode cX8_turnTop 18 = .ok (.if_icmp .gt 12, 3) := by decide +kernel
theorem dX8_turnTop_30 : decode cX8_turnTop 30 = .ok (.bipush (-3), 2) := by decide +kernel
theorem dX8_turnTop_32 : decode cX8_turnTop 32 = .ok (.ireturn, 1) := by decide +kernel
set_option maxRecDepth 20000 in
theorem ggX8_rightAt_X8_isFloor : GoodIn wsX8_rightAt wsX8_isFloor := goodIn_r _ [6, 7, 8, 9, 10, 11, 12] (by decide +kernel) (by decide +kernel)
set_option maxRecDepth 20000 in
theorem gX8_rightAt_X8_isFloor : GoodIn wsX8_rightAt (wsV RX8 28 RX8 yX8_isFloor wsX8_isFloor) := goodIn_app (goodIn_of _ (by decide +kernel)) ggX8_rightAt_X8_isFloor
theorem dX8_rightAt_0 : decode cX8_rightAt 0 = .ok (.iload_n 1, 1) := by decide +kernel
theorem dX8_rightAt_1 : decode cX8_rightAt 1 = .ok (.ifCond .lt 9, 3) := by decide +kernel
theorem dX8_rightAt_4 : decode cX8_rightAt 4 = .ok (.iload_n 1, 1) := by decide +kernel
theorem dX8_rightAt_5 : decode cX8_rightAt 5 = .ok (.bipush 6, 2) := by decide +kernel
theorem dX8_rightAt_7 : decode cX8_rightAt 7 = .ok (.if_icmp .lt 5, 3) := by decide +kernel
theorem dX8_rightAt_10 : decode cX8_rightAt 10 = .ok (.iconst (-1), 1) := by decide +kernel
theorem dX8_rightAt_11 : decode cX8_rightAt 11 = .ok (.ireturn, 1) := by decide +kernel
theorem dX8_rightAt_12 : decode cX8_rightAt 12 = .ok (.aload_n 0, 1) := by decide +kernel
theorem dX8_rightAt_13 : decode cX8_rightAt 13 = .ok (.iload_n 1, 1) := by decide +kernel
theorem dX8_rightAt_14 : decode cX8_rightAt 14 = .ok (.invokevirtual 28, 3) := by decide +kernel
theorem dX8_rightAt_17 : decode cX8_rightAt 17 = .ok (.ifCond .ne 6, 3) := by decide +kernel
theorem dX8_rightAt_20 : decode cX8_rightAt 20 = .ok (.bipush (-3), 2) := by decide +kernel
theorem dX8_rightAt_22 : decode cX8_rightAt 22 = .ok (.ireturn, 1) := by decide +kernel
theorem dX8_rightAt_23 : decode cX8_rightAt 23 = .ok (.aload_n 0, 1) := by decide +kernel
theorem dX8_rightAt_24 : decode cX8_rightAt 24 = .ok (.getfield 15, 3) := by decide +kernel
theorem dX8_rightAt_27 : decode cX8_rightAt 27 = .ok (.iload_n 1, 1) := by decide +kernel
theorem dX8_rightAt_28 : decode cX8_rightAt 28 = .ok (.iconst 1, 1) := by decide +kernel
theorem dX8_rightAt_29 : decode cX8_rightAt 29 = .ok (.aload_n 0, 1) := by decide +kernel
theorem dX8_rightAt_30 : decode cX8_rightAt 30 = .ok (.getfield 15, 3) := by decide +kernel
theorem dX8_rightAt_33 : decode cX8_rightAt 33 = .ok (.iload_n 1, 1) := by decide +kernel
theorem dX8_rightAt_34 : decode cX8_rightAt 34 = .ok (.iaload, 1) := by decide +kernel
theorem dX8_rightAt_35 : decode cX8_rightAt 35 = .ok (.isub, 1) := by decide +kernel
theorem dX8_rightAt_36 : decode cX8_rightAt 36 = .ok (.iastore, 1) := by decide +kernel
theorem dX8_rightAt_37 : decode cX8_rightAt 37 = .ok (.aload_n 0, 1) := by decide +kernel
theorem dX8_rightAt_38 : decode cX8_rightAt 38 = .ok (.getfield 15, 3) := by decide +kernel
theorem dX8_rightAt_41 : decode cX8_rightAt 41 = .ok (.iload_n 1, 1) := by decide +kernel
theorem dX8_rightAt_42 : decode cX8_rightAt 42 = .ok (.iaload, 1) := by decide +kernel
theorem dX8_rightAt_43 : decode cX8_rightAt 43 = .ok (.ireturn, 1) := by decide +kernel
set_option maxRecDepth 20000 in
theorem ggX9_law_X9_refuse : GoodIn wsX9_law wsX9_refuse := goodIn_r _ [11, 12, 13, 216, 217, 218, 219, 220, 221, 222, 223, 224, 225, 226, 227, 228, 229, 230, 231, 232, 233, 234] (by decide +kernel) (by decide +kernel)
set_option maxRecDepth 20000 in
theorem gX9_law_X9_refuse : GoodIn wsX9_law (wsV RX9 118 RX9 yX9_refuse wsX9_refuse) := goodIn_app (goodIn_of _ (by decide +kernel)) ggX9_law_X9_refuse
set_option maxRecDepth 20000 in
theorem ggX9_law_X4_read : GoodIn wsX9_law wsX4_read := goodIn_r _ [18, 19, 20, 21, 22, 23, 24, 25, 26, 27, 28, 29, 30, 31, 32, 33, 34, 35, 36, 37, 38, 39, 40, 41, 17, 42, 43, 44, 45, 46, 47, 48, 49, 50, 51, 52, 53, 54, 55, 56, 57, 58, 59, 60, 61, 62, 63, 64, 65, 66, 67, 68, 69, 70, 71, 72, 73, 74, 75, 76, 77, 78, 79, 80, 81, 82, 83, 84, 85, 86, 87, 88, 89, 90, 91, 92, 93, 94, 95, 96, 97, 98, 99, 100, 101, 102, 103, 104, 105, 106, 107, 108, 109, 110, 111, 112, 113, 114, 115, 116, 117, 118, 119, 120, 121, 122, 123, 124, 125, 126, 127, 128, 129, 130, 131, 132, 133, 134, 135, 136, 137, 138, 139, 140, 141, 142, 143, 144, 145, 146, 147, 148, 149, 150, 151, 152, 153, 154, 155, 156, 157, 158, 159, 160, 161, 162, 163, 164, 165, 166, 167, 168, 169, 170, 171, 172, 173, 174, 175, 176, 177, 178, 179, 180, 181, 182, 183, 184, 185, 186, 187, 188, 189, 190, 191, 192, 193, 194, 245, 246, 247, 248, 249, 250, 251, 252, 253, 254, 255, 256, 257, 258, 259, 260, 261, 262, 263] (by decide +kernel) (by decide +kernel)
set_option maxRecDepth 20000 in
theorem gX9_law_X4_read : GoodIn wsX9_law (wsV RX9 186 RX4 yX4_read wsX4_read) := goodIn_app (goodIn_of _ (by decide +kernel)) ggX9_law_X4_read
theorem dX9_law_0 : decode cX9_law 0 = .ok (.aload_n 0, 1) := by decide +kernel
theorem dX9_law_1 : decode cX9_law 1 = .ok (.getfield 88, 3) := by decide +kernel
theorem dX9_law_4 : decode cX9_law 4 = .ok (.istore_n 1, 1) := by decide +kernel
theorem dX9_law_5 : decode cX9_law 5 = .ok (.aload_n 0, 1) := by decide +kernel
theorem dX9_law_6 : decode cX9_law 6 = .ok (.iconst 0, 1) := by decide +kernel
theorem dX9_law_7 : decode cX9_law 7 = .ok (.putfield 88, 3) := by decide +kernel
theorem dX9_law_10 : decode cX9_law 10 = .ok (.aload_n 0, 1) := by decide +kernel
theorem dX9_law_11 : decode cX9_law 11 = .ok (.getfield 10, 3) := by decide +kernel
theorem dX9_law_14 : decode cX9_law 14 = .ok (.getfield 183, 3) := by decide +kernel
theorem dX9_law_17 : decode cX9_law 17 = .ok (.bipush 6, 2) := by decide +kernel
theorem dX9_law_19 : decode cX9_law 19 = .ok (.if_icmp .lt 10, 3) := by decide +kernel
theorem dX9_law_29 : decode cX9_law 29 = .ok (.aload_n 0, 1) := by decide +kernel
theorem dX9_law_30 : decode cX9_law 30 = .ok (.aload_n 0, 1) := by decide +kernel
theorem dX9_law_31 : decode cX9_law 31 = .ok (.getfield 64, 3) := by decide +kernel
theorem dX9_law_34 : decode cX9_law 34 = .ok (.aload_n 0, 1) := by decide +kernel
theorem dX9_law_35 : decode cX9_law 35 = .ok (.getfield 84, 3) := by decide +kernel
theorem dX9_law_38 : decode cX9_law 38 = .ok (.iload_n 1, 1) := by decide +kernel
theorem dX9_law_39 : decode cX9_law 39 = .ok (.iconst 0, 1) := by decide +kernel
theorem dX9_law_40 : decode cX9_law 40 = .ok (.aload_n 0, 1) := by decide +kernel
theorem dX9_law_41 : decode cX9_law 41 = .ok (.getfield 73, 3) := by decide +kernel
theorem dX9_law_44 : decode cX9_law 44 = .ok (.invokevirtual 186, 3) := by decide +kernel
theorem dX9_law_47 : decode cX9_law 47 = .ok (.putfield 92, 3) := by decide +kernel
theorem dX9_law_50 : decode cX9_law 50 = .ok (.aload_n 0, 1) := by decide +kernel
theorem dX9_law_51 : decode cX9_law 51 = .ok (.getfield 92, 3) := by decide +kernel
theorem dX9_law_54 : decode cX9_law 54 = .ok (.iconst (-1), 1) := by decide +kernel
theorem dX9_law_55 : decode cX9_law 55 = .ok (.if_icmp .eq 10, 3) := by decide +kernel
theorem dX9_law_58 : decode cX9_law 58 = .ok (.aload_n 0, 1) := by decide +kernel
theorem dX9_law_59 : decode cX9_law 59 = .ok (.bipush (-6), 2) := by decide +kernel
theorem dX9_law_61 : decode cX9_law 61 = .ok (.invokevirtual 118, 3) := by decide +kernel
theorem dX9_law_64 : decode cX9_law 64 = .ok (.ireturn, 1) := by decide +kernel
set_option maxRecDepth 20000 in
theorem ggX9_orders_X4_read : GoodIn wsX9_orders wsX4_read := goodIn_r _ [14, 15, 16, 17, 18, 19, 20, 21, 22, 23, 24, 25, 26, 27, 28, 29, 30, 31, 32, 33, 34, 35, 36, 37, 13, 38, 39, 40, 41, 42, 43, 44, 45, 46, 47, 48, 49, 50, 51, 52, 53, 54, 55, 56, 57, 58, 59, 60, 61, 62, 63, 64, 65, 66, 67, 68, 69, 70, 71, 72, 73, 74, 75, 76, 77, 78, 79, 80, 81, 82, 83, 84, 85, 86, 87, 88, 89, 90, 91, 92, 93, 94, 95, 96, 97, 98, 99, 100, 101, 102, 103, 104, 105, 106, 107, 108, 109, 110, 111, 112, 113, 114, 115, 116, 117, 118, 119, 120, 121, 122, 123, 124, 125, 126, 127, 128, 129, 130, 131, 132, 133, 134, 135, 136, 137, 138, 139, 140, 141, 142, 143, 144, 145, 146, 147, 148, 149, 150, 151, 152, 153, 154, 155, 156, 157, 158, 159, 160, 161, 162, 163, 164, 165, 166, 167, 168, 169, 170, 171, 172, 173, 174, 175, 176, 177, 178, 179, 180, 181, 182, 183, 184, 185, 186, 187, 188, 189, 190, 418, 419, 420, 421, 422, 423, 424, 425, 426, 427, 428, 429, 430, 431, 432, 433, 434, 435, 436] (by decide +kernel) (by decide +kernel)
set_option maxRecDepth 20000 in
theorem gX9_orders_X4_read : GoodIn wsX9_orders (wsV RX9 186 RX4 yX4_read wsX4_read) := goodIn_app (goodIn_of _ (by decide +kernel)) ggX9_orders_X4_read
set_option maxRecDepth 20000 in
theorem ggX9_orders_X9_refuse : GoodIn wsX9_orders wsX9_refuse := goodIn_r _ [195, 196, 197, 385, 386, 387, 388, 389, 390, 391, 392, 393, 394, 395, 396, 397, 398, 399, 400, 401, 402, 403] (by decide +kernel) (by decide +kernel)
set_option maxRecDepth 20000 in
theorem gX9_orders_X9_refuse : GoodIn wsX9_orders (wsV RX9 118 RX9 yX9_refuse wsX9_refuse) := goodIn_app (goodIn_of _ (by decide +kernel)) ggX9_orders_X9_refuse
theorem dX9_orders_0 : decode cX9_orders 0 = .ok (.aload_n 0, 1) := by decide +kernel
theorem dX9_orders_1 : decode cX9_orders 1 = .ok (.getfield 88, 3) := by decide +kernel
theorem dX9_orders_4 : decode cX9_orders 4 = .ok (.istore_n 1, 1) := by decide +kernel
theorem dX9_orders_5 : decode cX9_orders 5 = .ok (.aload_n 0, 1) := by decide +kernel
theorem dX9_orders_6 : decode cX9_orders 6 = .ok (.iconst 0, 1) := by decide +kernel
theorem dX9_orders_7 : decode cX9_orders 7 = .ok (.putfield 88, 3) := by decide +kernel
theorem dX9_orders_10 : decode cX9_orders 10 = .ok (.aload_n 0, 1) := by decide +kernel
theorem dX9_orders_11 : decode cX9_orders 11 = .ok (.iconst (-1), 1) := by decide +kernel
theorem dX9_orders_12 : decode cX9_orders 12 = .ok (.putfield 98, 3) := by decide +kernel
theorem dX9_orders_15 : decode cX9_orders 15 = .ok (.aload_n 0, 1) := by decide +kernel
theorem dX9_orders_16 : decode cX9_orders 16 = .ok (.aload_n 0, 1) := by decide +kernel
theorem dX9_orders_17 : decode cX9_orders 17 = .ok (.getfield 64, 3) := by decide +kernel
theorem dX9_orders_20 : decode cX9_orders 20 = .ok (.aload_n 0, 1) := by decide +kernel
theorem dX9_orders_21 : decode cX9_orders 21 = .ok (.getfield 84, 3) := by decide +kernel
theorem dX9_orders_24 : decode cX9_orders 24 = .ok (.iload_n 1, 1) := by decide +kernel
theorem dX9_orders_25 : decode cX9_orders 25 = .ok (.iconst 1, 1) := by decide +kernel
theorem dX9_orders_26 : decode cX9_orders 26 = .ok (.aload_n 0, 1) := by decide +kernel
theorem dX9_orders_27 : decode cX9_orders 27 = .ok (.getfield 73, 3) := by decide +kernel
theorem dX9_orders_30 : decode cX9_orders 30 = .ok (.invokevirtual 186, 3) := by decide +kernel
theorem dX9_orders_33 : decode cX9_orders 33 = .ok (.putfield 92, 3) := by decide +kernel
theorem dX9_orders_36 : decode cX9_orders 36 = .ok (.aload_n 0, 1) := by decide +kernel
theorem dX9_orders_37 : decode cX9_orders 37 = .ok (.getfield 92, 3) := by decide +kernel
theorem dX9_orders_40 : decode cX9_orders 40 = .ok (.iconst (-1), 1) := by decide +kernel
theorem dX9_orders_41 : decode cX9_orders 41 = .ok (.if_icmp .eq 10, 3) := by decide +kernel
theorem dX9_orders_44 : decode cX9_orders 44 = .ok (.aload_n 0, 1) := by decide +kernel
theorem dX9_orders_45 : decode cX9_orders 45 = .ok (.bipush (-6), 2) := by decide +kernel
theorem dX9_orders_47 : decode cX9_orders 47 = .ok (.invokevirtual 118, 3) := by decide +kernel
theorem dX9_orders_50 : decode cX9_orders 50 = .ok (.ireturn, 1) := by decide +kernel
theorem dX9_fault_0 : decode cX9_fault 0 = .ok (.aload_n 0, 1) := by decide +kernel
theorem dX9_fault_1 : decode cX9_fault 1 = .ok (.getfield 92, 3) := by decide +kernel
theorem dX9_fault_4 : decode cX9_fault 4 = .ok (.ireturn, 1) := by decide +kernel
theorem dX9_stopped_0 : decode cX9_stopped 0 = .ok (.aload_n 0, 1) := by decide +kernel
theorem dX9_stopped_1 : decode cX9_stopped 1 = .ok (.getfield 98, 3) := by decide +kernel
theorem dX9_stopped_4 : decode cX9_stopped 4 = .ok (.ireturn, 1) := by decide +kernel
set_option maxRecDepth 20000 in
theorem ggX9_force_X6_isLaw : GoodIn wsX9_force wsX6_isLaw := goodIn_r _ [6, 7, 38, 39, 40, 41, 42, 43, 44, 45, 46, 47] (by decide +kernel) (by decide +kernel)
set_option maxRecDepth 20000 in
theorem gX9_force_X6_isLaw : GoodIn wsX9_force (wsV RX9 205 RX6 yX6_isLaw wsX6_isLaw) := goodIn_app (goodIn_of _ (by decide +kernel)) ggX9_force_X6_isLaw
set_option maxRecDepth 20000 in
theorem ggX9_force_X9_refuse : GoodIn wsX9_force wsX9_refuse := goodIn_r _ [12, 13, 14, 19, 20, 21, 22, 23, 24, 25, 26, 27, 28, 29, 30, 31, 32, 33, 34, 35, 36, 37] (by decide +kernel) (by decide +kernel)
set_option maxRecDepth 20000 in
theorem gX9_force_X9_refuse : GoodIn wsX9_force (wsV RX9 118 RX9 yX9_refuse wsX9_refuse) := goodIn_app (goodIn_of _ (by decide +kernel)) ggX9_force_X9_refuse
set_option maxRecDepth 20000 in
theorem ggX9_force_X9_accept : GoodIn wsX9_force wsX9_accept := goodIn_r _ [18, 13, 19, 20, 21, 22, 23, 24, 25, 26, 27, 28, 29, 30, 31, 32, 33, 34, 35, 36, 37] (by decide +kernel) (by decide +kernel)
set_option maxRecDepth 20000 in
theorem gX9_force_X9_accept : GoodIn wsX9_force (wsV RX9 138 RX9 yX9_accept wsX9_accept) := goodIn_app (goodIn_of _ (by decide +kernel)) ggX9_force_X9_accept
theorem dX9_force_0 : decode cX9_force 0 = .ok (.iload_n 1, 1) := by decide +kernel
theorem dX9_force_1 : decode cX9_force 1 = .ok (.iconst (-1), 1) := by decide +kernel
theorem dX9_force_2 : decode cX9_force 2 = .ok (.if_icmp .eq 21, 3) := by decide +kernel
theorem dX9_force_5 : decode cX9_force 5 = .ok (.aload_n 0, 1) := by decide +kernel
theorem dX9_force_6 : decode cX9_force 6 = .ok (.getfield 10, 3) := by decide +kernel
theorem dX9_force_9 : decode cX9_force 9 = .ok (.iload_n 1, 1) := by decide +kernel
theorem dX9_force_10 : decode cX9_force 10 = .ok (.invokevirtual 205, 3) := by decide +kernel
theorem dX9_force_13 : decode cX9_force 13 = .ok (.ifCond .ne 10, 3) := by decide +kernel
theorem dX9_force_16 : decode cX9_force 16 = .ok (.aload_n 0, 1) := by decide +kernel
theorem dX9_force_17 : decode cX9_force 17 = .ok (.bipush (-2), 2) := by decide +kernel
theorem dX9_force_19 : decode cX9_force 19 = .ok (.invokevirtual 118, 3) := by decide +kernel
theorem dX9_force_22 : decode cX9_force 22 = .ok (.ireturn, 1) := by decide +kernel
theorem dX9_force_23 : decode cX9_force 23 = .ok (.aload_n 0, 1) := by decide +kernel
theorem dX9_force_24 : decode cX9_force 24 = .ok (.getfield 10, 3) := by decide +kernel
theorem dX9_force_27 : decode cX9_force 27 = .ok (.getfield 208, 3) := by decide +kernel
theorem dX9_force_30 : decode cX9_force 30 = .ok (.istore_n 2, 1) := by decide +kernel
theorem dX9_force_31 : decode cX9_force 31 = .ok (.aload_n 0, 1) := by decide +kernel
theorem dX9_force_32 : decode cX9_force 32 = .ok (.getfield 10, 3) := by decide +kernel
theorem dX9_force_35 : decode cX9_force 35 = .ok (.iload_n 1, 1) := by decide +kernel
theorem dX9_force_36 : decode cX9_force 36 = .ok (.putfield 208, 3) := by decide +kernel
theorem dX9_force_39 : decode cX9_force 39 = .ok (.aload_n 0, 1) := by decide +kernel
theorem dX9_force_40 : decode cX9_force 40 = .ok (.iload_n 2, 1) := by decide +kernel
theorem dX9_force_41 : decode cX9_force 41 = .ok (.invokevirtual 138, 3) := by decide +kernel
theorem dX9_force_44 : decode cX9_force 44 = .ok (.ireturn, 1) := by decide +kernel
set_option maxRecDepth 20000 in
theorem ggX9_turn_X9_move : GoodIn wsX9_turn wsX9_move := goodIn_r _ [5, 6, 7, 8, 9, 10, 11, 12, 13, 14, 15, 16, 17, 18, 19, 20, 4, 21, 22, 23, 24, 25, 26, 27, 28, 29, 30, 31, 32, 33, 34, 35, 36, 37, 38, 39, 40, 41, 42, 43, 44, 45, 46, 47, 48, 49, 50, 51, 52, 53, 54, 55, 56, 57, 58, 59, 60, 61, 62, 63, 64, 65, 66, 67, 68, 69, 70, 71, 72, 73, 74, 75, 76, 77, 78, 79, 80, 81, 82, 83, 84, 85, 86, 87, 88, 89, 90, 91, 92, 93, 94, 95, 96, 97, 98, 99, 100, 101, 102, 103, 104, 105, 106, 107, 108, 109, 110, 111, 112, 113, 114, 115, 116, 117, 118, 119, 120, 121, 122, 123, 124, 125, 126, 127, 128, 129, 130, 131, 132, 133, 134, 135, 136, 137, 138, 139, 140, 141, 142, 143, 144, 145, 146, 147, 148, 149, 150, 151, 152, 153, 154, 155, 156, 157, 158, 159, 160, 161, 162, 163, 164, 165, 166, 167, 168, 169, 170, 171, 172, 173, 174, 175, 176, 177, 178, 179, 180, 181, 182, 183, 184, 185, 186, 187, 188, 189, 190, 191, 192, 193, 194, 195, 196, 197, 198, 199, 200, 201, 202, 203, 204, 205, 206, 207, 208, 209, 210, 211, 212, 213, 214] (by decide +kernel) (by decide +kernel)
set_option maxRecDepth 20000 in
theorem gX9_turn_X9_move : GoodIn wsX9_turn (wsV RX9 211 RX9 yX9_move wsX9_move) := goodIn_app (goodIn_of _ (by decide +kernel)) ggX9_turn_X9_move
theorem dX9_turn_0 : decode cX9_turn 0 = .ok (.aload_n 0, 1) := by decide +kernel
theorem dX9_turn_1 : decode cX9_turn 1 = .ok (.iconst 0, 1) := by decide +kernel
theorem dX9_turn_2 : decode cX9_turn 2 = .ok (.iload_n 1, 1) := by decide +kernel
theorem dX9_turn_3 : decode cX9_turn 3 = .ok (.invokevirtual 211, 3) := by decide +kernel
theorem dX9_turn_6 : decode cX9_turn 6 = .ok (.ireturn, 1) := by decide +kernel
set_option maxRecDepth 20000 in
theorem ggX9_move_X8_pack : GoodIn wsX9_move wsX8_pack := goodIn_r _ [7, 8, 9, 10, 11, 12, 187, 188, 189, 190, 191] (by decide +kernel) (by decide +kernel)
set_option maxRecDepth 20000 in
theorem gX9_move_X8_pack : GoodIn wsX9_move (wsV RX9 318 RX8 yX8_pack wsX8_pack) := goodIn_app (goodIn_of _ (by decide +kernel)) ggX9_move_X8_pack
set_option maxRecDepth 20000 in
theorem ggX9_move_X9_seated : GoodIn wsX9_move wsX9_seated := goodIn_r _ [17, 18, 1, 19, 20, 21, 22, 23, 24, 25, 26, 27, 28, 29, 30, 31, 32, 33, 34, 35, 36, 158, 159, 160, 161, 162, 163, 164, 165, 166, 167, 168, 169, 170, 171, 172, 173, 174, 175, 176, 177, 178, 179, 180, 181, 182, 183, 184, 185, 186, 192, 193, 194] (by decide +kernel) (by decide +kernel)
set_option maxRecDepth 20000 in
theorem gX9_move_X9_seated : GoodIn wsX9_move (wsV RX9 144 RX9 yX9_seated wsX9_seated) := goodIn_app (goodIn_of _ (by decide +kernel)) ggX9_move_X9_seated
set_option maxRecDepth 20000 in
theorem ggX9_move_X8_act : GoodIn wsX9_move wsX8_act := goodIn_r _ [40, 41, 42, 43, 6, 44, 8, 10, 11, 45, 46, 47, 48, 49, 50, 51, 33, 52, 53, 54, 55, 56, 57, 58, 59, 60, 36, 61, 62, 63, 64, 9, 65, 66, 67, 68, 69, 16, 70, 71, 72, 73, 74, 75, 76, 77, 78, 35, 79, 80, 81, 82, 83, 84, 85, 86, 87, 88, 89, 90, 91, 92, 93, 94, 95, 96, 97, 98, 99, 100, 101, 102, 103, 104, 105, 106, 107, 108, 109, 110, 111, 112, 113, 114, 115, 116, 117, 118, 119, 120, 121, 12, 122, 123, 124, 125, 126, 127, 128, 129, 130, 131, 132, 133, 134, 135, 187, 188, 189, 190, 191, 192, 193, 194, 195, 196, 197, 198, 199, 200, 201, 202, 203, 204] (by decide +kernel) (by decide +kernel)
set_option maxRecDepth 20000 in
theorem gX9_move_X8_act : GoodIn wsX9_move (wsV RX9 325 RX8 yX8_act wsX8_act) := goodIn_app (goodIn_of _ (by decide +kernel)) ggX9_move_X8_act
set_option maxRecDepth 20000 in
theorem ggX9_move_X9_refuse : GoodIn wsX9_move wsX9_refuse := goodIn_r _ [139, 140, 141, 158, 159, 160, 161, 162, 163, 164, 165, 166, 167, 168, 169, 170, 171, 172, 173, 174, 175, 176] (by decide +kernel) (by decide +kernel)
set_option maxRecDepth 20000 in
theorem gX9_move_X9_refuse : GoodIn wsX9_move (wsV RX9 118 RX9 yX9_refuse wsX9_refuse) := goodIn_app (goodIn_of _ (by decide +kernel)) ggX9_move_X9_refuse
theorem dX9_move_0 : decode cX9_move 0 = .ok (.aload_n 0, 1) := by decide +kernel
theorem dX9_move_1 : decode cX9_move 1 = .ok (.getfield 10, 3) := by decide +kernel
theorem dX9_move_4 : decode cX9_move 4 = .ok (.getfield 122, 3) := by decide +kernel
theorem dX9_move_7 : decode cX9_move 7 = .ok (.invokevirtual 318, 3) := by decide +kernel
theorem dX9_move_10 : decode cX9_move 10 = .ok (.lstore_n 3, 1) := by decide +kernel
theorem dX9_move_11 : decode cX9_move 11 = .ok (.aload_n 0, 1) := by decide +kernel
theorem dX9_move_12 : decode cX9_move 12 = .ok (.getfield 10, 3) := by decide +kernel
theorem dX9_move_15 : decode cX9_move 15 = .ok (.getfield 122, 3) := by decide +kernel
theorem dX9_move_18 : decode cX9_move 18 = .ok (.iload_n 1, 1) := by decide +kernel
theorem dX9_move_19 : decode cX9_move 19 = .ok (.iload_n 2, 1) := by decide +kernel
theorem dX9_move_20 : decode cX9_move 20 = .ok (.aload_n 0, 1) := by decide +kernel
theorem dX9_move_21 : decode cX9_move 21 = .ok (.invokevirtual 144, 3) := by decide +kernel
theorem dX9_move_24 : decode cX9_move 24 = .ok (.invokevirtual 325, 3) := by decide +kernel
theorem dX9_move_27 : decode cX9_move 27 = .ok (.istore 5, 2) := by decide +kernel
theorem dX9_move_29 : decode cX9_move 29 = .ok (.iload 5, 2) := by decide +kernel
theorem dX9_move_31 : decode cX9_move 31 = .ok (.ifCond .ge 10, 3) := by decide +kernel
theorem dX9_move_34 : decode cX9_move 34 = .ok (.aload_n 0, 1) := by decide +kernel
theorem dX9_move_35 : decode cX9_move 35 = .ok (.iload 5, 2) := by decide +kernel
theorem dX9_move_37 : decode cX9_move 37 = .ok (.invokevirtual 118, 3) := by decide +kernel
theorem dX9_move_40 : decode cX9_move 40 = .ok (.ireturn, 1) := by decide +kernel
set_option maxRecDepth 20000 in
theorem ggX9_seated_X6_lawAt : GoodIn wsX9_seated wsX6_lawAt := goodIn_r _ [7, 8, 9, 10, 11, 6, 12, 13, 40, 41, 42, 43, 44, 45, 46, 47, 48, 49] (by decide +kernel) (by decide +kernel)
set_option maxRecDepth 20000 in
theorem gX9_seated_X6_lawAt : GoodIn wsX9_seated (wsV RX9 306 RX6 yX6_lawAt wsX6_lawAt) := goodIn_app (goodIn_of _ (by decide +kernel)) ggX9_seated_X6_lawAt
set_option maxRecDepth 20000 in
theorem ggX9_seated_X1_seat : GoodIn wsX9_seated wsX1_seat := goodIn_r _ [18, 19, 20, 50, 51, 52] (by decide +kernel) (by decide +kernel)
set_option maxRecDepth 20000 in
theorem gX9_seated_X1_seat : GoodIn wsX9_seated (wsV RX9 313 RX1 yX1_seat wsX1_seat) := goodIn_app (goodIn_of _ (by decide +kernel)) ggX9_seated_X1_seat
theorem dX9_seated_0 : decode cX9_seated 0 = .ok (.aload_n 0, 1) := by decide +kernel
theorem dX9_seated_1 : decode cX9_seated 1 = .ok (.getfield 50, 3) := by decide +kernel
theorem dX9_seated_4 : decode cX9_seated 4 = .ok (.aload_n 0, 1) := by decide +kernel
theorem dX9_seated_5 : decode cX9_seated 5 = .ok (.getfield 10, 3) := by decide +kernel
theorem dX9_seated_8 : decode cX9_seated 8 = .ok (.aload_n 0, 1) := by decide +kernel
theorem dX9_seated_9 : decode cX9_seated 9 = .ok (.getfield 10, 3) := by decide +kernel
theorem dX9_seated_12 : decode cX9_seated 12 = .ok (.getfield 208, 3) := by decide +kernel
theorem dX9_seated_15 : decode cX9_seated 15 = .ok (.invokevirtual 306, 3) := by decide +kernel
theorem dX9_seated_18 : decode cX9_seated 18 = .ok (.aload_n 0, 1) := by decide +kernel
theorem dX9_seated_19 : decode cX9_seated 19 = .ok (.getfield 10, 3) := by decide +kernel
theorem dX9_seated_22 : decode cX9_seated 22 = .ok (.getfield 310, 3) := by decide +kernel
theorem dX9_seated_25 : decode cX9_seated 25 = .ok (.invokevirtual 313, 3) := by decide +kernel
theorem dX9_seated_28 : decode cX9_seated 28 = .ok (.aload_n 0, 1) := by decide +kernel
theorem dX9_seated_29 : decode cX9_seated 29 = .ok (.getfield 50, 3) := by decide +kernel
theorem dX9_seated_32 : decode cX9_seated 32 = .ok (.areturn, 1) := by decide +kernel
