theorem dX1_setGrip_0 : decode cX1_setGrip 0 = .ok (.aload_n 0, 1) := by decide +kernel
theorem dX1_setGrip_1 : decode cX1_setGrip 1 = .ok (.getfield 11, 3) := by decide +kernel
theorem dX1_setGrip_4 : decode cX1_setGrip 4 = .ok (.iconst 0, 1) := by decide +kernel
theorem dX1_setGrip_5 : decode cX1_setGrip 5 = .ok (.iload_n 1, 1) := by decide +kernel
theorem dX1_setGrip_6 : decode cX1_setGrip 6 = .ok (.iastore, 1) := by decide +kernel
theorem dX1_setGrip_7 : decode cX1_setGrip 7 = .ok (.aload_n 0, 1) := by decide +kernel
theorem dX1_setGrip_8 : decode cX1_setGrip 8 = .ok (.getfield 11, 3) := by decide +kernel
theorem dX1_setGrip_11 : decode cX1_setGrip 11 = .ok (.iconst 1, 1) := by decide +kernel
theorem dX1_setGrip_12 : decode cX1_setGrip 12 = .ok (.iload_n 2, 1) := by decide +kernel
theorem dX1_setGrip_13 : decode cX1_setGrip 13 = .ok (.iastore, 1) := by decide +kernel
theorem dX1_setGrip_14 : decode cX1_setGrip 14 = .ok (.aload_n 0, 1) := by decide +kernel
theorem dX1_setGrip_15 : decode cX1_setGrip 15 = .ok (.getfield 11, 3) := by decide +kernel
theorem dX1_setGrip_18 : decode cX1_setGrip 18 = .ok (.iconst 2, 1) := by decide +kernel
theorem dX1_setGrip_19 : decode cX1_setGrip 19 = .ok (.iload_n 3, 1) := by decide +kernel
theorem dX1_setGrip_20 : decode cX1_setGrip 20 = .ok (.iastore, 1) := by decide +kernel
theorem dX1_setGrip_21 : decode cX1_setGrip 21 = .ok (.aload_n 0, 1) := by decide +kernel
theorem dX1_setGrip_22 : decode cX1_setGrip 22 = .ok (.getfield 11, 3) := by decide +kernel
theorem dX1_setGrip_25 : decode cX1_setGrip 25 = .ok (.iconst 3, 1) := by decide +kernel
theorem dX1_setGrip_26 : decode cX1_setGrip 26 = .ok (.iload 4, 2) := by decide +kernel
theorem dX1_setGrip_28 : decode cX1_setGrip 28 = .ok (.iastore, 1) := by decide +kernel
theorem dX1_setGrip_29 : decode cX1_setGrip 29 = .ok (.aload_n 0, 1) := by decide +kernel
theorem dX1_setGrip_30 : decode cX1_setGrip 30 = .ok (.getfield 11, 3) := by decide +kernel
theorem dX1_setGrip_33 : decode cX1_setGrip 33 = .ok (.iconst 5, 1) := by decide +kernel
theorem dX1_setGrip_34 : decode cX1_setGrip 34 = .ok (.iconst (-1), 1) := by decide +kernel
theorem dX1_setGrip_35 : decode cX1_setGrip 35 = .ok (.iastore, 1) := by decide +kernel
theorem dX1_setGrip_36 : decode cX1_setGrip 36 = .ok (.aload_n 0, 1) := by decide +kernel
theorem dX1_setGrip_37 : decode cX1_setGrip 37 = .ok (.getfield 11, 3) := by decide +kernel
theorem dX1_setGrip_40 : decode cX1_setGrip 40 = .ok (.bipush 6, 2) := by decide +kernel
theorem dX1_setGrip_42 : decode cX1_setGrip 42 = .ok (.iconst (-1), 1) := by decide +kernel
theorem dX1_setGrip_43 : decode cX1_setGrip 43 = .ok (.iastore, 1) := by decide +kernel
theorem dX1_setGrip_44 : decode cX1_setGrip 44 = .ok (.return_, 1) := by decide +kernel
set_option maxRecDepth 20000 in
theorem ggX3_askCases_J7_fill_53178 : GoodIn wsX3_askCases wsJ7_fill_53178 := goodIn_r _ [8] rfl (by decide +kernel)
set_option maxRecDepth 20000 in
theorem gX3_askCases_J7_fill_53178 : GoodIn wsX3_askCases (va_wsS RX3 122 yJ7_fill_53178 wsJ7_fill_53178) := goodIn_app (goodIn_of _ (by decide +kernel)) ggX3_askCases_J7_fill_53178
set_option maxRecDepth 20000 in
theorem ggX3_askCases_X1_setCommon : GoodIn wsX3_askCases wsX1_setCommon := goodIn_r _ [13, 14, 77, 78, 79] rfl (by decide +kernel)
set_option maxRecDepth 20000 in
theorem gX3_askCases_X1_setCommon : GoodIn wsX3_askCases (wsV RX3 175 RX1 yX1_setCommon wsX1_setCommon) := goodIn_app (goodIn_of _ (by decide +kernel)) ggX3_askCases_X1_setCommon
theorem dX3_askCases_0 : decode cX3_askCases 0 = .ok (.iload_n 3, 1) := by decide +kernel
theorem dX3_askCases_1 : decode cX3_askCases 1 = .ok (.iconst 1, 1) := by decide +kernel
theorem dX3_askCases_2 : decode cX3_askCases 2 = .ok (.if_icmp .ne 10, 3) := by decide +kernel
theorem dX3_askCases_5 : decode cX3_askCases 5 = .ok (.aload_n 0, 1) := by decide +kernel
theorem dX3_askCases_6 : decode cX3_askCases 6 = .ok (.getfield 18, 3) := by decide +kernel
theorem dX3_askCases_9 : decode cX3_askCases 9 = .ok (.goto 7, 3) := by decide +kernel
theorem dX3_askCases_16 : decode cX3_askCases 16 = .ok (.astore 4, 2) := by decide +kernel
theorem dX3_askCases_18 : decode cX3_askCases 18 = .ok (.aload 4, 2) := by decide +kernel
theorem dX3_askCases_20 : decode cX3_askCases 20 = .ok (.iconst 0, 1) := by decide +kernel
theorem dX3_askCases_21 : decode cX3_askCases 21 = .ok (.invokestatic 122, 3) := by decide +kernel
theorem dX3_askCases_24 : decode cX3_askCases 24 = .ok (.aload_n 1, 1) := by decide +kernel
theorem dX3_askCases_25 : decode cX3_askCases 25 = .ok (.aload_n 0, 1) := by decide +kernel
theorem dX3_askCases_26 : decode cX3_askCases 26 = .ok (.getfield 51, 3) := by decide +kernel
theorem dX3_askCases_29 : decode cX3_askCases 29 = .ok (.iload_n 2, 1) := by decide +kernel
theorem dX3_askCases_30 : decode cX3_askCases 30 = .ok (.invokevirtual 175, 3) := by decide +kernel
theorem dX3_askCases_33 : decode cX3_askCases 33 = .ok (.iconst 1, 1) := by decide +kernel
theorem dX3_askCases_34 : decode cX3_askCases 34 = .ok (.istore 5, 2) := by decide +kernel
theorem dX3_askCases_36 : decode cX3_askCases 36 = .ok (.iload 5, 2) := by decide +kernel
theorem dX3_askCases_38 : decode cX3_askCases 38 = .ok (.aload_n 0, 1) := by decide +kernel
theorem dX3_askCases_39 : decode cX3_askCases 39 = .ok (.getfield 51, 3) := by decide +kernel
theorem dX3_askCases_42 : decode cX3_askCases 42 = .ok (.if_icmp .gt 173, 3) := by decide +kernel
theorem dX3_askCases_215 : decode cX3_askCases 215 = .ok (.return_, 1) := by decide +kernel
set_option maxRecDepth 20000 in
theorem ggX3_numberOfOrder_X9_bit : GoodIn wsX3_numberOfOrder wsX9_bit := goodIn_r _ [5] rfl (by decide +kernel)
set_option maxRecDepth 20000 in
theorem gX3_numberOfOrder_X9_bit_n133 : GoodIn wsX3_numberOfOrder (wsX9_bit) := ggX3_numberOfOrder_X9_bit
theorem dX3_numberOfOrder_0 : decode cX3_numberOfOrder 0 = .ok (.iconst 0, 1) := by decide +kernel
theorem dX3_numberOfOrder_1 : decode cX3_numberOfOrder 1 = .ok (.istore_n 1, 1) := by decide +kernel
theorem dX3_numberOfOrder_2 : decode cX3_numberOfOrder 2 = .ok (.iconst 0, 1) := by decide +kernel
theorem dX3_numberOfOrder_3 : decode cX3_numberOfOrder 3 = .ok (.istore_n 2, 1) := by decide +kernel
theorem dX3_numberOfOrder_4 : decode cX3_numberOfOrder 4 = .ok (.iload_n 2, 1) := by decide +kernel
theorem dX3_numberOfOrder_5 : decode cX3_numberOfOrder 5 = .ok (.bipush 6, 2) := by decide +kernel
theorem dX3_numberOfOrder_7 : decode cX3_numberOfOrder 7 = .ok (.if_icmp .ge 63, 3) := by decide +kernel
theorem dX3_numberOfOrder_10 : decode cX3_numberOfOrder 10 = .ok (.iconst 0, 1) := by decide +kernel
theorem dX3_numberOfOrder_11 : decode cX3_numberOfOrder 11 = .ok (.istore_n 3, 1) := by decide +kernel
theorem dX3_numberOfOrder_12 : decode cX3_numberOfOrder 12 = .ok (.iconst 0, 1) := by decide +kernel
theorem dX3_numberOfOrder_13 : decode cX3_numberOfOrder 13 = .ok (.istore 4, 2) := by decide +kernel
theorem dX3_numberOfOrder_15 : decode cX3_numberOfOrder 15 = .ok (.iload 4, 2) := by decide +kernel
theorem dX3_numberOfOrder_17 : decode cX3_numberOfOrder 17 = .ok (.iload_n 2, 1) := by decide +kernel
theorem dX3_numberOfOrder_18 : decode cX3_numberOfOrder 18 = .ok (.if_icmp .ge 36, 3) := by decide +kernel
theorem dX3_numberOfOrder_21 : decode cX3_numberOfOrder 21 = .ok (.iload_n 3, 1) := by decide +kernel
theorem dX3_numberOfOrder_22 : decode cX3_numberOfOrder 22 = .ok (.aload_n 0, 1) := by decide +kernel
theorem dX3_numberOfOrder_23 : decode cX3_numberOfOrder 23 = .ok (.getfield 15, 3) := by decide +kernel
theorem dX3_numberOfOrder_26 : decode cX3_numberOfOrder 26 = .ok (.iload 4, 2) := by decide +kernel
theorem dX3_numberOfOrder_28 : decode cX3_numberOfOrder 28 = .ok (.iaload, 1) := by decide +kernel
theorem dX3_numberOfOrder_29 : decode cX3_numberOfOrder 29 = .ok (.aload_n 0, 1) := by decide +kernel
theorem dX3_numberOfOrder_30 : decode cX3_numberOfOrder 30 = .ok (.getfield 15, 3) := by decide +kernel
theorem dX3_numberOfOrder_33 : decode cX3_numberOfOrder 33 = .ok (.iload_n 2, 1) := by decide +kernel
theorem dX3_numberOfOrder_34 : decode cX3_numberOfOrder 34 = .ok (.iaload, 1) := by decide +kernel
theorem dX3_numberOfOrder_35 : decode cX3_numberOfOrder 35 = .ok (.if_icmp .le 7, 3) := by decide +kernel
theorem dX3_numberOfOrder_42 : decode cX3_numberOfOrder 42 = .ok (.iconst 0, 1) := by decide +kernel
theorem dX3_numberOfOrder_43 : decode cX3_numberOfOrder 43 = .ok (.invokestatic 133, 3) := by decide +kernel
theorem dX3_numberOfOrder_46 : decode cX3_numberOfOrder 46 = .ok (.iadd, 1) := by decide +kernel
theorem dX3_numberOfOrder_47 : decode cX3_numberOfOrder 47 = .ok (.istore_n 3, 1) := by decide +kernel
theorem dX3_numberOfOrder_48 : decode cX3_numberOfOrder 48 = .ok (.iinc 4 1, 3) := by decide +kernel
theorem dX3_numberOfOrder_51 : decode cX3_numberOfOrder 51 = .ok (.goto (-36), 3) := by decide +kernel
theorem dX3_numberOfOrder_54 : decode cX3_numberOfOrder 54 = .ok (.iload_n 1, 1) := by decide +kernel
theorem dX3_numberOfOrder_55 : decode cX3_numberOfOrder 55 = .ok (.iload_n 3, 1) := by decide +kernel
theorem dX3_numberOfOrder_56 : decode cX3_numberOfOrder 56 = .ok (.getstatic 76, 3) := by decide +kernel
theorem dX3_numberOfOrder_59 : decode cX3_numberOfOrder 59 = .ok (.iload_n 2, 1) := by decide +kernel
theorem dX3_numberOfOrder_60 : decode cX3_numberOfOrder 60 = .ok (.iaload, 1) := by decide +kernel
theorem dX3_numberOfOrder_61 : decode cX3_numberOfOrder 61 = .ok (.imul, 1) := by decide +kernel
theorem dX3_numberOfOrder_62 : decode cX3_numberOfOrder 62 = .ok (.iadd, 1) := by decide +kernel
theorem dX3_numberOfOrder_63 : decode cX3_numberOfOrder 63 = .ok (.istore_n 1, 1) := by decide +kernel
theorem dX3_numberOfOrder_64 : decode cX3_numberOfOrder 64 = .ok (.iinc 2 1, 3) := by decide +kernel
theorem dX3_numberOfOrder_67 : decode cX3_numberOfOrder 67 = .ok (.goto (-63), 3) := by decide +kernel
theorem dX3_numberOfOrder_70 : decode cX3_numberOfOrder 70 = .ok (.iload_n 1, 1) := by decide +kernel
theorem dX3_numberOfOrder_71 : decode cX3_numberOfOrder 71 = .ok (.ireturn, 1) := by decide +kernel
set_option maxRecDepth 20000 in
theorem ggX3_setDigits_X9_bit : GoodIn wsX3_setDigits wsX9_bit := goodIn_r _ [5] rfl (by decide +kernel)
set_option maxRecDepth 20000 in
theorem gX3_setDigits_X9_bit_n133 : GoodIn wsX3_setDigits (wsX9_bit) := ggX3_setDigits_X9_bit
theorem dX3_setDigits_0 : decode cX3_setDigits 0 = .ok (.iconst 0, 1) := by decide +kernel
theorem dX3_setDigits_1 : decode cX3_setDigits 1 = .ok (.istore_n 2, 1) := by decide +kernel
theorem dX3_setDigits_2 : decode cX3_setDigits 2 = .ok (.iload_n 2, 1) := by decide +kernel
theorem dX3_setDigits_3 : decode cX3_setDigits 3 = .ok (.bipush 6, 2) := by decide +kernel
theorem dX3_setDigits_5 : decode cX3_setDigits 5 = .ok (.if_icmp .ge 74, 3) := by decide +kernel
theorem dX3_setDigits_8 : decode cX3_setDigits 8 = .ok (.iload_n 2, 1) := by decide +kernel
theorem dX3_setDigits_9 : decode cX3_setDigits 9 = .ok (.iload_n 1, 1) := by decide +kernel
theorem dX3_setDigits_10 : decode cX3_setDigits 10 = .ok (.getstatic 76, 3) := by decide +kernel
theorem dX3_setDigits_13 : decode cX3_setDigits 13 = .ok (.iload_n 2, 1) := by decide +kernel
theorem dX3_setDigits_14 : decode cX3_setDigits 14 = .ok (.iaload, 1) := by decide +kernel
theorem dX3_setDigits_15 : decode cX3_setDigits 15 = .ok (.idiv, 1) := by decide +kernel
theorem dX3_setDigits_16 : decode cX3_setDigits 16 = .ok (.iload_n 2, 1) := by decide +kernel
theorem dX3_setDigits_17 : decode cX3_setDigits 17 = .ok (.iconst 1, 1) := by decide +kernel
theorem dX3_setDigits_18 : decode cX3_setDigits 18 = .ok (.iadd, 1) := by decide +kernel
theorem dX3_setDigits_19 : decode cX3_setDigits 19 = .ok (.irem, 1) := by decide +kernel
theorem dX3_setDigits_20 : decode cX3_setDigits 20 = .ok (.isub, 1) := by decide +kernel
theorem dX3_setDigits_21 : decode cX3_setDigits 21 = .ok (.istore_n 3, 1) := by decide +kernel
theorem dX3_setDigits_22 : decode cX3_setDigits 22 = .ok (.iconst 0, 1) := by decide +kernel
theorem dX3_setDigits_23 : decode cX3_setDigits 23 = .ok (.istore 4, 2) := by decide +kernel
theorem dX3_setDigits_25 : decode cX3_setDigits 25 = .ok (.iload 4, 2) := by decide +kernel
theorem dX3_setDigits_27 : decode cX3_setDigits 27 = .ok (.iload_n 2, 1) := by decide +kernel
theorem dX3_setDigits_28 : decode cX3_setDigits 28 = .ok (.if_icmp .ge 38, 3) := by decide +kernel
theorem dX3_setDigits_31 : decode cX3_setDigits 31 = .ok (.aload_n 0, 1) := by decide +kernel
theorem dX3_setDigits_32 : decode cX3_setDigits 32 = .ok (.getfield 15, 3) := by decide +kernel
theorem dX3_setDigits_35 : decode cX3_setDigits 35 = .ok (.iload 4, 2) := by decide +kernel
theorem dX3_setDigits_37 : decode cX3_setDigits 37 = .ok (.dup2, 1) := by decide +kernel
theorem dX3_setDigits_38 : decode cX3_setDigits 38 = .ok (.iaload, 1) := by decide +kernel
theorem dX3_setDigits_39 : decode cX3_setDigits 39 = .ok (.aload_n 0, 1) := by decide +kernel
theorem dX3_setDigits_40 : decode cX3_setDigits 40 = .ok (.getfield 15, 3) := by decide +kernel
theorem dX3_setDigits_43 : decode cX3_setDigits 43 = .ok (.iload 4, 2) := by decide +kernel
theorem dX3_setDigits_45 : decode cX3_setDigits 45 = .ok (.iaload, 1) := by decide +kernel
theorem dX3_setDigits_46 : decode cX3_setDigits 46 = .ok (.iload_n 3, 1) := by decide +kernel
theorem dX3_setDigits_47 : decode cX3_setDigits 47 = .ok (.if_icmp .lt 7, 3) := by decide +kernel
theorem dX3_setDigits_54 : decode cX3_setDigits 54 = .ok (.iconst 0, 1) := by decide +kernel
theorem dX3_setDigits_55 : decode cX3_setDigits 55 = .ok (.invokestatic 133, 3) := by decide +kernel
theorem dX3_setDigits_58 : decode cX3_setDigits 58 = .ok (.iadd, 1) := by decide +kernel
theorem dX3_setDigits_59 : decode cX3_setDigits 59 = .ok (.iastore, 1) := by decide +kernel
theorem dX3_setDigits_60 : decode cX3_setDigits 60 = .ok (.iinc 4 1, 3) := by decide +kernel
theorem dX3_setDigits_63 : decode cX3_setDigits 63 = .ok (.goto (-38), 3) := by decide +kernel
theorem dX3_setDigits_66 : decode cX3_setDigits 66 = .ok (.aload_n 0, 1) := by decide +kernel
theorem dX3_setDigits_67 : decode cX3_setDigits 67 = .ok (.getfield 15, 3) := by decide +kernel
theorem dX3_setDigits_70 : decode cX3_setDigits 70 = .ok (.iload_n 2, 1) := by decide +kernel
theorem dX3_setDigits_71 : decode cX3_setDigits 71 = .ok (.iload_n 3, 1) := by decide +kernel
theorem dX3_setDigits_72 : decode cX3_setDigits 72 = .ok (.iastore, 1) := by decide +kernel
theorem dX3_setDigits_73 : decode cX3_setDigits 73 = .ok (.iinc 2 1, 3) := by decide +kernel
theorem dX3_setDigits_76 : decode cX3_setDigits 76 = .ok (.goto (-74), 3) := by decide +kernel
theorem dX3_setDigits_79 : decode cX3_setDigits 79 = .ok (.return_, 1) := by decide +kernel
set_option maxRecDepth 20000 in
theorem ggX3_makeRoom_X3_listOrder : GoodIn wsX3_makeRoom wsX3_listOrder := goodIn_r _ [17, 9, 18, 8, 10, 19, 20, 21, 16, 22, 7, 23, 24, 25, 26, 27, 28, 29, 33, 34, 35, 36, 37, 38, 39, 40, 41, 42, 43, 44, 45, 46, 47, 48, 49, 50, 51, 52] rfl (by decide +kernel)
set_option maxRecDepth 20000 in
theorem gX3_makeRoom_X3_listOrder : GoodIn wsX3_makeRoom (wsV RX3 191 RX3 yX3_listOrder wsX3_listOrder) := goodIn_app (goodIn_of _ (by decide +kernel)) ggX3_makeRoom_X3_listOrder
theorem dX3_makeRoom_0 : decode cX3_makeRoom 0 = .ok (.aload_n 0, 1) := by decide +kernel
theorem dX3_makeRoom_1 : decode cX3_makeRoom 1 = .ok (.aload_n 0, 1) := by decide +kernel
theorem dX3_makeRoom_2 : decode cX3_makeRoom 2 = .ok (.getfield 55, 3) := by decide +kernel
theorem dX3_makeRoom_5 : decode cX3_makeRoom 5 = .ok (.newarray .int, 2) := by decide +kernel
theorem dX3_makeRoom_7 : decode cX3_makeRoom 7 = .ok (.putfield 39, 3) := by decide +kernel
theorem dX3_makeRoom_10 : decode cX3_makeRoom 10 = .ok (.aload_n 0, 1) := by decide +kernel
theorem dX3_makeRoom_11 : decode cX3_makeRoom 11 = .ok (.aload_n 0, 1) := by decide +kernel
theorem dX3_makeRoom_12 : decode cX3_makeRoom 12 = .ok (.getfield 55, 3) := by decide +kernel
theorem dX3_makeRoom_15 : decode cX3_makeRoom 15 = .ok (.newarray .int, 2) := by decide +kernel
theorem dX3_makeRoom_17 : decode cX3_makeRoom 17 = .ok (.putfield 42, 3) := by decide +kernel
theorem dX3_makeRoom_20 : decode cX3_makeRoom 20 = .ok (.aload_n 0, 1) := by decide +kernel
theorem dX3_makeRoom_21 : decode cX3_makeRoom 21 = .ok (.aload_n 0, 1) := by decide +kernel
theorem dX3_makeRoom_22 : decode cX3_makeRoom 22 = .ok (.getfield 55, 3) := by decide +kernel
theorem dX3_makeRoom_25 : decode cX3_makeRoom 25 = .ok (.newarray .int, 2) := by decide +kernel
theorem dX3_makeRoom_27 : decode cX3_makeRoom 27 = .ok (.putfield 45, 3) := by decide +kernel
theorem dX3_makeRoom_30 : decode cX3_makeRoom 30 = .ok (.aload_n 0, 1) := by decide +kernel
theorem dX3_makeRoom_31 : decode cX3_makeRoom 31 = .ok (.aload_n 0, 1) := by decide +kernel
theorem dX3_makeRoom_32 : decode cX3_makeRoom 32 = .ok (.getfield 55, 3) := by decide +kernel
theorem dX3_makeRoom_35 : decode cX3_makeRoom 35 = .ok (.newarray .int, 2) := by decide +kernel
theorem dX3_makeRoom_37 : decode cX3_makeRoom 37 = .ok (.putfield 48, 3) := by decide +kernel
theorem dX3_makeRoom_40 : decode cX3_makeRoom 40 = .ok (.aload_n 0, 1) := by decide +kernel
theorem dX3_makeRoom_41 : decode cX3_makeRoom 41 = .ok (.getstatic 76, 3) := by decide +kernel
theorem dX3_makeRoom_44 : decode cX3_makeRoom 44 = .ok (.aload_n 0, 1) := by decide +kernel
theorem dX3_makeRoom_45 : decode cX3_makeRoom 45 = .ok (.getfield 51, 3) := by decide +kernel
theorem dX3_makeRoom_48 : decode cX3_makeRoom 48 = .ok (.iaload, 1) := by decide +kernel
theorem dX3_makeRoom_49 : decode cX3_makeRoom 49 = .ok (.newarray .int, 2) := by decide +kernel
theorem dX3_makeRoom_51 : decode cX3_makeRoom 51 = .ok (.putfield 30, 3) := by decide +kernel
theorem dX3_makeRoom_54 : decode cX3_makeRoom 54 = .ok (.aload_n 0, 1) := by decide +kernel
theorem dX3_makeRoom_55 : decode cX3_makeRoom 55 = .ok (.getstatic 76, 3) := by decide +kernel
theorem dX3_makeRoom_58 : decode cX3_makeRoom 58 = .ok (.aload_n 0, 1) := by decide +kernel
theorem dX3_makeRoom_59 : decode cX3_makeRoom 59 = .ok (.getfield 51, 3) := by decide +kernel
theorem dX3_makeRoom_62 : decode cX3_makeRoom 62 = .ok (.iaload, 1) := by decide +kernel
theorem dX3_makeRoom_63 : decode cX3_makeRoom 63 = .ok (.bipush 6, 2) := by decide +kernel
theorem dX3_makeRoom_65 : decode cX3_makeRoom 65 = .ok (.imul, 1) := by decide +kernel
theorem dX3_makeRoom_66 : decode cX3_makeRoom 66 = .ok (.newarray .int, 2) := by decide +kernel
theorem dX3_makeRoom_68 : decode cX3_makeRoom 68 = .ok (.putfield 33, 3) := by decide +kernel
theorem dX3_makeRoom_71 : decode cX3_makeRoom 71 = .ok (.aload_n 0, 1) := by decide +kernel
theorem dX3_makeRoom_72 : decode cX3_makeRoom 72 = .ok (.bipush 6, 2) := by decide +kernel
theorem dX3_makeRoom_74 : decode cX3_makeRoom 74 = .ok (.aload_n 0, 1) := by decide +kernel
theorem dX3_makeRoom_75 : decode cX3_makeRoom 75 = .ok (.getfield 51, 3) := by decide +kernel
theorem dX3_makeRoom_78 : decode cX3_makeRoom 78 = .ok (.ishl, 1) := by decide +kernel
theorem dX3_makeRoom_79 : decode cX3_makeRoom 79 = .ok (.newarray .int, 2) := by decide +kernel
theorem dX3_makeRoom_81 : decode cX3_makeRoom 81 = .ok (.putfield 36, 3) := by decide +kernel
theorem dX3_makeRoom_84 : decode cX3_makeRoom 84 = .ok (.aload_n 0, 1) := by decide +kernel
theorem dX3_makeRoom_85 : decode cX3_makeRoom 85 = .ok (.iconst (-1), 1) := by decide +kernel
theorem dX3_makeRoom_86 : decode cX3_makeRoom 86 = .ok (.putfield 64, 3) := by decide +kernel
theorem dX3_makeRoom_89 : decode cX3_makeRoom 89 = .ok (.iconst 0, 1) := by decide +kernel
theorem dX3_makeRoom_90 : decode cX3_makeRoom 90 = .ok (.istore_n 1, 1) := by decide +kernel
theorem dX3_makeRoom_91 : decode cX3_makeRoom 91 = .ok (.iload_n 1, 1) := by decide +kernel
theorem dX3_makeRoom_92 : decode cX3_makeRoom 92 = .ok (.aload_n 0, 1) := by decide +kernel
theorem dX3_makeRoom_93 : decode cX3_makeRoom 93 = .ok (.getfield 30, 3) := by decide +kernel
theorem dX3_makeRoom_96 : decode cX3_makeRoom 96 = .ok (.arraylength, 1) := by decide +kernel
theorem dX3_makeRoom_97 : decode cX3_makeRoom 97 = .ok (.if_icmp .ge 14, 3) := by decide +kernel
theorem dX3_makeRoom_100 : decode cX3_makeRoom 100 = .ok (.aload_n 0, 1) := by decide +kernel
theorem dX3_makeRoom_101 : decode cX3_makeRoom 101 = .ok (.iload_n 1, 1) := by decide +kernel
theorem dX3_makeRoom_102 : decode cX3_makeRoom 102 = .ok (.invokevirtual 191, 3) := by decide +kernel
theorem dX3_makeRoom_105 : decode cX3_makeRoom 105 = .ok (.iinc 1 1, 3) := by decide +kernel
theorem dX3_makeRoom_108 : decode cX3_makeRoom 108 = .ok (.goto (-17), 3) := by decide +kernel
theorem dX3_makeRoom_111 : decode cX3_makeRoom 111 = .ok (.iconst 0, 1) := by decide +kernel
theorem dX3_makeRoom_112 : decode cX3_makeRoom 112 = .ok (.istore_n 1, 1) := by decide +kernel
theorem dX3_makeRoom_113 : decode cX3_makeRoom 113 = .ok (.iload_n 1, 1) := by decide +kernel
theorem dX3_makeRoom_114 : decode cX3_makeRoom 114 = .ok (.iconst 1, 1) := by decide +kernel
theorem dX3_makeRoom_115 : decode cX3_makeRoom 115 = .ok (.aload_n 0, 1) := by decide +kernel
theorem dX3_makeRoom_116 : decode cX3_makeRoom 116 = .ok (.getfield 51, 3) := by decide +kernel
theorem dX3_makeRoom_119 : decode cX3_makeRoom 119 = .ok (.ishl, 1) := by decide +kernel
theorem dX3_makeRoom_120 : decode cX3_makeRoom 120 = .ok (.if_icmp .ge 43, 3) := by decide +kernel
theorem dX3_makeRoom_123 : decode cX3_makeRoom 123 = .ok (.iconst 1, 1) := by decide +kernel
theorem dX3_makeRoom_124 : decode cX3_makeRoom 124 = .ok (.istore_n 2, 1) := by decide +kernel
theorem dX3_makeRoom_125 : decode cX3_makeRoom 125 = .ok (.iload_n 2, 1) := by decide +kernel
theorem dX3_makeRoom_126 : decode cX3_makeRoom 126 = .ok (.aload_n 0, 1) := by decide +kernel
theorem dX3_makeRoom_127 : decode cX3_makeRoom 127 = .ok (.getfield 51, 3) := by decide +kernel
theorem dX3_makeRoom_130 : decode cX3_makeRoom 130 = .ok (.if_icmp .gt 27, 3) := by decide +kernel
theorem dX3_makeRoom_157 : decode cX3_makeRoom 157 = .ok (.iinc 1 1, 3) := by decide +kernel
theorem dX3_makeRoom_160 : decode cX3_makeRoom 160 = .ok (.goto (-47), 3) := by decide +kernel
theorem dX3_makeRoom_163 : decode cX3_makeRoom 163 = .ok (.return_, 1) := by decide +kernel
set_option maxRecDepth 20000 in
theorem ggX3_listOrder_X3_setDigits : GoodIn wsX3_listOrder wsX3_setDigits := goodIn_r _ [9, 10, 2, 11, 12, 13, 18, 19, 20, 21, 22, 23, 24, 25, 26, 27, 28, 29, 30, 31, 32, 33, 34, 35, 36, 37] rfl (by decide +kernel)
set_option maxRecDepth 20000 in
theorem gX3_listOrder_X3_setDigits : GoodIn wsX3_listOrder (wsV RX3 197 RX3 yX3_setDigits wsX3_setDigits) := goodIn_app (goodIn_of _ (by decide +kernel)) ggX3_listOrder_X3_setDigits
theorem dX3_listOrder_0 : decode cX3_listOrder 0 = .ok (.aload_n 0, 1) := by decide +kernel
theorem dX3_listOrder_1 : decode cX3_listOrder 1 = .ok (.iload_n 1, 1) := by decide +kernel
theorem dX3_listOrder_2 : decode cX3_listOrder 2 = .ok (.invokevirtual 197, 3) := by decide +kernel
theorem dX3_listOrder_5 : decode cX3_listOrder 5 = .ok (.iconst 0, 1) := by decide +kernel
theorem dX3_listOrder_6 : decode cX3_listOrder 6 = .ok (.istore_n 2, 1) := by decide +kernel
theorem dX3_listOrder_7 : decode cX3_listOrder 7 = .ok (.iload_n 2, 1) := by decide +kernel
theorem dX3_listOrder_8 : decode cX3_listOrder 8 = .ok (.bipush 6, 2) := by decide +kernel
theorem dX3_listOrder_10 : decode cX3_listOrder 10 = .ok (.if_icmp .ge 28, 3) := by decide +kernel
theorem dX3_listOrder_13 : decode cX3_listOrder 13 = .ok (.aload_n 0, 1) := by decide +kernel
theorem dX3_listOrder_14 : decode cX3_listOrder 14 = .ok (.getfield 30, 3) := by decide +kernel
theorem dX3_listOrder_17 : decode cX3_listOrder 17 = .ok (.iload_n 1, 1) := by decide +kernel
theorem dX3_listOrder_18 : decode cX3_listOrder 18 = .ok (.dup2, 1) := by decide +kernel
theorem dX3_listOrder_19 : decode cX3_listOrder 19 = .ok (.iaload, 1) := by decide +kernel
theorem dX3_listOrder_20 : decode cX3_listOrder 20 = .ok (.aload_n 0, 1) := by decide +kernel
theorem dX3_listOrder_21 : decode cX3_listOrder 21 = .ok (.getfield 15, 3) := by decide +kernel
theorem dX3_listOrder_24 : decode cX3_listOrder 24 = .ok (.iload_n 2, 1) := by decide +kernel
theorem dX3_listOrder_25 : decode cX3_listOrder 25 = .ok (.iaload, 1) := by decide +kernel
theorem dX3_listOrder_26 : decode cX3_listOrder 26 = .ok (.iconst 3, 1) := by decide +kernel
theorem dX3_listOrder_27 : decode cX3_listOrder 27 = .ok (.iload_n 2, 1) := by decide +kernel
theorem dX3_listOrder_28 : decode cX3_listOrder 28 = .ok (.imul, 1) := by decide +kernel
theorem dX3_listOrder_29 : decode cX3_listOrder 29 = .ok (.ishl, 1) := by decide +kernel
theorem dX3_listOrder_30 : decode cX3_listOrder 30 = .ok (.ior, 1) := by decide +kernel
theorem dX3_listOrder_31 : decode cX3_listOrder 31 = .ok (.iastore, 1) := by decide +kernel
theorem dX3_listOrder_32 : decode cX3_listOrder 32 = .ok (.iinc 2 1, 3) := by decide +kernel
theorem dX3_listOrder_35 : decode cX3_listOrder 35 = .ok (.goto (-28), 3) := by decide +kernel
theorem dX3_listOrder_38 : decode cX3_listOrder 38 = .ok (.iconst 1, 1) := by decide +kernel
theorem dX3_listOrder_39 : decode cX3_listOrder 39 = .ok (.istore_n 2, 1) := by decide +kernel
theorem dX3_listOrder_40 : decode cX3_listOrder 40 = .ok (.iload_n 2, 1) := by decide +kernel
theorem dX3_listOrder_41 : decode cX3_listOrder 41 = .ok (.aload_n 0, 1) := by decide +kernel
theorem dX3_listOrder_42 : decode cX3_listOrder 42 = .ok (.getfield 51, 3) := by decide +kernel
theorem dX3_listOrder_45 : decode cX3_listOrder 45 = .ok (.if_icmp .gt 83, 3) := by decide +kernel
theorem dX3_listOrder_128 : decode cX3_listOrder 128 = .ok (.return_, 1) := by decide +kernel
set_option maxRecDepth 20000 in
theorem ggX9_undo_X9_refuse : GoodIn wsX9_undo wsX9_refuse := goodIn_r _ [7, 8, 9, 31, 32, 33, 34, 35, 36, 37, 38, 39, 40, 41, 42, 43, 44, 45, 46, 47, 48, 49] rfl (by decide +kernel)
set_option maxRecDepth 20000 in
theorem gX9_undo_X9_refuse : GoodIn wsX9_undo (wsV RX9 118 RX9 yX9_refuse wsX9_refuse) := goodIn_app (goodIn_of _ (by decide +kernel)) ggX9_undo_X9_refuse
theorem dX9_undo_0 : decode cX9_undo 0 = .ok (.aload_n 0, 1) := by decide +kernel
theorem dX9_undo_1 : decode cX9_undo 1 = .ok (.getfield 27, 3) := by decide +kernel
theorem dX9_undo_4 : decode cX9_undo 4 = .ok (.getfield 214, 3) := by decide +kernel
theorem dX9_undo_7 : decode cX9_undo 7 = .ok (.ifCond .gt 10, 3) := by decide +kernel
theorem dX9_undo_10 : decode cX9_undo 10 = .ok (.aload_n 0, 1) := by decide +kernel
theorem dX9_undo_11 : decode cX9_undo 11 = .ok (.bipush (-3), 2) := by decide +kernel
theorem dX9_undo_13 : decode cX9_undo 13 = .ok (.invokevirtual 118, 3) := by decide +kernel
theorem dX9_undo_16 : decode cX9_undo 16 = .ok (.ireturn, 1) := by decide +kernel
