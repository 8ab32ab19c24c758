set_option maxRecDepth 20000 in
theorem ggX3_setDigits_X9_bit : GoodIn wsX3_setDigits wsX9_bit := goodIn_r _ [5] (by decide +kernel) (by decide +kernel)
set_option maxRecDepth 20000 in
theorem gX3_setDigits_X9_bit_n133 : GoodIn wsX3_setDigits (wsX9_bit) := ggX3_setDigits_X9_bit
theorem dX3_setDigits_0 : decode cX3_setDigits 0 = .ok (.iconst 0, 1) := by decide +kernel
theorem dX3_setDigits_1 : decode cX3_setDigits 1 = .ok (.istore_n 2, 1) := by decide +kernel
theorem dX3_setDigits_2 : decode cX3_setDigits 2 = .ok (.iload_n 2, 1) := by decide +kernel
theorem dX3_setDigits_3 : decode cX3_setDigits 3 = .ok (.bipush 6, 2) := by decide +kernel
theorem dX3_setDigits_5 : decode cX3_setDigits 5 = .ok (.if_icmp .ge 74, 3) := by decide +kernel
theorem dX3_setDigits_8 : decode cX3_setDigits 8 = .ok (.iload_n 2, 1) := by decide +kernel
theorem dX3_setDigits_9 : decode cX3_setDigits 9 = .ok (.iload_n 1, 1) := by decide +kernel
theorem dX3_setDigits_10 : decode cX3_setDigits 10 = .ok (.getstatic 76, 3) := by decide +kernel
theorem dX3_setDigits_13 : decode cX3_setDigits 13 = .ok (.iload_n 2, 1) := by decide +kernel
theorem dX3_setDigits_14 : decode cX3_setDigits 14 = .ok (.iaload, 1) := by decide +kernel
theorem dX3_setDigits_15 : decode cX3_setDigits 15 = .ok (.idiv, 1) := by decide +kernel
theorem dX3_setDigits_16 : decode cX3_setDigits 16 = .ok (.iload_n 2, 1) := by decide +kernel
theorem dX3_setDigits_17 : decode cX3_setDigits 17 = .ok (.iconst 1, 1) := by decide +kernel
theorem dX3_setDigits_18 : decode cX3_setDigits 18 = .ok (.iadd, 1) := by decide +kernel
theorem dX3_setDigits_19 : decode cX3_setDigits 19 = .ok (.irem, 1) := by decide +kernel
theorem dX3_setDigits_20 : decode cX3_setDigits 20 = .ok (.isub, 1) := by decide +kernel
theorem dX3_setDigits_21 : decode cX3_setDigits 21 = .ok (.istore_n 3, 1) := by decide +kernel
theorem dX3_setDigits_22 : decode cX3_setDigits 22 = .ok (.iconst 0, 1) := by decide +kernel
theorem dX3_setDigits_23 : decode cX3_setDigits 23 = .ok (.istore 4, 2) := by decide +kernel
theorem dX3_setDigits_25 : decode cX3_setDigits 25 = .ok (.iload 4, 2) := by decide +kernel
theorem dX3_setDigits_27 : decode cX3_setDigits 27 = .ok (.iload_n 2, 1) := by decide +kernel
theorem dX3_setDigits_28 : decode cX3_setDigits 28 = .ok (.if_icmp .ge 38, 3) := by decide +kernel
theorem dX3_setDigits_31 : decode cX3_setDigits 31 = .ok (.aload_n 0, 1) := by decide +kernel
theorem dX3_setDigits_32 : decode cX3_setDigits 32 = .ok (.getfield 15, 3) := by decide +kernel
theorem dX3_setDigits_35 : decode cX3_setDigits 35 = .ok (.iload 4, 2) := by decide +kernel
theorem dX3_setDigits_37 : decode cX3_setDigits 37 = .ok (.dup2, 1) := by decide +kernel
theorem dX3_setDigits_38 : decode cX3_setDigits 38 = .ok (.iaload, 1) := by decide +kernel
theorem dX3_setDigits_39 : decode cX3_setDigits 39 = .ok (.aload_n 0, 1) := by decide +kernel
theorem dX3_setDigits_40 : decode cX3_setDigits 40 = .ok (.getfield 15, 3) := by decide +kernel
theorem dX3_setDigits_43 : decode cX3_setDigits 43 = .ok (.iload 4, 2) := by decide +kernel
theorem dX3_setDigits_45 : decode cX3_setDigits 45 = .ok (.iaload, 1) := by decide +kernel
theorem dX3_setDigits_46 : decode cX3_setDigits 46 = .ok (.iload_n 3, 1) := by decide +kernel
theorem dX3_setDigits_47 : decode cX3_setDigits 47 = .ok (.if_icmp .lt 7, 3) := by decide +kernel
theorem dX3_setDigits_54 : decode cX3_setDigits 54 = .ok (.iconst 0, 1) := by decide +kernel
theorem dX3_setDigits_55 : decode cX3_setDigits 55 = .ok (.invokestatic 133, 3) := by decide +kernel
theorem dX3_setDigits_58 : decode cX3_setDigits 58 = .ok (.iadd, 1) := by decide +kernel
theorem dX3_setDigits_59 : decode cX3_setDigits 59 = .ok (.iastore, 1) := by decide +kernel
theorem dX3_setDigits_60 : decode cX3_setDigits 60 = .ok (.iinc 4 1, 3) := by decide +kernel
theorem dX3_setDigits_63 : decode cX3_setDigits 63 = .ok (.goto (-38), 3) := by decide +kernel
theorem dX3_setDigits_66 : decode cX3_setDigits 66 = .ok (.aload_n 0, 1) := by decide +kernel
theorem dX3_setDigits_67 : decode cX3_setDigits 67 = .ok (.getfield 15, 3) := by decide +kernel
theorem dX3_setDigits_70 : decode cX3_setDigits 70 = .ok (.iload_n 2, 1) := by decide +kernel
theorem dX3_setDigits_71 : decode cX3_setDigits 71 = .ok (.iload_n 3, 1) := by decide +kernel
theorem dX3_setDigits_72 : decode cX3_setDigits 72 = .ok (.iastore, 1) := by decide +kernel
theorem dX3_setDigits_73 : decode cX3_setDigits 73 = .ok (.iinc 2 1, 3) := by decide +kernel
theorem dX3_setDigits_76 : decode cX3_setDigits 76 = .ok (.goto (-74), 3) := by decide +kernel
theorem dX3_setDigits_79 : decode cX3_setDigits 79 = .ok (.return_, 1) := by decide +kernel
set_option maxRecDepth 20000 in
theorem ggX3_makeRoom_X3_listOrder : GoodIn wsX3_makeRoom wsX3_listOrder := goodIn_r _ [17, 9, 18, 8, 10, 19, 20, 21, 16, 22, 7, 23, 24, 25, 26, 27, 28, 29, 33, 34, 35, 36, 37, 38, 39, 40, 41, 42, 43, 44, 45, 46, 47, 48, 49, 50, 51, 52] (by decide +kernel) (by decide +kernel)
set_option maxRecDepth 20000 in
theorem gX3_makeRoom_X3_listOrder : GoodIn wsX3_makeRoom (wsV RX3 191 RX3 yX3_listOrder wsX3_listOrder) := goodIn_app (goodIn_of _ (by decide +kernel)) ggX3_makeRoom_X3_listOrder
theorem dX3_makeRoom_0 : decode cX3_makeRoom 0 = .ok (.aload_n 0, 1) := by decide +kernel
theorem dX3_makeRoom_1 : decode cX3_makeRoom 1 = .ok (.aload_n 0, 1) := by decide +kernel
theorem dX3_makeRoom_2 : decode cX3_makeRoom 2 = .ok (.getfield 55, 3) := by decide +kernel
theorem dX3_makeRoom_5 : decode cX3_makeRoom 5 = .ok (.newarray .int, 2) := by decide +kernel
theorem dX3_makeRoom_7 : decode cX3_makeRoom 7 = .ok (.putfield 39, 3) := by decide +kernel
theorem dX3_makeRoom_10 : decode cX3_makeRoom 10 = .ok (.aload_n 0, 1) := by decide +kernel
theorem dX3_makeRoom_11 : decode cX3_makeRoom 11 = .ok (.aload_n 0, 1) := by decide +kernel
theorem dX3_makeRoom_12 : decode cX3_makeRoom 12 = .ok (.getfield 55, 3) := by decide +kernel
theorem dX3_makeRoom_15 : decode cX3_makeRoom 15 = .ok (.newarray .int, 2) := by decide +kernel
theorem dX3_makeRoom_17 : decode cX3_makeRoom 17 = .ok (.putfield 42, 3) := by decide +kernel
theorem dX3_makeRoom_20 : decode cX3_makeRoom 20 = .ok (.aload_n 0, 1) := by decide +kernel
theorem dX3_makeRoom_21 : decode cX3_makeRoom 21 = .ok (.aload_n 0, 1) := by decide +kernel
theorem dX3_makeRoom_22 : decode cX3_makeRoom 22 = .ok (.getfield 55, 3) := by decide +kernel
theorem dX3_makeRoom_25 : decode cX3_makeRoom 25 = .ok (.newarray .int, 2) := by decide +kernel
theorem dX3_makeRoom_27 : decode cX3_makeRoom 27 = .ok (.putfield 45, 3) := by decide +kernel
theorem dX3_makeRoom_30 : decode cX3_makeRoom 30 = .ok (.aload_n 0, 1) := by decide +kernel
theorem dX3_makeRoom_31 : decode cX3_makeRoom 31 = .ok (.aload_n 0, 1) := by decide +kernel
theorem dX3_makeRoom_32 : decode cX3_makeRoom 32 = .ok (.getfield 55, 3) := by decide +kernel
theorem dX3_makeRoom_35 : decode cX3_makeRoom 35 = .ok (.newarray .int, 2) := by decide +kernel
theorem dX3_makeRoom_37 : decode cX3_makeRoom 37 = .ok (.putfield 48, 3) := by decide +kernel
theorem dX3_makeRoom_40 : decode cX3_makeRoom 40 = .ok (.aload_n 0, 1) := by decide +kernel
theorem dX3_makeRoom_41 : decode cX3_makeRoom 41 = .ok (.getstatic 76, 3) := by decide +kernel
theorem dX3_makeRoom_44 : decode cX3_makeRoom 44 = .ok (.aload_n 0, 1) := by decide +kernel
theorem dX3_makeRoom_45 : decode cX3_makeRoom 45 = .ok (.getfield 51, 3) := by decide +kernel
theorem dX3_makeRoom_48 : decode cX3_makeRoom 48 = .ok (.iaload, 1) := by decide +kernel
theorem dX3_makeRoom_49 : decode cX3_makeRoom 49 = .ok (.newarray .int, 2) := by decide +kernel
theorem dX3_makeRoom_51 : decode cX3_makeRoom 51 = .ok (.putfield 30, 3) := by decide +kernel
theorem dX3_makeRoom_54 : decode cX3_makeRoom 54 = .ok (.aload_n 0, 1) := by decide +kernel
theorem dX3_makeRoom_55 : decode cX3_makeRoom 55 = .ok (.getstatic 76, 3) := by decide +kernel
theorem dX3_makeRoom_58 : decode cX3_makeRoom 58 = .ok (.aload_n 0, 1) := by decide +kernel
theorem dX3_makeRoom_59 : decode cX3_makeRoom 59 = .ok (.getfield 51, 3) := by decide +kernel
theorem dX3_makeRoom_62 : decode cX3_makeRoom 62 = .ok (.iaload, 1) := by decide +kernel
theorem dX3_makeRoom_63 : decode cX3_makeRoom 63 = .ok (.bipush 6, 2) := by decide +kernel
theorem dX3_makeRoom_65 : decode cX3_makeRoom 65 = .ok (.imul, 1) := by decide +kernel
theorem dX3_makeRoom_66 : decode cX3_makeRoom 66 = .ok (.newarray .int, 2) := by decide +kernel
theorem dX3_makeRoom_68 : decode cX3_makeRoom 68 = .ok (.putfield 33, 3) := by decide +kernel
theorem dX3_makeRoom_71 : decode cX3_makeRoom 71 = .ok (.aload_n 0, 1) := by decide +kernel
theorem dX3_makeRoom_72 : decode cX3_makeRoom 72 = .ok (.bipush 6, 2) := by decide +kernel
theorem dX3_makeRoom_74 : decode cX3_makeRoom 74 = .ok (.aload_n 0, 1) := by decide +kernel
theorem dX3_makeRoom_75 : decode cX3_makeRoom 75 = .ok (.getfield 51, 3) := by decide +kernel
theorem dX3_makeRoom_78 : decode cX3_makeRoom 78 = .ok (.ishl, 1) := by decide +kernel
theorem dX3_makeRoom_79 : decode cX3_makeRoom 79 = .ok (.newarray .int, 2) := by decide +kernel
theorem dX3_makeRoom_81 : decode cX3_makeRoom 81 = .ok (.putfield 36, 3) := by decide +kernel
theorem dX3_makeRoom_84 : decode cX3_makeRoom 84 = .ok (.aload_n 0, 1) := by decide +kernel
theorem dX3_makeRoom_85 : decode cX3_makeRoom 85 = .ok (.iconst (-1), 1) := by decide +kernel
theorem dX3_makeRoom_86 : decode cX3_makeRoom 86 = .ok (.putfield 64, 3) := by decide +kernel
theorem dX3_makeRoom_89 : decode cX3_makeRoom 89 = .ok (.iconst 0, 1) := by decide +kernel
theorem dX3_makeRoom_90 : decode cX3_makeRoom 90 = .ok (.istore_n 1, 1) := by decide +kernel
theorem dX3_makeRoom_91 : decode cX3_makeRoom 91 = .ok (.iload_n 1, 1) := by decide +kernel
theorem dX3_makeRoom_92 : decode cX3_makeRoom 92 = .ok (.aload_n 0, 1) := by decide +kernel
theorem dX3_makeRoom_93 : decode cX3_makeRoom 93 = .ok (.getfield 30, 3) := by decide +kernel
theorem dX3_makeRoom_96 : decode cX3_makeRoom 96 = .ok (.arraylength, 1) := by decide +kernel
theorem dX3_makeRoom_97 : decode cX3_makeRoom 97 = .ok (.if_icmp .ge 14, 3) := by decide +kernel
theorem dX3_makeRoom_100 : decode cX3_makeRoom 100 = .ok (.aload_n 0, 1) := by decide +kernel
theorem dX3_makeRoom_101 : decode cX3_makeRoom 101 = .ok (.iload_n 1, 1) := by decide +kernel
theorem dX3_makeRoom_102 : decode cX3_makeRoom 102 = .ok (.invokevirtual 191, 3) := by decide +kernel
theorem dX3_makeRoom_105 : decode cX3_makeRoom 105 = .ok (.iinc 1 1, 3) := by decide +kernel
theorem dX3_makeRoom_108 : decode cX3_makeRoom 108 = .ok (.goto (-17), 3) := by decide +kernel
theorem dX3_makeRoom_111 : decode cX3_makeRoom 111 = .ok (.iconst 0, 1) := by decide +kernel
theorem dX3_makeRoom_112 : decode cX3_makeRoom 112 = .ok (.istore_n 1, 1) := by decide +kernel
theorem dX3_makeRoom_113 : decode cX3_makeRoom 113 = .ok (.iload_n 1, 1) := by decide +kernel
theorem dX3_makeRoom_114 : decode cX3_makeRoom 114 = .ok (.iconst 1, 1) := by decide +kernel
theorem dX3_makeRoom_115 : decode cX3_makeRoom 115 = .ok (.aload_n 0, 1) := by decide +kernel
theorem dX3_makeRoom_116 : decode cX3_makeRoom 116 = .ok (.getfield 51, 3) := by decide +kernel
theorem dX3_makeRoom_119 : decode cX3_makeRoom 119 = .ok (.ishl, 1) := by decide +kernel
theorem dX3_makeRoom_120 : decode cX3_makeRoom 120 = .ok (.if_icmp .ge 43, 3) := by decide +kernel
theorem dX3_makeRoom_123 : decode cX3_makeRoom 123 = .ok (.iconst 1, 1) := by decide +kernel
theorem dX3_makeRoom_124 : decode cX3_makeRoom 124 = .ok (.istore_n 2, 1) := by decide +kernel
theorem dX3_makeRoom_125 : decode cX3_makeRoom 125 = .ok (.iload_n 2, 1) := by decide +kernel
theorem dX3_makeRoom_126 : decode cX3_makeRoom 126 = .ok (.aload_n 0, 1) := by decide +kernel
theorem dX3_makeRoom_127 : decode cX3_makeRoom 127 = .ok (.getfield 51, 3) := by decide +kernel
theorem dX3_makeRoom_130 : decode cX3_makeRoom 130 = .ok (.if_icmp .gt 27, 3) := by decide +kernel
theorem dX3_makeRoom_157 : decode cX3_makeRoom 157 = .ok (.iinc 1 1, 3) := by decide +kernel
theorem dX3_makeRoom_160 : decode cX3_makeRoom 160 = .ok (.goto (-47), 3) := by decide +kernel
theorem dX3_makeRoom_163 : decode cX3_makeRoom 163 = .ok (.return_, 1) := by decide +kernel
set_option maxRecDepth 20000 in
theorem ggX3_listOrder_X3_setDigits : GoodIn wsX3_listOrder wsX3_setDigits := goodIn_r _ [9, 10, 2, 11, 12, 13, 18, 19, 20, 21, 22, 23, 24, 25, 26, 27, 28, 29, 30, 31, 32, 33, 34, 35, 36, 37] (by decide +kernel) (by decide +kernel)
set_option maxRecDepth 20000 in
theorem gX3_listOrder_X3_setDigits : GoodIn wsX3_listOrder (wsV RX3 197 RX3 yX3_setDigits wsX3_setDigits) := goodIn_app (goodIn_of _ (by decide +kernel)) ggX3_listOrder_X3_setDigits
theorem dX3_listOrder_0 : decode cX3_listOrder 0 = .ok (.aload_n 0, 1) := by decide +kernel
theorem dX3_listOrder_1 : decode cX3_listOrder 1 = .ok (.iload_n 1, 1) := by decide +kernel
theorem dX3_listOrder_2 : decode cX3_listOrder 2 = .ok (.invokevirtual 197, 3) := by decide +kernel
theorem dX3_listOrder_5 : decode cX3_listOrder 5 = .ok (.iconst 0, 1) := by decide +kernel
theorem dX3_listOrder_6 : decode cX3_listOrder 6 = .ok (.istore_n 2, 1) := by decide +kernel
theorem dX3_listOrder_7 : decode cX3_listOrder 7 = .ok (.iload_n 2, 1) := by decide +kernel
theorem dX3_listOrder_8 : decode cX3_listOrder 8 = .ok (.bipush 6, 2) := by decide +kernel
theorem dX3_listOrder_10 : decode cX3_listOrder 10 = .ok (.if_icmp .ge 28, 3) := by decide +kernel
theorem dX3_listOrder_13 : decode cX3_listOrder 13 = .ok (.aload_n 0, 1) := by decide +kernel
theorem dX3_listOrder_14 : decode cX3_listOrder 14 = .ok (.getfield 30, 3) := by decide +kernel
theorem dX3_listOrder_17 : decode cX3_listOrder 17 = .ok (.iload_n 1, 1) := by decide +kernel
theorem dX3_listOrder_18 : decode cX3_listOrder 18 = .ok (.dup2, 1) := by decide +kernel
theorem dX3_listOrder_19 : decode cX3_listOrder 19 = .ok (.iaload, 1) := by decide +kernel
theorem dX3_listOrder_20 : decode cX3_listOrder 20 = .ok (.aload_n 0, 1) := by decide +kernel
theorem dX3_listOrder_21 : decode cX3_listOrder 21 = .ok (.getfield 15, 3) := by decide +kernel
theorem dX3_listOrder_24 : decode cX3_listOrder 24 = .ok (.iload_n 2, 1) := by decide +kernel
theorem dX3_listOrder_25 : decode cX3_listOrder 25 = .ok (.iaload, 1) := by decide +kernel
theorem dX3_listOrder_26 : decode cX3_listOrder 26 = .ok (.iconst 3, 1) := by decide +kernel
theorem dX3_listOrder_27 : decode cX3_listOrder 27 = .ok (.iload_n 2, 1) := by decide +kernel
theorem dX3_listOrder_28 : decode cX3_listOrder 28 = .ok (.imul, 1) := by decide +kernel
theorem dX3_listOrder_29 : decode cX3_listOrder 29 = .ok (.ishl, 1) := by decide +kernel
theorem dX3_listOrder_30 : decode cX3_listOrder 30 = .ok (.ior, 1) := by decide +kernel
theorem dX3_listOrder_31 : decode cX3_listOrder 31 = .ok (.iastore, 1) := by decide +kernel
theorem dX3_listOrder_32 : decode cX3_listOrder 32 = .ok (.iinc 2 1, 3) := by decide +kernel
theorem dX3_listOrder_35 : decode cX3_listOrder 35 = .ok (.goto (-28), 3) := by decide +kernel
theorem dX3_listOrder_38 : decode cX3_listOrder 38 = .ok (.iconst 1, 1) := by decide +kernel
theorem dX3_listOrder_39 : decode cX3_listOrder 39 = .ok (.istore_n 2, 1) := by decide +kernel
theorem dX3_listOrder_40 : decode cX3_listOrder 40 = .ok (.iload_n 2, 1) := by decide +kernel
theorem dX3_listOrder_41 : decode cX3_listOrder 41 = .ok (.aload_n 0, 1) := by decide +kernel
theorem dX3_listOrder_42 : decode cX3_listOrder 42 = .ok (.getfield 51, 3) := by decide +kernel
theorem dX3_listOrder_45 : decode cX3_listOrder 45 = .ok (.if_icmp .gt 83, 3) := by decide +kernel
theorem dX3_listOrder_128 : decode cX3_listOrder 128 = .ok (.return_, 1) := by decide +kernel
