set_option maxRecDepth 20000 in
theorem ggX3_rowsToOrder_X3_measure : GoodIn wsX3_rowsToOrder wsX3_measure := goodIn_r _ [16, 17, 11, 18, 19, 1, 5, 4, 20, 21, 22, 23, 24, 25, 26, 27, 28, 15, 29, 30, 31, 32, 33, 34, 35, 36, 37, 38, 39, 40, 41, 42, 43, 44, 45, 46, 47, 48, 49, 50, 51, 56, 57, 58, 59, 60, 61, 62, 63, 64, 65, 66, 67, 68, 69, 70, 71, 72, 73, 74, 75] (by decide +kernel) (by decide +kernel)
set_option maxRecDepth 20000 in
theorem gX3_rowsToOrder_X3_measure : GoodIn wsX3_rowsToOrder (wsV RX3 113 RX3 yX3_measure wsX3_measure) := goodIn_app (goodIn_of _ (by decide +kernel)) ggX3_rowsToOrder_X3_measure
set_option maxRecDepth 20000 in
theorem ggX3_rowsToOrder_J7_fill_53178 : GoodIn wsX3_rowsToOrder wsJ7_fill_53178 := goodIn_r _ [33] (by decide +kernel) (by decide +kernel)
set_option maxRecDepth 20000 in
theorem gX3_rowsToOrder_J7_fill_53178 : GoodIn wsX3_rowsToOrder (va_wsS RX3 122 yJ7_fill_53178 wsJ7_fill_53178) := goodIn_app (goodIn_of _ (by decide +kernel)) ggX3_rowsToOrder_J7_fill_53178
theorem dX3_rowsToOrder_0 : decode cX3_rowsToOrder 0 = .ok (.aload_n 0, 1) := by decide +kernel
theorem dX3_rowsToOrder_1 : decode cX3_rowsToOrder 1 = .ok (.invokevirtual 113, 3) := by decide +kernel
theorem dX3_rowsToOrder_4 : decode cX3_rowsToOrder 4 = .ok (.aload_n 0, 1) := by decide +kernel
theorem dX3_rowsToOrder_5 : decode cX3_rowsToOrder 5 = .ok (.getfield 39, 3) := by decide +kernel
theorem dX3_rowsToOrder_8 : decode cX3_rowsToOrder 8 = .ok (.aload_n 0, 1) := by decide +kernel
theorem dX3_rowsToOrder_9 : decode cX3_rowsToOrder 9 = .ok (.getfield 58, 3) := by decide +kernel
theorem dX3_rowsToOrder_12 : decode cX3_rowsToOrder 12 = .ok (.iaload, 1) := by decide +kernel
theorem dX3_rowsToOrder_13 : decode cX3_rowsToOrder 13 = .ok (.iconst (-1), 1) := by decide +kernel
theorem dX3_rowsToOrder_14 : decode cX3_rowsToOrder 14 = .ok (.if_icmp .ne 5, 3) := by decide +kernel
theorem dX3_rowsToOrder_19 : decode cX3_rowsToOrder 19 = .ok (.aload_n 0, 1) := by decide +kernel
theorem dX3_rowsToOrder_20 : decode cX3_rowsToOrder 20 = .ok (.getfield 42, 3) := by decide +kernel
theorem dX3_rowsToOrder_23 : decode cX3_rowsToOrder 23 = .ok (.iconst 0, 1) := by decide +kernel
theorem dX3_rowsToOrder_24 : decode cX3_rowsToOrder 24 = .ok (.invokestatic 122, 3) := by decide +kernel
theorem dX3_rowsToOrder_27 : decode cX3_rowsToOrder 27 = .ok (.aload_n 0, 1) := by decide +kernel
theorem dX3_rowsToOrder_28 : decode cX3_rowsToOrder 28 = .ok (.getfield 42, 3) := by decide +kernel
theorem dX3_rowsToOrder_31 : decode cX3_rowsToOrder 31 = .ok (.aload_n 0, 1) := by decide +kernel
theorem dX3_rowsToOrder_32 : decode cX3_rowsToOrder 32 = .ok (.getfield 58, 3) := by decide +kernel
theorem dX3_rowsToOrder_35 : decode cX3_rowsToOrder 35 = .ok (.iconst 1, 1) := by decide +kernel
theorem dX3_rowsToOrder_36 : decode cX3_rowsToOrder 36 = .ok (.iastore, 1) := by decide +kernel
theorem dX3_rowsToOrder_37 : decode cX3_rowsToOrder 37 = .ok (.aload_n 0, 1) := by decide +kernel
theorem dX3_rowsToOrder_38 : decode cX3_rowsToOrder 38 = .ok (.getfield 45, 3) := by decide +kernel
theorem dX3_rowsToOrder_41 : decode cX3_rowsToOrder 41 = .ok (.iconst 0, 1) := by decide +kernel
theorem dX3_rowsToOrder_42 : decode cX3_rowsToOrder 42 = .ok (.aload_n 0, 1) := by decide +kernel
theorem dX3_rowsToOrder_43 : decode cX3_rowsToOrder 43 = .ok (.getfield 58, 3) := by decide +kernel
theorem dX3_rowsToOrder_46 : decode cX3_rowsToOrder 46 = .ok (.iastore, 1) := by decide +kernel
theorem dX3_rowsToOrder_47 : decode cX3_rowsToOrder 47 = .ok (.iconst 1, 1) := by decide +kernel
theorem dX3_rowsToOrder_48 : decode cX3_rowsToOrder 48 = .ok (.istore_n 1, 1) := by decide +kernel
theorem dX3_rowsToOrder_49 : decode cX3_rowsToOrder 49 = .ok (.iconst 0, 1) := by decide +kernel
theorem dX3_rowsToOrder_50 : decode cX3_rowsToOrder 50 = .ok (.istore_n 2, 1) := by decide +kernel
theorem dX3_rowsToOrder_51 : decode cX3_rowsToOrder 51 = .ok (.iconst 0, 1) := by decide +kernel
theorem dX3_rowsToOrder_52 : decode cX3_rowsToOrder 52 = .ok (.istore_n 3, 1) := by decide +kernel
theorem dX3_rowsToOrder_53 : decode cX3_rowsToOrder 53 = .ok (.iload_n 3, 1) := by decide +kernel
theorem dX3_rowsToOrder_54 : decode cX3_rowsToOrder 54 = .ok (.aload_n 0, 1) := by decide +kernel
theorem dX3_rowsToOrder_55 : decode cX3_rowsToOrder 55 = .ok (.getfield 55, 3) := by decide +kernel
theorem dX3_rowsToOrder_58 : decode cX3_rowsToOrder 58 = .ok (.if_icmp .ge 142, 3) := by decide +kernel
theorem dX3_rowsToOrder_61 : decode cX3_rowsToOrder 61 = .ok (.iload_n 3, 1) := by decide +kernel
theorem dX3_rowsToOrder_62 : decode cX3_rowsToOrder 62 = .ok (.iload_n 1, 1) := by decide +kernel
theorem dX3_rowsToOrder_63 : decode cX3_rowsToOrder 63 = .ok (.if_icmp .ge 137, 3) := by decide +kernel
theorem dX3_rowsToOrder_66 : decode cX3_rowsToOrder 66 = .ok (.aload_n 0, 1) := by decide +kernel
theorem dX3_rowsToOrder_67 : decode cX3_rowsToOrder 67 = .ok (.getfield 45, 3) := by decide +kernel
theorem dX3_rowsToOrder_70 : decode cX3_rowsToOrder 70 = .ok (.iload_n 3, 1) := by decide +kernel
theorem dX3_rowsToOrder_71 : decode cX3_rowsToOrder 71 = .ok (.iaload, 1) := by decide +kernel
theorem dX3_rowsToOrder_72 : decode cX3_rowsToOrder 72 = .ok (.istore 4, 2) := by decide +kernel
theorem dX3_rowsToOrder_74 : decode cX3_rowsToOrder 74 = .ok (.aload_n 0, 1) := by decide +kernel
theorem dX3_rowsToOrder_75 : decode cX3_rowsToOrder 75 = .ok (.getfield 39, 3) := by decide +kernel
theorem dX3_rowsToOrder_78 : decode cX3_rowsToOrder 78 = .ok (.iload 4, 2) := by decide +kernel
theorem dX3_rowsToOrder_80 : decode cX3_rowsToOrder 80 = .ok (.iaload, 1) := by decide +kernel
theorem dX3_rowsToOrder_81 : decode cX3_rowsToOrder 81 = .ok (.ifCond .ne 18, 3) := by decide +kernel
theorem dX3_rowsToOrder_84 : decode cX3_rowsToOrder 84 = .ok (.ldc 128, 2) := by decide +kernel
theorem dX3_rowsToOrder_86 : decode cX3_rowsToOrder 86 = .ok (.iload_n 2, 1) := by decide +kernel
theorem dX3_rowsToOrder_87 : decode cX3_rowsToOrder 87 = .ok (.aload_n 0, 1) := by decide +kernel
theorem dX3_rowsToOrder_88 : decode cX3_rowsToOrder 88 = .ok (.getfield 42, 3) := by decide +kernel
theorem dX3_rowsToOrder_91 : decode cX3_rowsToOrder 91 = .ok (.iload 4, 2) := by decide +kernel
theorem dX3_rowsToOrder_93 : decode cX3_rowsToOrder 93 = .ok (.iaload, 1) := by decide +kernel
theorem dX3_rowsToOrder_94 : decode cX3_rowsToOrder 94 = .ok (.iadd, 1) := by decide +kernel
theorem dX3_rowsToOrder_95 : decode cX3_rowsToOrder 95 = .ok (.invokestatic 100, 3) := by decide +kernel
theorem dX3_rowsToOrder_98 : decode cX3_rowsToOrder 98 = .ok (.istore_n 2, 1) := by decide +kernel
theorem dX3_rowsToOrder_99 : decode cX3_rowsToOrder 99 = .ok (.iconst 1, 1) := by decide +kernel
theorem dX3_rowsToOrder_100 : decode cX3_rowsToOrder 100 = .ok (.istore 5, 2) := by decide +kernel
theorem dX3_rowsToOrder_102 : decode cX3_rowsToOrder 102 = .ok (.iload 5, 2) := by decide +kernel
theorem dX3_rowsToOrder_104 : decode cX3_rowsToOrder 104 = .ok (.aload_n 0, 1) := by decide +kernel
theorem dX3_rowsToOrder_105 : decode cX3_rowsToOrder 105 = .ok (.getfield 51, 3) := by decide +kernel
theorem dX3_rowsToOrder_108 : decode cX3_rowsToOrder 108 = .ok (.if_icmp .gt 86, 3) := by decide +kernel
theorem dX3_rowsToOrder_194 : decode cX3_rowsToOrder 194 = .ok (.iinc 3 1, 3) := by decide +kernel
theorem dX3_rowsToOrder_197 : decode cX3_rowsToOrder 197 = .ok (.goto (-144), 3) := by decide +kernel
theorem dX3_rowsToOrder_200 : decode cX3_rowsToOrder 200 = .ok (.iload_n 2, 1) := by decide +kernel
theorem dX3_rowsToOrder_201 : decode cX3_rowsToOrder 201 = .ok (.ireturn, 1) := by decide +kernel
set_option maxRecDepth 20000 in
theorem ggX3_worstTowers_X3_measure : GoodIn wsX3_worstTowers wsX3_measure := goodIn_r _ [7, 8, 9, 10, 11, 2, 1, 12, 13, 14, 15, 16, 17, 18, 19, 20, 21, 6, 22, 23, 24, 25, 26, 27, 28, 29, 30, 31, 32, 33, 34, 35, 36, 37, 38, 39, 40, 41, 42, 43, 44, 48, 49, 50, 51, 52, 53, 54, 55, 56, 57, 58, 59, 60, 61, 62, 63, 64, 65, 66, 67] (by decide +kernel) (by decide +kernel)
set_option maxRecDepth 20000 in
theorem gX3_worstTowers_X3_measure : GoodIn wsX3_worstTowers (wsV RX3 113 RX3 yX3_measure wsX3_measure) := goodIn_app (goodIn_of _ (by decide +kernel)) ggX3_worstTowers_X3_measure
set_option maxRecDepth 20000 in
theorem ggX3_worstTowers_X9_bit : GoodIn wsX3_worstTowers wsX9_bit := goodIn_r _ [47] (by decide +kernel) (by decide +kernel)
set_option maxRecDepth 20000 in
theorem gX3_worstTowers_X9_bit_n133 : GoodIn wsX3_worstTowers (wsX9_bit) := ggX3_worstTowers_X9_bit
theorem dX3_worstTowers_0 : decode cX3_worstTowers 0 = .ok (.aload_n 0, 1) := by decide +kernel
theorem dX3_worstTowers_1 : decode cX3_worstTowers 1 = .ok (.invokevirtual 113, 3) := by decide +kernel
theorem dX3_worstTowers_4 : decode cX3_worstTowers 4 = .ok (.iconst 0, 1) := by decide +kernel
theorem dX3_worstTowers_5 : decode cX3_worstTowers 5 = .ok (.istore_n 2, 1) := by decide +kernel
theorem dX3_worstTowers_6 : decode cX3_worstTowers 6 = .ok (.iconst 0, 1) := by decide +kernel
theorem dX3_worstTowers_7 : decode cX3_worstTowers 7 = .ok (.istore_n 3, 1) := by decide +kernel
theorem dX3_worstTowers_8 : decode cX3_worstTowers 8 = .ok (.iconst 0, 1) := by decide +kernel
theorem dX3_worstTowers_9 : decode cX3_worstTowers 9 = .ok (.istore 4, 2) := by decide +kernel
theorem dX3_worstTowers_11 : decode cX3_worstTowers 11 = .ok (.iconst 0, 1) := by decide +kernel
theorem dX3_worstTowers_12 : decode cX3_worstTowers 12 = .ok (.istore 5, 2) := by decide +kernel
theorem dX3_worstTowers_14 : decode cX3_worstTowers 14 = .ok (.iload 5, 2) := by decide +kernel
theorem dX3_worstTowers_16 : decode cX3_worstTowers 16 = .ok (.aload_n 0, 1) := by decide +kernel
theorem dX3_worstTowers_17 : decode cX3_worstTowers 17 = .ok (.getfield 55, 3) := by decide +kernel
theorem dX3_worstTowers_20 : decode cX3_worstTowers 20 = .ok (.if_icmp .ge 65, 3) := by decide +kernel
theorem dX3_worstTowers_23 : decode cX3_worstTowers 23 = .ok (.aload_n 0, 1) := by decide +kernel
theorem dX3_worstTowers_24 : decode cX3_worstTowers 24 = .ok (.getfield 39, 3) := by decide +kernel
theorem dX3_worstTowers_27 : decode cX3_worstTowers 27 = .ok (.iload 5, 2) := by decide +kernel
theorem dX3_worstTowers_29 : decode cX3_worstTowers 29 = .ok (.iaload, 1) := by decide +kernel
theorem dX3_worstTowers_30 : decode cX3_worstTowers 30 = .ok (.istore 6, 2) := by decide +kernel
theorem dX3_worstTowers_32 : decode cX3_worstTowers 32 = .ok (.iload 6, 2) := by decide +kernel
theorem dX3_worstTowers_34 : decode cX3_worstTowers 34 = .ok (.iload_n 2, 1) := by decide +kernel
theorem dX3_worstTowers_35 : decode cX3_worstTowers 35 = .ok (.if_icmp .le 8, 3) := by decide +kernel
theorem dX3_worstTowers_43 : decode cX3_worstTowers 43 = .ok (.iload_n 3, 1) := by decide +kernel
theorem dX3_worstTowers_44 : decode cX3_worstTowers 44 = .ok (.iload 6, 2) := by decide +kernel
theorem dX3_worstTowers_46 : decode cX3_worstTowers 46 = .ok (.iload_n 2, 1) := by decide +kernel
theorem dX3_worstTowers_47 : decode cX3_worstTowers 47 = .ok (.if_icmp .ne 7, 3) := by decide +kernel
theorem dX3_worstTowers_50 : decode cX3_worstTowers 50 = .ok (.iconst 1, 1) := by decide +kernel
theorem dX3_worstTowers_51 : decode cX3_worstTowers 51 = .ok (.goto 4, 3) := by decide +kernel
theorem dX3_worstTowers_55 : decode cX3_worstTowers 55 = .ok (.invokestatic 133, 3) := by decide +kernel
theorem dX3_worstTowers_58 : decode cX3_worstTowers 58 = .ok (.iadd, 1) := by decide +kernel
theorem dX3_worstTowers_59 : decode cX3_worstTowers 59 = .ok (.istore_n 3, 1) := by decide +kernel
theorem dX3_worstTowers_60 : decode cX3_worstTowers 60 = .ok (.iload 4, 2) := by decide +kernel
theorem dX3_worstTowers_62 : decode cX3_worstTowers 62 = .ok (.iload 6, 2) := by decide +kernel
theorem dX3_worstTowers_64 : decode cX3_worstTowers 64 = .ok (.iconst (-1), 1) := by decide +kernel
theorem dX3_worstTowers_65 : decode cX3_worstTowers 65 = .ok (.if_icmp .eq 7, 3) := by decide +kernel
theorem dX3_worstTowers_68 : decode cX3_worstTowers 68 = .ok (.iconst 1, 1) := by decide +kernel
theorem dX3_worstTowers_69 : decode cX3_worstTowers 69 = .ok (.goto 4, 3) := by decide +kernel
theorem dX3_worstTowers_73 : decode cX3_worstTowers 73 = .ok (.invokestatic 133, 3) := by decide +kernel
theorem dX3_worstTowers_76 : decode cX3_worstTowers 76 = .ok (.iadd, 1) := by decide +kernel
theorem dX3_worstTowers_77 : decode cX3_worstTowers 77 = .ok (.istore 4, 2) := by decide +kernel
theorem dX3_worstTowers_79 : decode cX3_worstTowers 79 = .ok (.iinc 5 1, 3) := by decide +kernel
theorem dX3_worstTowers_82 : decode cX3_worstTowers 82 = .ok (.goto (-68), 3) := by decide +kernel
theorem dX3_worstTowers_85 : decode cX3_worstTowers 85 = .ok (.iload_n 1, 1) := by decide +kernel
theorem dX3_worstTowers_86 : decode cX3_worstTowers 86 = .ok (.ifCond .ne 5, 3) := by decide +kernel
theorem dX3_worstTowers_89 : decode cX3_worstTowers 89 = .ok (.iload_n 2, 1) := by decide +kernel
theorem dX3_worstTowers_90 : decode cX3_worstTowers 90 = .ok (.ireturn, 1) := by decide +kernel
theorem dX3_worstTowers_91 : decode cX3_worstTowers 91 = .ok (.iload_n 1, 1) := by decide +kernel
theorem dX3_worstTowers_92 : decode cX3_worstTowers 92 = .ok (.iconst 1, 1) := by decide +kernel
theorem dX3_worstTowers_93 : decode cX3_worstTowers 93 = .ok (.if_icmp .ne 7, 3) := by decide +kernel
theorem dX3_worstTowers_96 : decode cX3_worstTowers 96 = .ok (.iload_n 3, 1) := by decide +kernel
theorem dX3_worstTowers_97 : decode cX3_worstTowers 97 = .ok (.goto 5, 3) := by decide +kernel
theorem dX3_worstTowers_100 : decode cX3_worstTowers 100 = .ok (.iload 4, 2) := by decide +kernel
theorem dX3_worstTowers_102 : decode cX3_worstTowers 102 = .ok (.ireturn, 1) := by decide +kernel
set_option maxRecDepth 20000 in
theorem ggX3_towersReached_X3_nearest : GoodIn wsX3_towersReached wsX3_nearest := goodIn_r _ [6, 7, 8, 9, 1, 10, 11, 12, 13, 14, 15, 16, 17, 18, 19, 5, 20, 21, 22, 23, 24, 25, 26, 27, 28, 29, 30, 31, 32, 33, 34, 35, 36, 37, 38, 39, 40, 41, 42, 43, 44, 45, 46, 47, 48, 49, 50, 51, 52, 53, 54] (by decide +kernel) (by decide +kernel)
set_option maxRecDepth 20000 in
theorem gX3_towersReached_X3_nearest : GoodIn wsX3_towersReached (wsV RX3 137 RX3 yX3_nearest wsX3_nearest) := goodIn_app (goodIn_of _ (by decide +kernel)) ggX3_towersReached_X3_nearest
theorem dX3_towersReached_0 : decode cX3_towersReached 0 = .ok (.aload_n 0, 1) := by decide +kernel
theorem dX3_towersReached_1 : decode cX3_towersReached 1 = .ok (.iconst 0, 1) := by decide +kernel
theorem dX3_towersReached_2 : decode cX3_towersReached 2 = .ok (.iconst 0, 1) := by decide +kernel
theorem dX3_towersReached_3 : decode cX3_towersReached 3 = .ok (.invokevirtual 137, 3) := by decide +kernel
theorem dX3_towersReached_6 : decode cX3_towersReached 6 = .ok (.pop, 1) := by decide +kernel
theorem dX3_towersReached_7 : decode cX3_towersReached 7 = .ok (.aload_n 0, 1) := by decide +kernel
theorem dX3_towersReached_8 : decode cX3_towersReached 8 = .ok (.getfield 70, 3) := by decide +kernel
theorem dX3_towersReached_11 : decode cX3_towersReached 11 = .ok (.ireturn, 1) := by decide +kernel
set_option maxRecDepth 20000 in
theorem ggX3_leastPaid_X3_askCases : GoodIn wsX3_leastPaid wsX3_askCases := goodIn_r _ [10, 11, 12, 13, 14, 15, 16, 17, 18, 19, 20, 21, 22, 23, 24, 25, 26, 27, 28, 29, 30, 31, 32, 33, 34, 35, 36, 37, 38, 39, 40, 41, 42, 43, 44, 45, 46, 47, 48, 49, 50, 51, 52, 53, 54, 55, 56, 57, 58, 59, 60, 61, 62, 63, 64, 9, 65, 96, 97, 98, 99, 100, 101, 102, 103, 104, 105, 106, 107, 108, 109, 110, 111, 112, 113, 114, 115, 116, 117, 118, 119, 120, 121, 122, 123, 124, 125, 126, 127, 128] (by decide +kernel) (by decide +kernel)
set_option maxRecDepth 20000 in
theorem gX3_leastPaid_X3_askCases : GoodIn wsX3_leastPaid (wsV RX3 109 RX3 yX3_askCases wsX3_askCases) := goodIn_app (goodIn_of _ (by decide +kernel)) ggX3_leastPaid_X3_askCases
set_option maxRecDepth 20000 in
theorem ggX3_leastPaid_J7_fill_53178 : GoodIn wsX3_leastPaid wsJ7_fill_53178 := goodIn_r _ [18] (by decide +kernel) (by decide +kernel)
set_option maxRecDepth 20000 in
theorem gX3_leastPaid_J7_fill_53178 : GoodIn wsX3_leastPaid (va_wsS RX3 122 yJ7_fill_53178 wsJ7_fill_53178) := goodIn_app (goodIn_of _ (by decide +kernel)) ggX3_leastPaid_J7_fill_53178
set_option maxRecDepth 20000 in
theorem ggX3_leastPaid_X3_putInBucket : GoodIn wsX3_leastPaid wsX3_putInBucket := goodIn_r _ [69, 1, 70, 3, 71, 96, 97, 98, 99, 100, 101, 102, 103, 104, 105, 106, 107, 108, 109, 110, 111, 112, 113, 114, 115] (by decide +kernel) (by decide +kernel)
set_option maxRecDepth 20000 in
theorem gX3_leastPaid_X3_putInBucket : GoodIn wsX3_leastPaid (wsV RX3 141 RX3 yX3_putInBucket wsX3_putInBucket) := goodIn_app (goodIn_of _ (by decide +kernel)) ggX3_leastPaid_X3_putInBucket
set_option maxRecDepth 20000 in
theorem ggX3_leastPaid_X3_takeFromBucket : GoodIn wsX3_leastPaid wsX3_takeFromBucket := goodIn_r _ [75, 71, 3, 1, 70, 96, 97, 98, 99, 100, 101, 102, 103, 104, 105, 106, 107, 108, 109, 110, 111, 112, 113, 114, 115] (by decide +kernel) (by decide +kernel)
set_option maxRecDepth 20000 in
theorem gX3_leastPaid_X3_takeFromBucket : GoodIn wsX3_leastPaid (wsV RX3 145 RX3 yX3_takeFromBucket wsX3_takeFromBucket) := goodIn_app (goodIn_of _ (by decide +kernel)) ggX3_leastPaid_X3_takeFromBucket
set_option maxRecDepth 20000 in
theorem ggX3_leastPaid_X3_isOrdered : GoodIn wsX3_leastPaid wsX3_isOrdered := goodIn_r _ [79, 80, 13, 96, 97, 98, 99, 100, 101, 102, 103, 104, 105, 106, 107, 108, 109, 110, 111, 112, 113, 114, 115] (by decide +kernel) (by decide +kernel)
set_option maxRecDepth 20000 in
theorem gX3_leastPaid_X3_isOrdered : GoodIn wsX3_leastPaid (wsV RX3 148 RX3 yX3_isOrdered wsX3_isOrdered) := goodIn_app (goodIn_of _ (by decide +kernel)) ggX3_leastPaid_X3_isOrdered
theorem dX3_leastPaid_0 : decode cX3_leastPaid 0 = .ok (.aload_n 0, 1) := by decide +kernel
theorem dX3_leastPaid_1 : decode cX3_leastPaid 1 = .ok (.aload_n 1, 1) := by decide +kernel
theorem dX3_leastPaid_2 : decode cX3_leastPaid 2 = .ok (.iload_n 2, 1) := by decide +kernel
theorem dX3_leastPaid_3 : decode cX3_leastPaid 3 = .ok (.iconst 0, 1) := by decide +kernel
theorem dX3_leastPaid_4 : decode cX3_leastPaid 4 = .ok (.invokevirtual 109, 3) := by decide +kernel
theorem dX3_leastPaid_7 : decode cX3_leastPaid 7 = .ok (.aload_n 0, 1) := by decide +kernel
theorem dX3_leastPaid_8 : decode cX3_leastPaid 8 = .ok (.getfield 42, 3) := by decide +kernel
theorem dX3_leastPaid_11 : decode cX3_leastPaid 11 = .ok (.ldc 140, 2) := by decide +kernel
theorem dX3_leastPaid_13 : decode cX3_leastPaid 13 = .ok (.invokestatic 122, 3) := by decide +kernel
theorem dX3_leastPaid_16 : decode cX3_leastPaid 16 = .ok (.aload_n 0, 1) := by decide +kernel
theorem dX3_leastPaid_17 : decode cX3_leastPaid 17 = .ok (.getfield 27, 3) := by decide +kernel
theorem dX3_leastPaid_20 : decode cX3_leastPaid 20 = .ok (.iconst (-1), 1) := by decide +kernel
theorem dX3_leastPaid_21 : decode cX3_leastPaid 21 = .ok (.invokestatic 122, 3) := by decide +kernel
theorem dX3_leastPaid_24 : decode cX3_leastPaid 24 = .ok (.aload_n 0, 1) := by decide +kernel
theorem dX3_leastPaid_25 : decode cX3_leastPaid 25 = .ok (.getfield 42, 3) := by decide +kernel
theorem dX3_leastPaid_28 : decode cX3_leastPaid 28 = .ok (.aload_n 0, 1) := by decide +kernel
theorem dX3_leastPaid_29 : decode cX3_leastPaid 29 = .ok (.getfield 58, 3) := by decide +kernel
theorem dX3_leastPaid_32 : decode cX3_leastPaid 32 = .ok (.iconst 0, 1) := by decide +kernel
theorem dX3_leastPaid_33 : decode cX3_leastPaid 33 = .ok (.iastore, 1) := by decide +kernel
theorem dX3_leastPaid_34 : decode cX3_leastPaid 34 = .ok (.aload_n 0, 1) := by decide +kernel
theorem dX3_leastPaid_35 : decode cX3_leastPaid 35 = .ok (.aload_n 0, 1) := by decide +kernel
theorem dX3_leastPaid_36 : decode cX3_leastPaid 36 = .ok (.getfield 58, 3) := by decide +kernel
theorem dX3_leastPaid_39 : decode cX3_leastPaid 39 = .ok (.invokevirtual 141, 3) := by decide +kernel
theorem dX3_leastPaid_42 : decode cX3_leastPaid 42 = .ok (.iconst 1, 1) := by decide +kernel
theorem dX3_leastPaid_43 : decode cX3_leastPaid 43 = .ok (.istore_n 3, 1) := by decide +kernel
theorem dX3_leastPaid_44 : decode cX3_leastPaid 44 = .ok (.iconst 0, 1) := by decide +kernel
theorem dX3_leastPaid_45 : decode cX3_leastPaid 45 = .ok (.istore 4, 2) := by decide +kernel
theorem dX3_leastPaid_47 : decode cX3_leastPaid 47 = .ok (.iload 4, 2) := by decide +kernel
theorem dX3_leastPaid_49 : decode cX3_leastPaid 49 = .ok (.bipush 99, 2) := by decide +kernel
theorem dX3_leastPaid_51 : decode cX3_leastPaid 51 = .ok (.aload_n 0, 1) := by decide +kernel
theorem dX3_leastPaid_52 : decode cX3_leastPaid 52 = .ok (.getfield 55, 3) := by decide +kernel
theorem dX3_leastPaid_55 : decode cX3_leastPaid 55 = .ok (.imul, 1) := by decide +kernel
theorem dX3_leastPaid_56 : decode cX3_leastPaid 56 = .ok (.if_icmp .gt 87, 3) := by decide +kernel
theorem dX3_leastPaid_59 : decode cX3_leastPaid 59 = .ok (.iload_n 3, 1) := by decide +kernel
theorem dX3_leastPaid_60 : decode cX3_leastPaid 60 = .ok (.ifCond .le 83, 3) := by decide +kernel
theorem dX3_leastPaid_63 : decode cX3_leastPaid 63 = .ok (.iload 4, 2) := by decide +kernel
theorem dX3_leastPaid_65 : decode cX3_leastPaid 65 = .ok (.bipush 100, 2) := by decide +kernel
theorem dX3_leastPaid_67 : decode cX3_leastPaid 67 = .ok (.irem, 1) := by decide +kernel
theorem dX3_leastPaid_68 : decode cX3_leastPaid 68 = .ok (.istore 5, 2) := by decide +kernel
theorem dX3_leastPaid_70 : decode cX3_leastPaid 70 = .ok (.iconst 0, 1) := by decide +kernel
theorem dX3_leastPaid_71 : decode cX3_leastPaid 71 = .ok (.istore 6, 2) := by decide +kernel
theorem dX3_leastPaid_73 : decode cX3_leastPaid 73 = .ok (.iload 6, 2) := by decide +kernel
theorem dX3_leastPaid_75 : decode cX3_leastPaid 75 = .ok (.aload_n 0, 1) := by decide +kernel
theorem dX3_leastPaid_76 : decode cX3_leastPaid 76 = .ok (.getfield 55, 3) := by decide +kernel
theorem dX3_leastPaid_79 : decode cX3_leastPaid 79 = .ok (.if_icmp .ge 58, 3) := by decide +kernel
theorem dX3_leastPaid_82 : decode cX3_leastPaid 82 = .ok (.aload_n 0, 1) := by decide +kernel
theorem dX3_leastPaid_83 : decode cX3_leastPaid 83 = .ok (.getfield 27, 3) := by decide +kernel
theorem dX3_leastPaid_86 : decode cX3_leastPaid 86 = .ok (.iload 5, 2) := by decide +kernel
theorem dX3_leastPaid_88 : decode cX3_leastPaid 88 = .ok (.iaload, 1) := by decide +kernel
theorem dX3_leastPaid_89 : decode cX3_leastPaid 89 = .ok (.iconst (-1), 1) := by decide +kernel
theorem dX3_leastPaid_90 : decode cX3_leastPaid 90 = .ok (.if_icmp .eq 47, 3) := by decide +kernel
theorem dX3_leastPaid_93 : decode cX3_leastPaid 93 = .ok (.aload_n 0, 1) := by decide +kernel
theorem dX3_leastPaid_94 : decode cX3_leastPaid 94 = .ok (.getfield 27, 3) := by decide +kernel
theorem dX3_leastPaid_97 : decode cX3_leastPaid 97 = .ok (.iload 5, 2) := by decide +kernel
theorem dX3_leastPaid_99 : decode cX3_leastPaid 99 = .ok (.iaload, 1) := by decide +kernel
theorem dX3_leastPaid_100 : decode cX3_leastPaid 100 = .ok (.istore 7, 2) := by decide +kernel
theorem dX3_leastPaid_102 : decode cX3_leastPaid 102 = .ok (.aload_n 0, 1) := by decide +kernel
theorem dX3_leastPaid_103 : decode cX3_leastPaid 103 = .ok (.iload 7, 2) := by decide +kernel
theorem dX3_leastPaid_105 : decode cX3_leastPaid 105 = .ok (.invokevirtual 145, 3) := by decide +kernel
theorem dX3_leastPaid_108 : decode cX3_leastPaid 108 = .ok (.aload_n 0, 1) := by decide +kernel
theorem dX3_leastPaid_109 : decode cX3_leastPaid 109 = .ok (.iload 7, 2) := by decide +kernel
theorem dX3_leastPaid_111 : decode cX3_leastPaid 111 = .ok (.invokevirtual 148, 3) := by decide +kernel
theorem dX3_leastPaid_114 : decode cX3_leastPaid 114 = .ok (.ifCond .eq 6, 3) := by decide +kernel
theorem dX3_leastPaid_117 : decode cX3_leastPaid 117 = .ok (.iload 4, 2) := by decide +kernel
theorem dX3_leastPaid_119 : decode cX3_leastPaid 119 = .ok (.ireturn, 1) := by decide +kernel
theorem dX3_putInBucket_0 : decode cX3_putInBucket 0 = .ok (.aload_n 0, 1) := by decide +kernel
theorem dX3_putInBucket_1 : decode cX3_putInBucket 1 = .ok (.getfield 42, 3) := by decide +kernel
theorem dX3_putInBucket_4 : decode cX3_putInBucket 4 = .ok (.iload_n 1, 1) := by decide +kernel
theorem dX3_putInBucket_5 : decode cX3_putInBucket 5 = .ok (.iaload, 1) := by decide +kernel
theorem dX3_putInBucket_6 : decode cX3_putInBucket 6 = .ok (.bipush 100, 2) := by decide +kernel
theorem dX3_putInBucket_8 : decode cX3_putInBucket 8 = .ok (.irem, 1) := by decide +kernel
theorem dX3_putInBucket_9 : decode cX3_putInBucket 9 = .ok (.istore_n 2, 1) := by decide +kernel
theorem dX3_putInBucket_10 : decode cX3_putInBucket 10 = .ok (.aload_n 0, 1) := by decide +kernel
theorem dX3_putInBucket_11 : decode cX3_putInBucket 11 = .ok (.getfield 45, 3) := by decide +kernel
theorem dX3_putInBucket_14 : decode cX3_putInBucket 14 = .ok (.iload_n 1, 1) := by decide +kernel
theorem dX3_putInBucket_15 : decode cX3_putInBucket 15 = .ok (.aload_n 0, 1) := by decide +kernel
theorem dX3_putInBucket_16 : decode cX3_putInBucket 16 = .ok (.getfield 27, 3) := by decide +kernel
theorem dX3_putInBucket_19 : decode cX3_putInBucket 19 = .ok (.iload_n 2, 1) := by decide +kernel
theorem dX3_putInBucket_20 : decode cX3_putInBucket 20 = .ok (.iaload, 1) := by decide +kernel
theorem dX3_putInBucket_21 : decode cX3_putInBucket 21 = .ok (.iastore, 1) := by decide +kernel
theorem dX3_putInBucket_22 : decode cX3_putInBucket 22 = .ok (.aload_n 0, 1) := by decide +kernel
theorem dX3_putInBucket_23 : decode cX3_putInBucket 23 = .ok (.getfield 48, 3) := by decide +kernel
theorem dX3_putInBucket_26 : decode cX3_putInBucket 26 = .ok (.iload_n 1, 1) := by decide +kernel
theorem dX3_putInBucket_27 : decode cX3_putInBucket 27 = .ok (.iconst (-1), 1) := by decide +kernel
theorem dX3_putInBucket_28 : decode cX3_putInBucket 28 = .ok (.iastore, 1) := by decide +kernel
theorem dX3_putInBucket_29 : decode cX3_putInBucket 29 = .ok (.aload_n 0, 1) := by decide +kernel
theorem dX3_putInBucket_30 : decode cX3_putInBucket 30 = .ok (.getfield 45, 3) := by decide +kernel
theorem dX3_putInBucket_33 : decode cX3_putInBucket 33 = .ok (.iload_n 1, 1) := by decide +kernel
theorem dX3_putInBucket_34 : decode cX3_putInBucket 34 = .ok (.iaload, 1) := by decide +kernel
theorem dX3_putInBucket_35 : decode cX3_putInBucket 35 = .ok (.iconst (-1), 1) := by decide +kernel
theorem dX3_putInBucket_36 : decode cX3_putInBucket 36 = .ok (.if_icmp .eq 15, 3) := by decide +kernel
theorem dX3_putInBucket_51 : decode cX3_putInBucket 51 = .ok (.aload_n 0, 1) := by decide +kernel
theorem dX3_putInBucket_52 : decode cX3_putInBucket 52 = .ok (.getfield 27, 3) := by decide +kernel
theorem dX3_putInBucket_55 : decode cX3_putInBucket 55 = .ok (.iload_n 2, 1) := by decide +kernel
theorem dX3_putInBucket_56 : decode cX3_putInBucket 56 = .ok (.iload_n 1, 1) := by decide +kernel
theorem dX3_putInBucket_57 : decode cX3_putInBucket 57 = .ok (.iastore, 1) := by decide +kernel
theorem dX3_putInBucket_58 : decode cX3_putInBucket 58 = .ok (.return_, 1) := by decide +kernel
theorem dX3_takeFromBucket_0 : decode cX3_takeFromBucket 0 = .ok (.aload_n 0, 1) := by decide +kernel
theorem dX3_takeFromBucket_1 : decode cX3_takeFromBucket 1 = .ok (.getfield 48, 3) := by decide +kernel
theorem dX3_takeFromBucket_4 : decode cX3_takeFromBucket 4 = .ok (.iload_n 1, 1) := by decide +kernel
theorem dX3_takeFromBucket_5 : decode cX3_takeFromBucket 5 = .ok (.iaload, 1) := by decide +kernel
theorem dX3_takeFromBucket_6 : decode cX3_takeFromBucket 6 = .ok (.iconst (-1), 1) := by decide +kernel
theorem dX3_takeFromBucket_7 : decode cX3_takeFromBucket 7 = .ok (.if_icmp .ne 26, 3) := by decide +kernel
theorem dX3_takeFromBucket_10 : decode cX3_takeFromBucket 10 = .ok (.aload_n 0, 1) := by decide +kernel
theorem dX3_takeFromBucket_11 : decode cX3_takeFromBucket 11 = .ok (.getfield 27, 3) := by decide +kernel
theorem dX3_takeFromBucket_14 : decode cX3_takeFromBucket 14 = .ok (.aload_n 0, 1) := by decide +kernel
theorem dX3_takeFromBucket_15 : decode cX3_takeFromBucket 15 = .ok (.getfield 42, 3) := by decide +kernel
theorem dX3_takeFromBucket_18 : decode cX3_takeFromBucket 18 = .ok (.iload_n 1, 1) := by decide +kernel
theorem dX3_takeFromBucket_19 : decode cX3_takeFromBucket 19 = .ok (.iaload, 1) := by decide +kernel
theorem dX3_takeFromBucket_20 : decode cX3_takeFromBucket 20 = .ok (.bipush 100, 2) := by decide +kernel
theorem dX3_takeFromBucket_22 : decode cX3_takeFromBucket 22 = .ok (.irem, 1) := by decide +kernel
theorem dX3_takeFromBucket_23 : decode cX3_takeFromBucket 23 = .ok (.aload_n 0, 1) := by decide +kernel
theorem dX3_takeFromBucket_24 : decode cX3_takeFromBucket 24 = .ok (.getfield 45, 3) := by decide +kernel
theorem dX3_takeFromBucket_27 : decode cX3_takeFromBucket 27 = .ok (.iload_n 1, 1) := by decide +kernel
theorem dX3_takeFromBucket_28 : decode cX3_takeFromBucket 28 = .ok (.iaload, 1) := by decide +kernel
theorem dX3_takeFromBucket_29 : decode cX3_takeFromBucket 29 = .ok (.iastore, 1) := by decide +kernel
theorem dX3_takeFromBucket_30 : decode cX3_takeFromBucket 30 = .ok (.goto 20, 3) := by decide +kernel
theorem dX3_takeFromBucket_50 : decode cX3_takeFromBucket 50 = .ok (.aload_n 0, 1) := by decide +kernel
theorem dX3_takeFromBucket_51 : decode cX3_takeFromBucket 51 = .ok (.getfield 45, 3) := by decide +kernel
theorem dX3_takeFromBucket_54 : decode cX3_takeFromBucket 54 = .ok (.iload_n 1, 1) := by decide +kernel
theorem dX3_takeFromBucket_55 : decode cX3_takeFromBucket 55 = .ok (.iaload, 1) := by decide +kernel
theorem dX3_takeFromBucket_56 : decode cX3_takeFromBucket 56 = .ok (.iconst (-1), 1) := by decide +kernel
theorem dX3_takeFromBucket_57 : decode cX3_takeFromBucket 57 = .ok (.if_icmp .eq 20, 3) := by decide +kernel
theorem dX3_takeFromBucket_77 : decode cX3_takeFromBucket 77 = .ok (.return_, 1) := by decide +kernel
set_option maxRecDepth 20000 in
theorem ggX3_nearest_J7_fill_53178 : GoodIn wsX3_nearest wsJ7_fill_53178 := goodIn_r _ [11] (by decide +kernel) (by decide +kernel)
set_option maxRecDepth 20000 in
theorem gX3_nearest_J7_fill_53178 : GoodIn wsX3_nearest (va_wsS RX3 122 yJ7_fill_53178 wsJ7_fill_53178) := goodIn_app (goodIn_of _ (by decide +kernel)) ggX3_nearest_J7_fill_53178
set_option maxRecDepth 20000 in
theorem ggX3_nearest_X3_fits : GoodIn wsX3_nearest wsX3_fits := goodIn_r _ [16, 6, 17, 31, 32, 33, 34, 35, 36, 37, 38, 39, 40, 41, 42, 43, 44, 45, 46, 47, 48, 49, 50] (by decide +kernel) (by decide +kernel)
set_option maxRecDepth 20000 in
theorem gX3_nearest_X3_fits : GoodIn wsX3_nearest (wsV RX3 157 RX3 yX3_fits wsX3_fits) := goodIn_app (goodIn_of _ (by decide +kernel)) ggX3_nearest_X3_fits
theorem dX3_nearest_0 : decode cX3_nearest 0 = .ok (.aload_n 0, 1) := by decide +kernel
theorem dX3_nearest_1 : decode cX3_nearest 1 = .ok (.getfield 42, 3) := by decide +kernel
theorem dX3_nearest_4 : decode cX3_nearest 4 = .ok (.iconst (-1), 1) := by decide +kernel
theorem dX3_nearest_5 : decode cX3_nearest 5 = .ok (.invokestatic 122, 3) := by decide +kernel
theorem dX3_nearest_8 : decode cX3_nearest 8 = .ok (.aload_n 0, 1) := by decide +kernel
theorem dX3_nearest_9 : decode cX3_nearest 9 = .ok (.getfield 42, 3) := by decide +kernel
theorem dX3_nearest_12 : decode cX3_nearest 12 = .ok (.aload_n 0, 1) := by decide +kernel
theorem dX3_nearest_13 : decode cX3_nearest 13 = .ok (.getfield 58, 3) := by decide +kernel
theorem dX3_nearest_16 : decode cX3_nearest 16 = .ok (.iconst 0, 1) := by decide +kernel
theorem dX3_nearest_17 : decode cX3_nearest 17 = .ok (.iastore, 1) := by decide +kernel
theorem dX3_nearest_18 : decode cX3_nearest 18 = .ok (.aload_n 0, 1) := by decide +kernel
theorem dX3_nearest_19 : decode cX3_nearest 19 = .ok (.getfield 45, 3) := by decide +kernel
theorem dX3_nearest_22 : decode cX3_nearest 22 = .ok (.iconst 0, 1) := by decide +kernel
theorem dX3_nearest_23 : decode cX3_nearest 23 = .ok (.aload_n 0, 1) := by decide +kernel
theorem dX3_nearest_24 : decode cX3_nearest 24 = .ok (.getfield 58, 3) := by decide +kernel
theorem dX3_nearest_27 : decode cX3_nearest 27 = .ok (.iastore, 1) := by decide +kernel
theorem dX3_nearest_28 : decode cX3_nearest 28 = .ok (.aload_n 0, 1) := by decide +kernel
theorem dX3_nearest_29 : decode cX3_nearest 29 = .ok (.iconst 1, 1) := by decide +kernel
theorem dX3_nearest_30 : decode cX3_nearest 30 = .ok (.putfield 70, 3) := by decide +kernel
theorem dX3_nearest_33 : decode cX3_nearest 33 = .ok (.iconst 0, 1) := by decide +kernel
theorem dX3_nearest_34 : decode cX3_nearest 34 = .ok (.istore_n 3, 1) := by decide +kernel
theorem dX3_nearest_35 : decode cX3_nearest 35 = .ok (.iload_n 3, 1) := by decide +kernel
theorem dX3_nearest_36 : decode cX3_nearest 36 = .ok (.aload_n 0, 1) := by decide +kernel
theorem dX3_nearest_37 : decode cX3_nearest 37 = .ok (.getfield 55, 3) := by decide +kernel
theorem dX3_nearest_40 : decode cX3_nearest 40 = .ok (.if_icmp .ge 147, 3) := by decide +kernel
theorem dX3_nearest_43 : decode cX3_nearest 43 = .ok (.iload_n 3, 1) := by decide +kernel
theorem dX3_nearest_44 : decode cX3_nearest 44 = .ok (.aload_n 0, 1) := by decide +kernel
theorem dX3_nearest_45 : decode cX3_nearest 45 = .ok (.getfield 70, 3) := by decide +kernel
theorem dX3_nearest_48 : decode cX3_nearest 48 = .ok (.if_icmp .ge 139, 3) := by decide +kernel
theorem dX3_nearest_51 : decode cX3_nearest 51 = .ok (.aload_n 0, 1) := by decide +kernel
theorem dX3_nearest_52 : decode cX3_nearest 52 = .ok (.getfield 45, 3) := by decide +kernel
theorem dX3_nearest_55 : decode cX3_nearest 55 = .ok (.iload_n 3, 1) := by decide +kernel
theorem dX3_nearest_56 : decode cX3_nearest 56 = .ok (.iaload, 1) := by decide +kernel
theorem dX3_nearest_57 : decode cX3_nearest 57 = .ok (.istore 4, 2) := by decide +kernel
theorem dX3_nearest_59 : decode cX3_nearest 59 = .ok (.aload_n 0, 1) := by decide +kernel
theorem dX3_nearest_60 : decode cX3_nearest 60 = .ok (.iload 4, 2) := by decide +kernel
theorem dX3_nearest_62 : decode cX3_nearest 62 = .ok (.iload_n 1, 1) := by decide +kernel
theorem dX3_nearest_63 : decode cX3_nearest 63 = .ok (.iload_n 2, 1) := by decide +kernel
theorem dX3_nearest_64 : decode cX3_nearest 64 = .ok (.invokevirtual 157, 3) := by decide +kernel
theorem dX3_nearest_67 : decode cX3_nearest 67 = .ok (.ifCond .eq 11, 3) := by decide +kernel
theorem dX3_nearest_78 : decode cX3_nearest 78 = .ok (.iconst 1, 1) := by decide +kernel
theorem dX3_nearest_79 : decode cX3_nearest 79 = .ok (.istore 5, 2) := by decide +kernel
theorem dX3_nearest_81 : decode cX3_nearest 81 = .ok (.iload 5, 2) := by decide +kernel
theorem dX3_nearest_83 : decode cX3_nearest 83 = .ok (.aload_n 0, 1) := by decide +kernel
theorem dX3_nearest_84 : decode cX3_nearest 84 = .ok (.getfield 51, 3) := by decide +kernel
theorem dX3_nearest_87 : decode cX3_nearest 87 = .ok (.if_icmp .gt 94, 3) := by decide +kernel
theorem dX3_nearest_181 : decode cX3_nearest 181 = .ok (.iinc 3 1, 3) := by decide +kernel
theorem dX3_nearest_184 : decode cX3_nearest 184 = .ok (.goto (-149), 3) := by decide +kernel
theorem dX3_nearest_187 : decode cX3_nearest 187 = .ok (.iconst (-1), 1) := by decide +kernel
theorem dX3_nearest_188 : decode cX3_nearest 188 = .ok (.ireturn, 1) := by decide +kernel
theorem dX3_fits_0 : decode cX3_fits 0 = .ok (.iload_n 1, 1) := by decide +kernel
theorem dX3_fits_1 : decode cX3_fits 1 = .ok (.aload_n 0, 1) := by decide +kernel
theorem dX3_fits_2 : decode cX3_fits 2 = .ok (.getfield 51, 3) := by decide +kernel
theorem dX3_fits_5 : decode cX3_fits 5 = .ok (.ishr, 1) := by decide +kernel
theorem dX3_fits_6 : decode cX3_fits 6 = .ok (.istore 4, 2) := by decide +kernel
theorem dX3_fits_8 : decode cX3_fits 8 = .ok (.iload_n 2, 1) := by decide +kernel
theorem dX3_fits_9 : decode cX3_fits 9 = .ok (.iconst 1, 1) := by decide +kernel
theorem dX3_fits_10 : decode cX3_fits 10 = .ok (.if_icmp .ne 15, 3) := by decide +kernel
theorem dX3_fits_25 : decode cX3_fits 25 = .ok (.iload_n 2, 1) := by decide +kernel
theorem dX3_fits_26 : decode cX3_fits 26 = .ok (.iconst 2, 1) := by decide +kernel
theorem dX3_fits_27 : decode cX3_fits 27 = .ok (.if_icmp .ne 21, 3) := by decide +kernel
theorem dX3_fits_48 : decode cX3_fits 48 = .ok (.iconst 0, 1) := by decide +kernel
theorem dX3_fits_49 : decode cX3_fits 49 = .ok (.ireturn, 1) := by decide +kernel
theorem dX3_askCases_12 : decode cX3_askCases 12 = .ok (.aload_n 0, 1) := by decide +kernel
theorem dX3_askCases_13 : decode cX3_askCases 13 = .ok (.getfield 21, 3) := by decide +kernel
set_option maxRecDepth 20000 in
theorem ggX9_fewest_X9_seated : GoodIn wsX9_fewest wsX9_seated := goodIn_r _ [6, 7, 8, 9, 10, 11, 12, 13, 14, 15, 16, 17, 18, 19, 20, 21, 22, 23, 24, 25, 26, 178, 179, 180, 181, 182, 183, 184, 185, 186, 187, 188, 189, 190, 191, 192, 193, 194, 195, 196, 197, 198, 199, 200, 201, 202, 203, 204, 205, 206, 207, 208, 209] (by decide +kernel) (by decide +kernel)
set_option maxRecDepth 20000 in
theorem gX9_fewest_X9_seated : GoodIn wsX9_fewest (wsV RX9 144 RX9 yX9_seated wsX9_seated) := goodIn_app (goodIn_of _ (by decide +kernel)) ggX9_fewest_X9_seated
set_option maxRecDepth 20000 in
theorem ggX9_fewest_X9_spread : GoodIn wsX9_fewest wsX9_spread := goodIn_r _ [30, 1, 8, 31, 32, 33, 34, 35, 36, 37, 38, 39, 40, 41, 42, 43, 44, 45, 46, 47, 48, 49, 50, 51, 52, 53, 54, 55, 56, 57, 58, 59, 60, 61, 62, 63, 64, 65, 66, 67, 68, 5, 69, 70, 71, 72, 73, 74, 75, 76, 77, 78, 79, 80, 81, 82, 83, 84, 85, 86, 87, 88, 89, 90, 91, 92, 93, 94, 95, 96, 97, 98, 99, 100, 23, 101, 26, 102, 103, 104, 105, 106, 107, 108, 109, 25, 110, 111, 112, 113, 114, 115, 116, 117, 118, 119, 120, 121, 122, 123, 124, 125, 126, 127, 128, 129, 130, 131, 132, 133, 134, 135, 178, 179, 180, 181, 182, 183, 184, 185, 186, 187, 188, 189, 190, 191, 192, 193, 194, 195, 196, 197, 198, 199, 200, 201, 202, 203, 204, 205, 206, 210, 211, 212, 213, 214, 215, 216, 217, 218, 219, 220, 221, 222, 223, 224, 225, 226, 227, 228, 229, 230, 231, 232, 233, 234, 207, 208, 209, 235, 236, 237, 238, 239, 240, 241, 242, 243, 244] (by decide +kernel) (by decide +kernel)
set_option maxRecDepth 20000 in
theorem gX9_fewest_X9_spread : GoodIn wsX9_fewest (wsV RX9 226 RX9 yX9_spread wsX9_spread) := goodIn_app (goodIn_of _ (by decide +kernel)) ggX9_fewest_X9_spread
set_option maxRecDepth 20000 in
theorem ggX9_fewest_X3_turnsToOrder : GoodIn wsX9_fewest wsX3_turnsToOrder := goodIn_r _ [139, 40, 47, 140, 141, 142, 34, 143, 59, 36, 144, 37, 39, 54, 92, 145, 146, 147, 148, 149, 150, 151, 152, 153, 94, 95, 96, 97, 154, 155, 156, 157, 158, 159, 160, 161, 57, 58, 162, 163, 164, 165, 56, 133, 134, 135, 215, 216, 217, 218, 219, 220, 221, 222, 223, 224, 225, 226, 227, 228, 229, 230, 231, 232, 233, 234] (by decide +kernel) (by decide +kernel)
set_option maxRecDepth 20000 in
theorem gX9_fewest_X3_turnsToOrder : GoodIn wsX9_fewest (wsV RX9 230 RX3 yX3_turnsToOrder wsX3_turnsToOrder) := goodIn_app (goodIn_of _ (by decide +kernel)) ggX9_fewest_X3_turnsToOrder
set_option maxRecDepth 20000 in
theorem ggX9_fewest_X3_turnOfFirstRow : GoodIn wsX9_fewest wsX3_turnOfFirstRow := goodIn_r _ [169, 40, 47, 140, 141, 142, 34, 143, 59, 36, 144, 37, 39, 54, 92, 145, 146, 147, 148, 149, 150, 151, 152, 153, 94, 95, 96, 97, 154, 155, 156, 157, 158, 159, 160, 161, 57, 58, 162, 163, 164, 165, 56, 133, 134, 135, 170, 171, 172, 173, 174, 175, 176, 177, 215, 216, 217, 218, 219, 220, 221, 222, 223, 224, 225, 226, 227, 228, 229, 230, 231, 232, 233, 234] (by decide +kernel) (by decide +kernel)
set_option maxRecDepth 20000 in
theorem gX9_fewest_X3_turnOfFirstRow : GoodIn wsX9_fewest (wsV RX9 234 RX3 yX3_turnOfFirstRow wsX3_turnOfFirstRow) := goodIn_app (goodIn_of _ (by decide +kernel)) ggX9_fewest_X3_turnOfFirstRow
theorem dX9_fewest_0 : decode cX9_fewest 0 = .ok (.aload_n 0, 1) := by decide +kernel
theorem dX9_fewest_1 : decode cX9_fewest 1 = .ok (.aload_n 0, 1) := by decide +kernel
theorem dX9_fewest_2 : decode cX9_fewest 2 = .ok (.invokevirtual 144, 3) := by decide +kernel
theorem dX9_fewest_5 : decode cX9_fewest 5 = .ok (.invokevirtual 226, 3) := by decide +kernel
theorem dX9_fewest_8 : decode cX9_fewest 8 = .ok (.iload_n 1, 1) := by decide +kernel
theorem dX9_fewest_9 : decode cX9_fewest 9 = .ok (.iconst (-1), 1) := by decide +kernel
theorem dX9_fewest_10 : decode cX9_fewest 10 = .ok (.if_icmp .ne 11, 3) := by decide +kernel
theorem dX9_fewest_13 : decode cX9_fewest 13 = .ok (.aload_n 0, 1) := by decide +kernel
theorem dX9_fewest_14 : decode cX9_fewest 14 = .ok (.getfield 80, 3) := by decide +kernel
theorem dX9_fewest_17 : decode cX9_fewest 17 = .ok (.invokevirtual 230, 3) := by decide +kernel
theorem dX9_fewest_20 : decode cX9_fewest 20 = .ok (.ireturn, 1) := by decide +kernel
theorem dX9_fewest_21 : decode cX9_fewest 21 = .ok (.aload_n 0, 1) := by decide +kernel
theorem dX9_fewest_22 : decode cX9_fewest 22 = .ok (.getfield 80, 3) := by decide +kernel
theorem dX9_fewest_25 : decode cX9_fewest 25 = .ok (.iload_n 1, 1) := by decide +kernel
theorem dX9_fewest_26 : decode cX9_fewest 26 = .ok (.invokevirtual 234, 3) := by decide +kernel
theorem dX9_fewest_29 : decode cX9_fewest 29 = .ok (.ireturn, 1) := by decide +kernel
set_option maxRecDepth 20000 in
theorem ggX9_many_X9_seated : GoodIn wsX9_many wsX9_seated := goodIn_r _ [6, 7, 8, 9, 10, 11, 12, 13, 14, 15, 16, 17, 18, 19, 20, 21, 22, 23, 24, 25, 26, 171, 172, 173, 174, 175, 176, 177, 178, 179, 180, 181, 182, 183, 184, 185, 186, 187, 188, 189, 190, 191, 192, 193, 194, 195, 196, 197, 198, 199, 200, 201, 202] (by decide +kernel) (by decide +kernel)
set_option maxRecDepth 20000 in
theorem gX9_many_X9_seated : GoodIn wsX9_many (wsV RX9 144 RX9 yX9_seated wsX9_seated) := goodIn_app (goodIn_of _ (by decide +kernel)) ggX9_many_X9_seated
set_option maxRecDepth 20000 in
theorem ggX9_many_X9_spread : GoodIn wsX9_many wsX9_spread := goodIn_r _ [30, 1, 8, 31, 32, 33, 34, 35, 36, 37, 38, 39, 40, 41, 42, 43, 44, 45, 46, 47, 48, 49, 50, 51, 52, 53, 54, 55, 56, 57, 58, 59, 60, 61, 62, 63, 64, 65, 66, 67, 68, 5, 69, 70, 71, 72, 73, 74, 75, 76, 77, 78, 79, 80, 81, 82, 83, 84, 85, 86, 87, 88, 89, 90, 91, 92, 93, 94, 95, 96, 97, 98, 99, 100, 23, 101, 26, 102, 103, 104, 105, 106, 107, 108, 109, 25, 110, 111, 112, 113, 114, 115, 116, 117, 118, 119, 120, 121, 122, 123, 124, 125, 126, 127, 128, 129, 130, 131, 132, 133, 134, 135, 171, 172, 173, 174, 175, 176, 177, 178, 179, 180, 181, 182, 183, 184, 185, 186, 187, 188, 189, 190, 191, 192, 193, 194, 195, 196, 197, 198, 199, 203, 204, 205, 206, 207, 208, 209, 210, 211, 212, 213, 214, 215, 216, 217, 218, 219, 220, 221, 222, 223, 224, 225, 226, 227, 200, 201, 202, 228, 229, 230, 231, 232, 233, 234, 235, 236, 237] (by decide +kernel) (by decide +kernel)
set_option maxRecDepth 20000 in
theorem gX9_many_X9_spread : GoodIn wsX9_many (wsV RX9 226 RX9 yX9_spread wsX9_spread) := goodIn_app (goodIn_of _ (by decide +kernel)) ggX9_many_X9_spread
set_option maxRecDepth 20000 in
theorem ggX9_many_X3_rowsToOrder : GoodIn wsX9_many wsX3_rowsToOrder := goodIn_r _ [139, 40, 47, 53, 54, 39, 140, 43, 44, 45, 46, 36, 141, 142, 143, 34, 144, 59, 145, 37, 92, 146, 147, 148, 149, 150, 151, 152, 153, 154, 94, 95, 96, 97, 155, 156, 157, 158, 159, 160, 161, 162, 57, 58, 163, 164, 165, 166, 56, 133, 134, 135, 167, 168, 169, 170, 208, 209, 210, 211, 212, 213, 214, 215, 216, 217, 218, 219, 220, 221, 222, 223, 224, 225, 226, 227] (by decide +kernel) (by decide +kernel)
set_option maxRecDepth 20000 in
theorem gX9_many_X3_rowsToOrder : GoodIn wsX9_many (wsV RX9 237 RX3 yX3_rowsToOrder wsX3_rowsToOrder) := goodIn_app (goodIn_of _ (by decide +kernel)) ggX9_many_X3_rowsToOrder
theorem dX9_many_0 : decode cX9_many 0 = .ok (.aload_n 0, 1) := by decide +kernel
theorem dX9_many_1 : decode cX9_many 1 = .ok (.aload_n 0, 1) := by decide +kernel
theorem dX9_many_2 : decode cX9_many 2 = .ok (.invokevirtual 144, 3) := by decide +kernel
theorem dX9_many_5 : decode cX9_many 5 = .ok (.invokevirtual 226, 3) := by decide +kernel
theorem dX9_many_8 : decode cX9_many 8 = .ok (.aload_n 0, 1) := by decide +kernel
theorem dX9_many_9 : decode cX9_many 9 = .ok (.getfield 80, 3) := by decide +kernel
theorem dX9_many_12 : decode cX9_many 12 = .ok (.invokevirtual 237, 3) := by decide +kernel
theorem dX9_many_15 : decode cX9_many 15 = .ok (.ireturn, 1) := by decide +kernel
set_option maxRecDepth 20000 in
theorem ggX9_cheapest_X9_seated : GoodIn wsX9_cheapest wsX9_seated := goodIn_r _ [8, 2, 3, 9, 10, 11, 12, 13, 14, 15, 16, 17, 18, 19, 20, 21, 22, 23, 24, 25, 26, 166, 167, 168, 169, 170, 171, 172, 173, 174, 175, 176, 177, 178, 179, 180, 181, 182, 183, 184, 185, 186, 187, 188, 189, 190, 191, 192, 193, 194, 200, 201, 202] (by decide +kernel) (by decide +kernel)
set_option maxRecDepth 20000 in
theorem gX9_cheapest_X9_seated : GoodIn wsX9_cheapest (wsV RX9 144 RX9 yX9_seated wsX9_seated) := goodIn_app (goodIn_of _ (by decide +kernel)) ggX9_cheapest_X9_seated
set_option maxRecDepth 20000 in
theorem ggX9_cheapest_X9_spread : GoodIn wsX9_cheapest wsX9_spread := goodIn_r _ [30, 1, 3, 31, 32, 33, 34, 35, 36, 37, 38, 39, 40, 41, 42, 43, 44, 45, 46, 47, 48, 49, 50, 51, 52, 53, 54, 55, 56, 57, 58, 59, 60, 61, 62, 63, 64, 65, 66, 67, 68, 7, 69, 70, 71, 72, 73, 74, 75, 76, 77, 78, 79, 80, 81, 82, 83, 84, 85, 86, 87, 88, 89, 90, 91, 92, 93, 94, 95, 96, 97, 98, 99, 100, 23, 101, 26, 102, 103, 104, 105, 106, 107, 108, 109, 25, 110, 111, 112, 113, 114, 115, 116, 117, 118, 119, 120, 121, 122, 123, 124, 125, 126, 127, 128, 129, 130, 131, 132, 133, 134, 135, 166, 167, 168, 169, 170, 171, 172, 173, 174, 175, 176, 177, 178, 179, 180, 181, 182, 183, 184, 185, 186, 187, 188, 189, 190, 191, 192, 193, 194, 195, 196, 197, 198, 199, 203, 204, 205, 206, 207, 208, 209, 210, 211, 212, 213, 214, 215, 216, 217, 218, 219, 220, 221, 222, 200, 201, 202, 223, 224, 225, 226, 227, 228, 229, 230, 231, 232] (by decide +kernel) (by decide +kernel)
set_option maxRecDepth 20000 in
theorem gX9_cheapest_X9_spread : GoodIn wsX9_cheapest (wsV RX9 226 RX9 yX9_spread wsX9_spread) := goodIn_app (goodIn_of _ (by decide +kernel)) ggX9_cheapest_X9_spread
set_option maxRecDepth 20000 in
theorem ggX9_cheapest_X3_leastPaid : GoodIn wsX9_cheapest wsX3_leastPaid := goodIn_r _ [139, 53, 140, 141, 47, 39, 88, 89, 90, 34, 91, 92, 93, 36, 41, 94, 95, 96, 97, 98, 99, 100, 23, 101, 26, 102, 103, 104, 105, 106, 107, 108, 109, 25, 110, 111, 112, 113, 114, 115, 116, 117, 118, 44, 45, 46, 119, 120, 121, 122, 123, 124, 68, 7, 69, 125, 126, 127, 128, 129, 130, 131, 132, 133, 134, 135, 142, 143, 144, 145, 54, 55, 146, 147, 148, 149, 150, 151, 152, 153, 37, 154, 155, 156, 157, 158, 159, 160, 161, 57, 58, 162, 163, 164, 165, 56, 203, 204, 205, 206, 207, 208, 209, 210, 211, 212, 213, 214, 215, 216, 217, 218, 219, 220, 221, 222, 200, 201, 202, 223, 224, 225, 226, 227, 228, 229, 230, 231, 232] (by decide +kernel) (by decide +kernel)
set_option maxRecDepth 20000 in
theorem gX9_cheapest_X3_leastPaid : GoodIn wsX9_cheapest (wsV RX9 243 RX3 yX3_leastPaid wsX3_leastPaid) := goodIn_app (goodIn_of _ (by decide +kernel)) ggX9_cheapest_X3_leastPaid
theorem dX9_cheapest_0 : decode cX9_cheapest 0 = .ok (.aload_n 0, 1) := by decide +kernel
theorem dX9_cheapest_1 : decode cX9_cheapest 1 = .ok (.aload_n 0, 1) := by decide +kernel
theorem dX9_cheapest_2 : decode cX9_cheapest 2 = .ok (.invokevirtual 144, 3) := by decide +kernel
theorem dX9_cheapest_5 : decode cX9_cheapest 5 = .ok (.invokevirtual 226, 3) := by decide +kernel
theorem dX9_cheapest_8 : decode cX9_cheapest 8 = .ok (.aload_n 0, 1) := by decide +kernel
theorem dX9_cheapest_9 : decode cX9_cheapest 9 = .ok (.getfield 80, 3) := by decide +kernel
theorem dX9_cheapest_12 : decode cX9_cheapest 12 = .ok (.aload_n 0, 1) := by decide +kernel
theorem dX9_cheapest_13 : decode cX9_cheapest 13 = .ok (.getfield 50, 3) := by decide +kernel
theorem dX9_cheapest_16 : decode cX9_cheapest 16 = .ok (.aload_n 0, 1) := by decide +kernel
theorem dX9_cheapest_17 : decode cX9_cheapest 17 = .ok (.getfield 10, 3) := by decide +kernel
theorem dX9_cheapest_20 : decode cX9_cheapest 20 = .ok (.getfield 122, 3) := by decide +kernel
theorem dX9_cheapest_23 : decode cX9_cheapest 23 = .ok (.getfield 240, 3) := by decide +kernel
theorem dX9_cheapest_26 : decode cX9_cheapest 26 = .ok (.invokevirtual 243, 3) := by decide +kernel
theorem dX9_cheapest_29 : decode cX9_cheapest 29 = .ok (.ireturn, 1) := by decide +kernel
set_option maxRecDepth 20000 in
theorem ggX9_worst_X9_seated : GoodIn wsX9_worst wsX9_seated := goodIn_r _ [6, 7, 8, 9, 10, 11, 12, 13, 14, 15, 16, 17, 18, 19, 20, 21, 22, 23, 24, 25, 26, 166, 167, 168, 169, 170, 171, 172, 173, 174, 175, 176, 177, 178, 179, 180, 181, 182, 183, 184, 185, 186, 187, 188, 189, 190, 191, 192, 193, 194, 195, 196, 197] (by decide +kernel) (by decide +kernel)
set_option maxRecDepth 20000 in
theorem gX9_worst_X9_seated : GoodIn wsX9_worst (wsV RX9 144 RX9 yX9_seated wsX9_seated) := goodIn_app (goodIn_of _ (by decide +kernel)) ggX9_worst_X9_seated
set_option maxRecDepth 20000 in
theorem ggX9_worst_X9_spread : GoodIn wsX9_worst wsX9_spread := goodIn_r _ [30, 1, 8, 31, 32, 33, 34, 35, 36, 37, 38, 39, 40, 41, 42, 43, 44, 45, 46, 47, 48, 49, 50, 51, 52, 53, 54, 55, 56, 57, 58, 59, 60, 61, 62, 63, 64, 65, 66, 67, 68, 5, 69, 70, 71, 72, 73, 74, 75, 76, 77, 78, 79, 80, 81, 82, 83, 84, 85, 86, 87, 88, 89, 90, 91, 92, 93, 94, 95, 96, 97, 98, 99, 100, 23, 101, 26, 102, 103, 104, 105, 106, 107, 108, 109, 25, 110, 111, 112, 113, 114, 115, 116, 117, 118, 119, 120, 121, 122, 123, 124, 125, 126, 127, 128, 129, 130, 131, 132, 133, 134, 135, 166, 167, 168, 169, 170, 171, 172, 173, 174, 175, 176, 177, 178, 179, 180, 181, 182, 183, 184, 185, 186, 187, 188, 189, 190, 191, 192, 193, 194, 198, 199, 200, 201, 202, 203, 204, 205, 206, 207, 208, 209, 210, 211, 212, 213, 214, 215, 216, 217, 218, 219, 220, 221, 222, 195, 196, 197, 223, 224, 225, 226, 227, 228, 229, 230, 231, 232] (by decide +kernel) (by decide +kernel)
set_option maxRecDepth 20000 in
theorem gX9_worst_X9_spread : GoodIn wsX9_worst (wsV RX9 226 RX9 yX9_spread wsX9_spread) := goodIn_app (goodIn_of _ (by decide +kernel)) ggX9_worst_X9_spread
set_option maxRecDepth 20000 in
theorem ggX9_worst_X3_worstTowers : GoodIn wsX9_worst wsX3_worstTowers := goodIn_r _ [139, 39, 40, 140, 141, 142, 34, 143, 59, 36, 144, 37, 54, 92, 145, 146, 147, 148, 149, 150, 151, 152, 153, 94, 95, 96, 97, 154, 155, 156, 157, 158, 159, 160, 161, 57, 58, 162, 163, 164, 165, 56, 133, 134, 135, 68, 5, 69, 203, 204, 205, 206, 207, 208, 209, 210, 211, 212, 213, 214, 215, 216, 217, 218, 219, 220, 221, 222] (by decide +kernel) (by decide +kernel)
set_option maxRecDepth 20000 in
theorem gX9_worst_X3_worstTowers : GoodIn wsX9_worst (wsV RX9 247 RX3 yX3_worstTowers wsX3_worstTowers) := goodIn_app (goodIn_of _ (by decide +kernel)) ggX9_worst_X3_worstTowers
theorem dX9_worst_0 : decode cX9_worst 0 = .ok (.iload_n 1, 1) := by decide +kernel
theorem dX9_worst_1 : decode cX9_worst 1 = .ok (.ifCond .lt 8, 3) := by decide +kernel
theorem dX9_worst_4 : decode cX9_worst 4 = .ok (.iload_n 1, 1) := by decide +kernel
theorem dX9_worst_5 : decode cX9_worst 5 = .ok (.iconst 2, 1) := by decide +kernel
theorem dX9_worst_6 : decode cX9_worst 6 = .ok (.if_icmp .le 5, 3) := by decide +kernel
theorem dX9_worst_9 : decode cX9_worst 9 = .ok (.iconst (-1), 1) := by decide +kernel
theorem dX9_worst_10 : decode cX9_worst 10 = .ok (.ireturn, 1) := by decide +kernel
theorem dX9_worst_11 : decode cX9_worst 11 = .ok (.aload_n 0, 1) := by decide +kernel
theorem dX9_worst_12 : decode cX9_worst 12 = .ok (.aload_n 0, 1) := by decide +kernel
theorem dX9_worst_13 : decode cX9_worst 13 = .ok (.invokevirtual 144, 3) := by decide +kernel
theorem dX9_worst_16 : decode cX9_worst 16 = .ok (.invokevirtual 226, 3) := by decide +kernel
theorem dX9_worst_19 : decode cX9_worst 19 = .ok (.aload_n 0, 1) := by decide +kernel
theorem dX9_worst_20 : decode cX9_worst 20 = .ok (.getfield 80, 3) := by decide +kernel
theorem dX9_worst_23 : decode cX9_worst 23 = .ok (.iload_n 1, 1) := by decide +kernel
theorem dX9_worst_24 : decode cX9_worst 24 = .ok (.invokevirtual 247, 3) := by decide +kernel
theorem dX9_worst_27 : decode cX9_worst 27 = .ok (.ireturn, 1) := by decide +kernel
