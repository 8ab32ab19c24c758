set_option maxRecDepth 20000 in
theorem ggX10_setsAsked_X10_size : GoodIn wsX10_setsAsked wsX10_size := goodIn_r _ [7, 2, 8, 9, 10, 11, 12, 13, 14, 15, 16, 17, 18, 19, 20, 21, 22, 23, 24, 25, 26, 27, 28, 29, 30, 31, 32, 33, 34, 35, 36, 37, 38, 39, 40, 41, 42, 43, 44, 45, 46, 47, 48, 49, 50, 51, 52, 53, 54, 55, 56, 57, 58, 59, 60, 61, 62, 63] (by decide +kernel) (by decide +kernel)
set_option maxRecDepth 20000 in
theorem gX10_setsAsked_X10_size : GoodIn wsX10_setsAsked (wsV RX10 125 RX10 yX10_size wsX10_size) := goodIn_app (goodIn_of _ (by decide +kernel)) ggX10_setsAsked_X10_size
theorem dX10_setsAsked_0 : decode cX10_setsAsked 0 = .ok (.aload_n 0, 1) := by decide +kernel
theorem dX10_setsAsked_1 : decode cX10_setsAsked 1 = .ok (.getfield 63, 3) := by decide +kernel
theorem dX10_setsAsked_4 : decode cX10_setsAsked 4 = .ok (.iconst 3, 1) := by decide +kernel
theorem dX10_setsAsked_5 : decode cX10_setsAsked 5 = .ok (.aload_n 0, 1) := by decide +kernel
theorem dX10_setsAsked_6 : decode cX10_setsAsked 6 = .ok (.invokevirtual 125, 3) := by decide +kernel
theorem dX10_setsAsked_9 : decode cX10_setsAsked 9 = .ok (.iastore, 1) := by decide +kernel
theorem dX10_setsAsked_10 : decode cX10_setsAsked 10 = .ok (.aload_n 0, 1) := by decide +kernel
theorem dX10_setsAsked_11 : decode cX10_setsAsked 11 = .ok (.getfield 63, 3) := by decide +kernel
theorem dX10_setsAsked_14 : decode cX10_setsAsked 14 = .ok (.iconst 4, 1) := by decide +kernel
theorem dX10_setsAsked_15 : decode cX10_setsAsked 15 = .ok (.iload_n 1, 1) := by decide +kernel
theorem dX10_setsAsked_16 : decode cX10_setsAsked 16 = .ok (.iastore, 1) := by decide +kernel
theorem dX10_setsAsked_17 : decode cX10_setsAsked 17 = .ok (.aload_n 0, 1) := by decide +kernel
theorem dX10_setsAsked_18 : decode cX10_setsAsked 18 = .ok (.getfield 63, 3) := by decide +kernel
theorem dX10_setsAsked_21 : decode cX10_setsAsked 21 = .ok (.iconst 5, 1) := by decide +kernel
theorem dX10_setsAsked_22 : decode cX10_setsAsked 22 = .ok (.iload_n 2, 1) := by decide +kernel
theorem dX10_setsAsked_23 : decode cX10_setsAsked 23 = .ok (.iastore, 1) := by decide +kernel
theorem dX10_setsAsked_24 : decode cX10_setsAsked 24 = .ok (.aload_n 0, 1) := by decide +kernel
theorem dX10_setsAsked_25 : decode cX10_setsAsked 25 = .ok (.getfield 63, 3) := by decide +kernel
theorem dX10_setsAsked_28 : decode cX10_setsAsked 28 = .ok (.bipush 6, 2) := by decide +kernel
theorem dX10_setsAsked_30 : decode cX10_setsAsked 30 = .ok (.aload_n 0, 1) := by decide +kernel
theorem dX10_setsAsked_31 : decode cX10_setsAsked 31 = .ok (.getfield 28, 3) := by decide +kernel
theorem dX10_setsAsked_34 : decode cX10_setsAsked 34 = .ok (.bipush 27, 2) := by decide +kernel
theorem dX10_setsAsked_36 : decode cX10_setsAsked 36 = .ok (.iaload, 1) := by decide +kernel
theorem dX10_setsAsked_37 : decode cX10_setsAsked 37 = .ok (.iastore, 1) := by decide +kernel
theorem dX10_setsAsked_38 : decode cX10_setsAsked 38 = .ok (.aload_n 0, 1) := by decide +kernel
theorem dX10_setsAsked_39 : decode cX10_setsAsked 39 = .ok (.getfield 63, 3) := by decide +kernel
theorem dX10_setsAsked_42 : decode cX10_setsAsked 42 = .ok (.bipush 7, 2) := by decide +kernel
theorem dX10_setsAsked_44 : decode cX10_setsAsked 44 = .ok (.iload_n 3, 1) := by decide +kernel
theorem dX10_setsAsked_45 : decode cX10_setsAsked 45 = .ok (.iastore, 1) := by decide +kernel
theorem dX10_setsAsked_46 : decode cX10_setsAsked 46 = .ok (.aload_n 0, 1) := by decide +kernel
theorem dX10_setsAsked_47 : decode cX10_setsAsked 47 = .ok (.getfield 63, 3) := by decide +kernel
theorem dX10_setsAsked_50 : decode cX10_setsAsked 50 = .ok (.bipush 8, 2) := by decide +kernel
theorem dX10_setsAsked_52 : decode cX10_setsAsked 52 = .ok (.aload_n 0, 1) := by decide +kernel
theorem dX10_setsAsked_53 : decode cX10_setsAsked 53 = .ok (.getfield 28, 3) := by decide +kernel
theorem dX10_setsAsked_56 : decode cX10_setsAsked 56 = .ok (.bipush 13, 2) := by decide +kernel
theorem dX10_setsAsked_58 : decode cX10_setsAsked 58 = .ok (.iaload, 1) := by decide +kernel
theorem dX10_setsAsked_59 : decode cX10_setsAsked 59 = .ok (.iastore, 1) := by decide +kernel
theorem dX10_setsAsked_60 : decode cX10_setsAsked 60 = .ok (.return_, 1) := by decide +kernel
set_option maxRecDepth 20000 in
theorem ggX10_setsFloor_X10_setsAsked : GoodIn wsX10_setsFloor wsX10_setsAsked := goodIn_r _ [7, 1, 2, 8, 9, 10, 6, 11, 12, 13, 14, 15, 16, 17, 18, 19, 20, 21, 22, 23, 24, 25, 26, 27, 28, 29, 30, 31, 32, 33, 34, 35, 36, 37, 38, 39, 40, 41, 42, 43, 44, 45, 46, 47, 48, 49, 50, 51, 52, 53, 54, 55, 56, 57, 58, 59, 60, 61, 62, 63, 64, 65, 66, 67] (by decide +kernel) (by decide +kernel)
set_option maxRecDepth 20000 in
theorem gX10_setsFloor_X10_setsAsked : GoodIn wsX10_setsFloor (wsV RX10 335 RX10 yX10_setsAsked wsX10_setsAsked) := goodIn_app (goodIn_of _ (by decide +kernel)) ggX10_setsFloor_X10_setsAsked
theorem dX10_setsFloor_0 : decode cX10_setsFloor 0 = .ok (.aload_n 0, 1) := by decide +kernel
theorem dX10_setsFloor_1 : decode cX10_setsFloor 1 = .ok (.getfield 63, 3) := by decide +kernel
theorem dX10_setsFloor_4 : decode cX10_setsFloor 4 = .ok (.iconst 0, 1) := by decide +kernel
theorem dX10_setsFloor_5 : decode cX10_setsFloor 5 = .ok (.iconst (-1), 1) := by decide +kernel
theorem dX10_setsFloor_6 : decode cX10_setsFloor 6 = .ok (.iastore, 1) := by decide +kernel
theorem dX10_setsFloor_7 : decode cX10_setsFloor 7 = .ok (.aload_n 0, 1) := by decide +kernel
theorem dX10_setsFloor_8 : decode cX10_setsFloor 8 = .ok (.getfield 63, 3) := by decide +kernel
theorem dX10_setsFloor_11 : decode cX10_setsFloor 11 = .ok (.iconst 1, 1) := by decide +kernel
theorem dX10_setsFloor_12 : decode cX10_setsFloor 12 = .ok (.iconst (-1), 1) := by decide +kernel
theorem dX10_setsFloor_13 : decode cX10_setsFloor 13 = .ok (.iastore, 1) := by decide +kernel
theorem dX10_setsFloor_14 : decode cX10_setsFloor 14 = .ok (.aload_n 0, 1) := by decide +kernel
theorem dX10_setsFloor_15 : decode cX10_setsFloor 15 = .ok (.getfield 63, 3) := by decide +kernel
theorem dX10_setsFloor_18 : decode cX10_setsFloor 18 = .ok (.iconst 2, 1) := by decide +kernel
theorem dX10_setsFloor_19 : decode cX10_setsFloor 19 = .ok (.iconst (-1), 1) := by decide +kernel
theorem dX10_setsFloor_20 : decode cX10_setsFloor 20 = .ok (.iastore, 1) := by decide +kernel
theorem dX10_setsFloor_21 : decode cX10_setsFloor 21 = .ok (.aload_n 0, 1) := by decide +kernel
theorem dX10_setsFloor_22 : decode cX10_setsFloor 22 = .ok (.aload_n 0, 1) := by decide +kernel
theorem dX10_setsFloor_23 : decode cX10_setsFloor 23 = .ok (.getfield 28, 3) := by decide +kernel
theorem dX10_setsFloor_26 : decode cX10_setsFloor 26 = .ok (.iconst 0, 1) := by decide +kernel
theorem dX10_setsFloor_27 : decode cX10_setsFloor 27 = .ok (.iload_n 1, 1) := by decide +kernel
theorem dX10_setsFloor_28 : decode cX10_setsFloor 28 = .ok (.iadd, 1) := by decide +kernel
theorem dX10_setsFloor_29 : decode cX10_setsFloor 29 = .ok (.iaload, 1) := by decide +kernel
theorem dX10_setsFloor_30 : decode cX10_setsFloor 30 = .ok (.iload_n 1, 1) := by decide +kernel
theorem dX10_setsFloor_31 : decode cX10_setsFloor 31 = .ok (.aload_n 0, 1) := by decide +kernel
theorem dX10_setsFloor_32 : decode cX10_setsFloor 32 = .ok (.getfield 28, 3) := by decide +kernel
theorem dX10_setsFloor_35 : decode cX10_setsFloor 35 = .ok (.bipush 6, 2) := by decide +kernel
theorem dX10_setsFloor_37 : decode cX10_setsFloor 37 = .ok (.iload_n 1, 1) := by decide +kernel
theorem dX10_setsFloor_38 : decode cX10_setsFloor 38 = .ok (.iadd, 1) := by decide +kernel
theorem dX10_setsFloor_39 : decode cX10_setsFloor 39 = .ok (.iaload, 1) := by decide +kernel
theorem dX10_setsFloor_40 : decode cX10_setsFloor 40 = .ok (.invokevirtual 335, 3) := by decide +kernel
theorem dX10_setsFloor_43 : decode cX10_setsFloor 43 = .ok (.return_, 1) := by decide +kernel
set_option maxRecDepth 20000 in
theorem ggX10_yearPasses_X10_size : GoodIn wsX10_yearPasses wsX10_size := goodIn_r _ [7, 2, 100, 101, 102, 103, 104, 105, 106, 107, 108, 109, 110, 111, 112, 113, 114, 115, 116, 117, 118, 119, 120, 121, 122, 123, 124, 125, 126, 127, 128, 129, 130, 131, 132, 133, 134, 135, 136, 137, 138, 139, 140, 141, 142, 143, 144, 145, 146, 147, 148, 149, 150, 151, 152, 153, 154, 155] (by decide +kernel) (by decide +kernel)
set_option maxRecDepth 20000 in
theorem gX10_yearPasses_X10_size : GoodIn wsX10_yearPasses (wsV RX10 125 RX10 yX10_size wsX10_size) := goodIn_app (goodIn_of _ (by decide +kernel)) ggX10_yearPasses_X10_size
theorem dX10_yearPasses_0 : decode cX10_yearPasses 0 = .ok (.iconst 0, 1) := by decide +kernel
theorem dX10_yearPasses_1 : decode cX10_yearPasses 1 = .ok (.istore_n 1, 1) := by decide +kernel
theorem dX10_yearPasses_2 : decode cX10_yearPasses 2 = .ok (.iconst 0, 1) := by decide +kernel
theorem dX10_yearPasses_3 : decode cX10_yearPasses 3 = .ok (.istore_n 2, 1) := by decide +kernel
theorem dX10_yearPasses_4 : decode cX10_yearPasses 4 = .ok (.iload_n 2, 1) := by decide +kernel
theorem dX10_yearPasses_5 : decode cX10_yearPasses 5 = .ok (.aload_n 0, 1) := by decide +kernel
theorem dX10_yearPasses_6 : decode cX10_yearPasses 6 = .ok (.invokevirtual 125, 3) := by decide +kernel
theorem dX10_yearPasses_9 : decode cX10_yearPasses 9 = .ok (.if_icmp .ge 20, 3) := by decide +kernel
theorem dX10_yearPasses_29 : decode cX10_yearPasses 29 = .ok (.iconst 0, 1) := by decide +kernel
theorem dX10_yearPasses_30 : decode cX10_yearPasses 30 = .ok (.istore_n 2, 1) := by decide +kernel
theorem dX10_yearPasses_31 : decode cX10_yearPasses 31 = .ok (.iload_n 2, 1) := by decide +kernel
theorem dX10_yearPasses_32 : decode cX10_yearPasses 32 = .ok (.aload_n 0, 1) := by decide +kernel
theorem dX10_yearPasses_33 : decode cX10_yearPasses 33 = .ok (.invokevirtual 125, 3) := by decide +kernel
theorem dX10_yearPasses_36 : decode cX10_yearPasses 36 = .ok (.if_icmp .ge 67, 3) := by decide +kernel
theorem dX10_yearPasses_103 : decode cX10_yearPasses 103 = .ok (.aload_n 0, 1) := by decide +kernel
theorem dX10_yearPasses_104 : decode cX10_yearPasses 104 = .ok (.getfield 28, 3) := by decide +kernel
theorem dX10_yearPasses_107 : decode cX10_yearPasses 107 = .ok (.bipush 13, 2) := by decide +kernel
theorem dX10_yearPasses_109 : decode cX10_yearPasses 109 = .ok (.dup2, 1) := by decide +kernel
theorem dX10_yearPasses_110 : decode cX10_yearPasses 110 = .ok (.iaload, 1) := by decide +kernel
theorem dX10_yearPasses_111 : decode cX10_yearPasses 111 = .ok (.iconst 1, 1) := by decide +kernel
theorem dX10_yearPasses_112 : decode cX10_yearPasses 112 = .ok (.iadd, 1) := by decide +kernel
theorem dX10_yearPasses_113 : decode cX10_yearPasses 113 = .ok (.iastore, 1) := by decide +kernel
theorem dX10_yearPasses_114 : decode cX10_yearPasses 114 = .ok (.iload_n 1, 1) := by decide +kernel
theorem dX10_yearPasses_115 : decode cX10_yearPasses 115 = .ok (.ireturn, 1) := by decide +kernel
theorem dX10_keeps_0 : decode cX10_keeps 0 = .ok (.bipush 15, 2) := by decide +kernel
theorem dX10_keeps_2 : decode cX10_keeps 2 = .ok (.istore_n 2, 1) := by decide +kernel
theorem dX10_keeps_3 : decode cX10_keeps 3 = .ok (.aload_n 0, 1) := by decide +kernel
theorem dX10_keeps_4 : decode cX10_keeps 4 = .ok (.getfield 11, 3) := by decide +kernel
theorem dX10_keeps_7 : decode cX10_keeps 7 = .ok (.bipush 16, 2) := by decide +kernel
theorem dX10_keeps_9 : decode cX10_keeps 9 = .ok (.if_icmp .ne 43, 3) := by decide +kernel
theorem dX10_keeps_52 : decode cX10_keeps 52 = .ok (.iconst 0, 1) := by decide +kernel
theorem dX10_keeps_53 : decode cX10_keeps 53 = .ok (.istore_n 3, 1) := by decide +kernel
theorem dX10_keeps_54 : decode cX10_keeps 54 = .ok (.iload_n 3, 1) := by decide +kernel
theorem dX10_keeps_55 : decode cX10_keeps 55 = .ok (.bipush 14, 2) := by decide +kernel
theorem dX10_keeps_57 : decode cX10_keeps 57 = .ok (.if_icmp .ge 28, 3) := by decide +kernel
theorem dX10_keeps_60 : decode cX10_keeps 60 = .ok (.aload_n 0, 1) := by decide +kernel
theorem dX10_keeps_61 : decode cX10_keeps 61 = .ok (.getfield 69, 3) := by decide +kernel
theorem dX10_keeps_64 : decode cX10_keeps 64 = .ok (.iload_n 2, 1) := by decide +kernel
theorem dX10_keeps_65 : decode cX10_keeps 65 = .ok (.aload_n 0, 1) := by decide +kernel
theorem dX10_keeps_66 : decode cX10_keeps 66 = .ok (.getfield 11, 3) := by decide +kernel
theorem dX10_keeps_69 : decode cX10_keeps 69 = .ok (.imul, 1) := by decide +kernel
theorem dX10_keeps_70 : decode cX10_keeps 70 = .ok (.iload_n 3, 1) := by decide +kernel
theorem dX10_keeps_71 : decode cX10_keeps 71 = .ok (.iadd, 1) := by decide +kernel
theorem dX10_keeps_72 : decode cX10_keeps 72 = .ok (.aload_n 0, 1) := by decide +kernel
theorem dX10_keeps_73 : decode cX10_keeps 73 = .ok (.getfield 28, 3) := by decide +kernel
theorem dX10_keeps_76 : decode cX10_keeps 76 = .ok (.iload_n 3, 1) := by decide +kernel
theorem dX10_keeps_77 : decode cX10_keeps 77 = .ok (.iaload, 1) := by decide +kernel
theorem dX10_keeps_78 : decode cX10_keeps 78 = .ok (.iastore, 1) := by decide +kernel
theorem dX10_keeps_79 : decode cX10_keeps 79 = .ok (.iinc 3 1, 3) := by decide +kernel
theorem dX10_keeps_82 : decode cX10_keeps 82 = .ok (.goto (-28), 3) := by decide +kernel
theorem dX10_keeps_85 : decode cX10_keeps 85 = .ok (.aload_n 0, 1) := by decide +kernel
theorem dX10_keeps_86 : decode cX10_keeps 86 = .ok (.getfield 69, 3) := by decide +kernel
theorem dX10_keeps_89 : decode cX10_keeps 89 = .ok (.iload_n 2, 1) := by decide +kernel
theorem dX10_keeps_90 : decode cX10_keeps 90 = .ok (.aload_n 0, 1) := by decide +kernel
theorem dX10_keeps_91 : decode cX10_keeps 91 = .ok (.getfield 11, 3) := by decide +kernel
theorem dX10_keeps_94 : decode cX10_keeps 94 = .ok (.imul, 1) := by decide +kernel
theorem dX10_keeps_95 : decode cX10_keeps 95 = .ok (.bipush 14, 2) := by decide +kernel
theorem dX10_keeps_97 : decode cX10_keeps 97 = .ok (.iadd, 1) := by decide +kernel
theorem dX10_keeps_98 : decode cX10_keeps 98 = .ok (.iload_n 1, 1) := by decide +kernel
theorem dX10_keeps_99 : decode cX10_keeps 99 = .ok (.iastore, 1) := by decide +kernel
theorem dX10_keeps_100 : decode cX10_keeps 100 = .ok (.aload_n 0, 1) := by decide +kernel
theorem dX10_keeps_101 : decode cX10_keeps 101 = .ok (.dup, 1) := by decide +kernel
theorem dX10_keeps_102 : decode cX10_keeps 102 = .ok (.getfield 11, 3) := by decide +kernel
theorem dX10_keeps_105 : decode cX10_keeps 105 = .ok (.iconst 1, 1) := by decide +kernel
theorem dX10_keeps_106 : decode cX10_keeps 106 = .ok (.iadd, 1) := by decide +kernel
theorem dX10_keeps_107 : decode cX10_keeps 107 = .ok (.putfield 11, 3) := by decide +kernel
theorem dX10_keeps_110 : decode cX10_keeps 110 = .ok (.return_, 1) := by decide +kernel
set_option maxRecDepth 20000 in
theorem ggX10_undo_X10_refuses : GoodIn wsX10_undo wsX10_refuses := goodIn_r _ [8, 9, 10, 15, 16, 17, 18, 19, 20, 21, 22, 23, 24, 25, 26, 27, 28, 29, 30, 31, 32, 33, 34, 35, 36, 37, 38, 39, 40, 41, 42, 43, 44, 45, 46, 47, 48, 49, 50, 51, 52, 53, 54, 55, 56, 57, 58, 59, 60, 61, 62, 63, 64, 65, 66, 67, 68, 69, 70] (by decide +kernel) (by decide +kernel)
set_option maxRecDepth 20000 in
theorem gX10_undo_X10_refuses : GoodIn wsX10_undo (wsV RX10 119 RX10 yX10_refuses wsX10_refuses) := goodIn_app (goodIn_of _ (by decide +kernel)) ggX10_undo_X10_refuses
theorem dX10_undo_0 : decode cX10_undo 0 = .ok (.aload_n 0, 1) := by decide +kernel
theorem dX10_undo_1 : decode cX10_undo 1 = .ok (.getfield 11, 3) := by decide +kernel
theorem dX10_undo_4 : decode cX10_undo 4 = .ok (.ifCond .ne 10, 3) := by decide +kernel
theorem dX10_undo_7 : decode cX10_undo 7 = .ok (.aload_n 0, 1) := by decide +kernel
theorem dX10_undo_8 : decode cX10_undo 8 = .ok (.bipush (-3), 2) := by decide +kernel
theorem dX10_undo_10 : decode cX10_undo 10 = .ok (.invokevirtual 119, 3) := by decide +kernel
theorem dX10_undo_13 : decode cX10_undo 13 = .ok (.ireturn, 1) := by decide +kernel
set_option maxRecDepth 20000 in
theorem ggX10_goodOr_X10_good : GoodIn wsX10_goodOr wsX10_good := goodIn_r _ [11, 6, 12, 13, 14, 15, 16, 17, 18, 19, 20, 21, 22, 23, 24, 25, 26, 27, 28, 29, 30, 31, 32, 33, 34, 35, 36, 37, 38, 39, 40, 41, 42, 43, 44, 45, 46, 47, 48, 49, 50, 51, 52, 53, 54, 55, 56, 57, 58, 59, 60, 61, 62, 63, 64, 65, 66, 67] (by decide +kernel) (by decide +kernel)
set_option maxRecDepth 20000 in
theorem gX10_goodOr_X10_good : GoodIn wsX10_goodOr (wsV RX10 14 RX10 yX10_good wsX10_good) := goodIn_app (goodIn_of _ (by decide +kernel)) ggX10_goodOr_X10_good
theorem dX10_goodOr_12 : decode cX10_goodOr 12 = .ok (.aload_n 0, 1) := by decide +kernel
theorem dX10_goodOr_13 : decode cX10_goodOr 13 = .ok (.iload_n 1, 1) := by decide +kernel
theorem dX10_goodOr_14 : decode cX10_goodOr 14 = .ok (.invokevirtual 14, 3) := by decide +kernel
set_option maxRecDepth 20000 in
theorem ggX10_rightsKept_X10_lies : GoodIn wsX10_rightsKept wsX10_lies := goodIn_r _ [5] (by decide +kernel) (by decide +kernel)
set_option maxRecDepth 20000 in
theorem gX10_rightsKept_X10_lies : GoodIn wsX10_rightsKept (va_wsS RX10 18 yX10_lies wsX10_lies) := goodIn_app (goodIn_of _ (by decide +kernel)) ggX10_rightsKept_X10_lies
set_option maxRecDepth 20000 in
theorem ggX10_rightsKept_X10_isPlace : GoodIn wsX10_rightsKept wsX10_isPlace := goodIn_r _ [9, 10, 11, 12, 4, 13, 1, 2, 3, 5, 20, 21, 22, 23, 24, 25, 26, 27, 28, 29, 30, 31, 32, 33, 34, 35, 36, 37, 38, 39, 40, 41, 42, 43, 44, 45, 46, 47, 48, 49, 50, 51, 52, 53, 54, 55, 56, 57, 58, 59, 60, 61, 62, 63, 64, 65, 66, 67, 68, 69, 70, 71, 72, 73, 74, 75] (by decide +kernel) (by decide +kernel)
set_option maxRecDepth 20000 in
theorem gX10_rightsKept_X10_isPlace : GoodIn wsX10_rightsKept (wsV RX10 143 RX10 yX10_isPlace wsX10_isPlace) := goodIn_app (goodIn_of _ (by decide +kernel)) ggX10_rightsKept_X10_isPlace
theorem dX10_rightsKept_0 : decode cX10_rightsKept 0 = .ok (.iload_n 1, 1) := by decide +kernel
theorem dX10_rightsKept_1 : decode cX10_rightsKept 1 = .ok (.iconst 0, 1) := by decide +kernel
theorem dX10_rightsKept_2 : decode cX10_rightsKept 2 = .ok (.iconst 5, 1) := by decide +kernel
theorem dX10_rightsKept_3 : decode cX10_rightsKept 3 = .ok (.invokestatic 18, 3) := by decide +kernel
theorem dX10_rightsKept_6 : decode cX10_rightsKept 6 = .ok (.ifCond .ne 5, 3) := by decide +kernel
theorem dX10_rightsKept_9 : decode cX10_rightsKept 9 = .ok (.iconst (-1), 1) := by decide +kernel
theorem dX10_rightsKept_10 : decode cX10_rightsKept 10 = .ok (.ireturn, 1) := by decide +kernel
theorem dX10_rightsKept_11 : decode cX10_rightsKept 11 = .ok (.aload_n 0, 1) := by decide +kernel
theorem dX10_rightsKept_12 : decode cX10_rightsKept 12 = .ok (.iload_n 1, 1) := by decide +kernel
theorem dX10_rightsKept_13 : decode cX10_rightsKept 13 = .ok (.invokevirtual 143, 3) := by decide +kernel
theorem dX10_rightsKept_16 : decode cX10_rightsKept 16 = .ok (.ifCond .ne 6, 3) := by decide +kernel
theorem dX10_rightsKept_19 : decode cX10_rightsKept 19 = .ok (.bipush (-3), 2) := by decide +kernel
theorem dX10_rightsKept_21 : decode cX10_rightsKept 21 = .ok (.ireturn, 1) := by decide +kernel
set_option maxRecDepth 20000 in
theorem ggX10_swapsKept_X10_lies : GoodIn wsX10_swapsKept wsX10_lies := goodIn_r _ [5] (by decide +kernel) (by decide +kernel)
set_option maxRecDepth 20000 in
theorem gX10_swapsKept_X10_lies : GoodIn wsX10_swapsKept (va_wsS RX10 18 yX10_lies wsX10_lies) := goodIn_app (goodIn_of _ (by decide +kernel)) ggX10_swapsKept_X10_lies
set_option maxRecDepth 20000 in
theorem ggX10_swapsKept_X10_isPlace : GoodIn wsX10_swapsKept wsX10_isPlace := goodIn_r _ [9, 10, 11, 12, 4, 13, 1, 2, 3, 5, 24, 25, 26, 27, 28, 29, 30, 31, 32, 33, 34, 35, 36, 37, 38, 39, 40, 41, 42, 43, 44, 45, 46, 47, 48, 49, 50, 51, 52, 53, 54, 55, 56, 57, 58, 59, 60, 61, 62, 63, 64, 65, 66, 67, 68, 69, 70, 71, 72, 73, 74, 75, 76, 77, 78, 79] (by decide +kernel) (by decide +kernel)
set_option maxRecDepth 20000 in
theorem gX10_swapsKept_X10_isPlace : GoodIn wsX10_swapsKept (wsV RX10 143 RX10 yX10_isPlace wsX10_isPlace) := goodIn_app (goodIn_of _ (by decide +kernel)) ggX10_swapsKept_X10_isPlace
theorem dX10_swapsKept_0 : decode cX10_swapsKept 0 = .ok (.iload_n 1, 1) := by decide +kernel
theorem dX10_swapsKept_1 : decode cX10_swapsKept 1 = .ok (.iconst 0, 1) := by decide +kernel
theorem dX10_swapsKept_2 : decode cX10_swapsKept 2 = .ok (.iconst 4, 1) := by decide +kernel
theorem dX10_swapsKept_3 : decode cX10_swapsKept 3 = .ok (.invokestatic 18, 3) := by decide +kernel
theorem dX10_swapsKept_6 : decode cX10_swapsKept 6 = .ok (.ifCond .ne 5, 3) := by decide +kernel
theorem dX10_swapsKept_9 : decode cX10_swapsKept 9 = .ok (.iconst (-1), 1) := by decide +kernel
theorem dX10_swapsKept_10 : decode cX10_swapsKept 10 = .ok (.ireturn, 1) := by decide +kernel
theorem dX10_swapsKept_11 : decode cX10_swapsKept 11 = .ok (.aload_n 0, 1) := by decide +kernel
theorem dX10_swapsKept_12 : decode cX10_swapsKept 12 = .ok (.iload_n 1, 1) := by decide +kernel
theorem dX10_swapsKept_13 : decode cX10_swapsKept 13 = .ok (.iconst 1, 1) := by decide +kernel
theorem dX10_swapsKept_14 : decode cX10_swapsKept 14 = .ok (.iadd, 1) := by decide +kernel
theorem dX10_swapsKept_15 : decode cX10_swapsKept 15 = .ok (.invokevirtual 143, 3) := by decide +kernel
theorem dX10_swapsKept_18 : decode cX10_swapsKept 18 = .ok (.ifCond .ne 6, 3) := by decide +kernel
theorem dX10_swapsKept_21 : decode cX10_swapsKept 21 = .ok (.bipush (-3), 2) := by decide +kernel
theorem dX10_swapsKept_23 : decode cX10_swapsKept 23 = .ok (.ireturn, 1) := by decide +kernel
set_option maxRecDepth 20000 in
theorem ggX10_passesKept_X10_keeps : GoodIn wsX10_passesKept wsX10_keeps := goodIn_r _ [6, 7, 8, 1, 110, 111, 112, 113, 114, 115, 116, 117, 118, 119, 120, 121, 122, 123, 124, 125, 126, 127, 128, 129, 130, 131, 132, 133, 134, 135, 136, 137, 138, 139, 140, 141, 142, 143, 144, 145, 146, 147, 148, 149, 150, 151, 152, 153, 154, 155, 156, 157, 158, 159, 160, 161, 162, 163, 164, 165] (by decide +kernel) (by decide +kernel)
set_option maxRecDepth 20000 in
theorem gX10_passesKept_X10_keeps : GoodIn wsX10_passesKept (wsV RX10 356 RX10 yX10_keeps wsX10_keeps) := goodIn_app (goodIn_of _ (by decide +kernel)) ggX10_passesKept_X10_keeps
set_option maxRecDepth 20000 in
theorem ggX10_passesKept_X10_yearPasses : GoodIn wsX10_passesKept wsX10_yearPasses := goodIn_r _ [12, 13, 1, 14, 15, 16, 5, 17, 18, 19, 20, 21, 22, 23, 24, 25, 26, 27, 28, 29, 30, 31, 32, 33, 34, 35, 36, 37, 38, 39, 40, 41, 42, 43, 44, 45, 46, 47, 48, 49, 50, 51, 52, 53, 54, 55, 56, 57, 58, 59, 60, 61, 62, 63, 64, 65, 66, 67, 68, 69, 70, 71, 72, 73, 74, 75, 76, 77, 78, 79, 80, 81, 82, 83, 84, 85, 86, 87, 88, 89, 90, 91, 92, 93, 94, 95, 96, 97, 98, 99, 100, 101, 102, 103, 104, 105, 106, 107, 108, 109, 110, 111, 112, 113, 114, 115, 116, 117, 118, 119, 120, 121, 122, 123, 124, 125, 126, 127, 128, 129, 130, 131, 132, 133, 134, 135, 136, 137, 138, 139, 140, 141, 142, 143, 144, 145, 146, 147, 148, 149, 150, 151, 152, 153, 154, 155, 156, 157, 158, 159, 160, 161, 162, 163, 164, 165] (by decide +kernel) (by decide +kernel)
set_option maxRecDepth 20000 in
theorem gX10_passesKept_X10_yearPasses : GoodIn wsX10_passesKept (wsV RX10 362 RX10 yX10_yearPasses wsX10_yearPasses) := goodIn_app (goodIn_of _ (by decide +kernel)) ggX10_passesKept_X10_yearPasses
theorem dX10_passesKept_0 : decode cX10_passesKept 0 = .ok (.aload_n 0, 1) := by decide +kernel
theorem dX10_passesKept_1 : decode cX10_passesKept 1 = .ok (.getfield 28, 3) := by decide +kernel
theorem dX10_passesKept_4 : decode cX10_passesKept 4 = .ok (.bipush 13, 2) := by decide +kernel
theorem dX10_passesKept_6 : decode cX10_passesKept 6 = .ok (.iaload, 1) := by decide +kernel
theorem dX10_passesKept_7 : decode cX10_passesKept 7 = .ok (.sipush 999, 3) := by decide +kernel
theorem dX10_passesKept_10 : decode cX10_passesKept 10 = .ok (.if_icmp .ne 6, 3) := by decide +kernel
theorem dX10_passesKept_16 : decode cX10_passesKept 16 = .ok (.aload_n 0, 1) := by decide +kernel
theorem dX10_passesKept_17 : decode cX10_passesKept 17 = .ok (.iconst 3, 1) := by decide +kernel
theorem dX10_passesKept_18 : decode cX10_passesKept 18 = .ok (.invokevirtual 356, 3) := by decide +kernel
theorem dX10_passesKept_21 : decode cX10_passesKept 21 = .ok (.aload_n 0, 1) := by decide +kernel
theorem dX10_passesKept_22 : decode cX10_passesKept 22 = .ok (.invokevirtual 362, 3) := by decide +kernel
theorem dX10_passesKept_25 : decode cX10_passesKept 25 = .ok (.ireturn, 1) := by decide +kernel
set_option maxRecDepth 20000 in
theorem ggX10_right_X10_rightsKept : GoodIn wsX10_right wsX10_rightsKept := goodIn_r _ [5, 6, 7, 8, 4, 9, 10, 11, 12, 13, 14, 15, 16, 17, 18, 19, 20, 21, 22, 23, 38, 39, 40, 41, 42, 43, 44, 45, 46, 47, 48, 49, 50, 51, 52, 53, 54, 55, 56, 57, 58, 59, 60, 61, 62, 63, 64, 65, 66, 67, 68, 69, 70, 71, 72, 73, 74, 75, 76, 77, 78, 79, 80, 81, 82, 83, 84, 85, 86, 87, 88, 89, 90, 91, 92, 93] (by decide +kernel) (by decide +kernel)
set_option maxRecDepth 20000 in
theorem gX10_right_X10_rightsKept : GoodIn wsX10_right (wsV RX10 371 RX10 yX10_rightsKept wsX10_rightsKept) := goodIn_app (goodIn_of _ (by decide +kernel)) ggX10_right_X10_rightsKept
set_option maxRecDepth 20000 in
theorem ggX10_right_X10_goodOr : GoodIn wsX10_right wsX10_goodOr := goodIn_r _ [27, 28, 29, 30, 4, 31, 32, 33, 34, 35, 36, 37, 38, 39, 40, 41, 42, 43, 44, 45, 46, 47, 48, 49, 50, 51, 52, 53, 54, 55, 56, 57, 58, 59, 60, 61, 62, 63, 64, 65, 66, 67, 68, 69, 70, 71, 72, 73, 74, 75, 76, 77, 78, 79, 80, 81, 82, 83, 84, 85, 86, 87, 88, 89, 90, 91, 92, 93] (by decide +kernel) (by decide +kernel)
set_option maxRecDepth 20000 in
theorem gX10_right_X10_goodOr : GoodIn wsX10_right (wsV RX10 368 RX10 yX10_goodOr wsX10_goodOr) := goodIn_app (goodIn_of _ (by decide +kernel)) ggX10_right_X10_goodOr
theorem dX10_right_0 : decode cX10_right 0 = .ok (.aload_n 0, 1) := by decide +kernel
theorem dX10_right_1 : decode cX10_right 1 = .ok (.aload_n 0, 1) := by decide +kernel
theorem dX10_right_2 : decode cX10_right 2 = .ok (.iload_n 1, 1) := by decide +kernel
theorem dX10_right_3 : decode cX10_right 3 = .ok (.invokevirtual 371, 3) := by decide +kernel
theorem dX10_right_6 : decode cX10_right 6 = .ok (.invokevirtual 368, 3) := by decide +kernel
theorem dX10_right_9 : decode cX10_right 9 = .ok (.ireturn, 1) := by decide +kernel
set_option maxRecDepth 20000 in
theorem ggX10_swap_X10_swapsKept : GoodIn wsX10_swap wsX10_swapsKept := goodIn_r _ [5, 6, 7, 8, 4, 9, 10, 11, 12, 13, 14, 15, 16, 17, 18, 19, 20, 21, 22, 23, 24, 25, 26, 27, 42, 43, 44, 45, 46, 47, 48, 49, 50, 51, 52, 53, 54, 55, 56, 57, 58, 59, 60, 61, 62, 63, 64, 65, 66, 67, 68, 69, 70, 71, 72, 73, 74, 75, 76, 77, 78, 79, 80, 81, 82, 83, 84, 85, 86, 87, 88, 89, 90, 91, 92, 93, 94, 95, 96, 97] (by decide +kernel) (by decide +kernel)
set_option maxRecDepth 20000 in
theorem gX10_swap_X10_swapsKept : GoodIn wsX10_swap (wsV RX10 374 RX10 yX10_swapsKept wsX10_swapsKept) := goodIn_app (goodIn_of _ (by decide +kernel)) ggX10_swap_X10_swapsKept
set_option maxRecDepth 20000 in
theorem ggX10_swap_X10_goodOr : GoodIn wsX10_swap wsX10_goodOr := goodIn_r _ [31, 32, 33, 34, 4, 35, 36, 37, 38, 39, 40, 41, 42, 43, 44, 45, 46, 47, 48, 49, 50, 51, 52, 53, 54, 55, 56, 57, 58, 59, 60, 61, 62, 63, 64, 65, 66, 67, 68, 69, 70, 71, 72, 73, 74, 75, 76, 77, 78, 79, 80, 81, 82, 83, 84, 85, 86, 87, 88, 89, 90, 91, 92, 93, 94, 95, 96, 97] (by decide +kernel) (by decide +kernel)
set_option maxRecDepth 20000 in
theorem gX10_swap_X10_goodOr : GoodIn wsX10_swap (wsV RX10 368 RX10 yX10_goodOr wsX10_goodOr) := goodIn_app (goodIn_of _ (by decide +kernel)) ggX10_swap_X10_goodOr
theorem dX10_swap_0 : decode cX10_swap 0 = .ok (.aload_n 0, 1) := by decide +kernel
theorem dX10_swap_1 : decode cX10_swap 1 = .ok (.aload_n 0, 1) := by decide +kernel
theorem dX10_swap_2 : decode cX10_swap 2 = .ok (.iload_n 1, 1) := by decide +kernel
theorem dX10_swap_3 : decode cX10_swap 3 = .ok (.invokevirtual 374, 3) := by decide +kernel
theorem dX10_swap_6 : decode cX10_swap 6 = .ok (.invokevirtual 368, 3) := by decide +kernel
theorem dX10_swap_9 : decode cX10_swap 9 = .ok (.ireturn, 1) := by decide +kernel
set_option maxRecDepth 20000 in
theorem ggX10_pass_X10_passesKept : GoodIn wsX10_pass wsX10_passesKept := goodIn_r _ [5, 6, 7, 8, 9, 4, 10, 11, 12, 13, 14, 15, 16, 17, 18, 19, 20, 21, 22, 23, 24, 25, 26, 27, 28, 29, 30, 31, 32, 33, 34, 35, 36, 37, 38, 39, 40, 41, 42, 43, 44, 45, 46, 47, 48, 49, 50, 51, 52, 53, 54, 55, 56, 57, 58, 59, 60, 61, 62, 63, 64, 65, 66, 67, 68, 69, 70, 71, 72, 73, 74, 75, 76, 77, 78, 79, 80, 81, 82, 83, 84, 85, 86, 87, 88, 89, 90, 91, 92, 93, 94, 95, 96, 97, 98, 99, 100, 101, 102, 103, 104, 105, 106, 107, 108, 109, 110, 111, 112, 113, 128, 129, 130, 131, 132, 133, 134, 135, 136, 137, 138, 139, 140, 141, 142, 143, 144, 145, 146, 147, 148, 149, 150, 151, 152, 153, 154, 155, 156, 157, 158, 159, 160, 161, 162, 163, 164, 165, 166, 167, 168, 169, 170, 171, 172, 173, 174, 175, 176, 177, 178, 179, 180, 181, 182, 183] (by decide +kernel) (by decide +kernel)
set_option maxRecDepth 20000 in
theorem gX10_pass_X10_passesKept : GoodIn wsX10_pass (wsV RX10 377 RX10 yX10_passesKept wsX10_passesKept) := goodIn_app (goodIn_of _ (by decide +kernel)) ggX10_pass_X10_passesKept
set_option maxRecDepth 20000 in
theorem ggX10_pass_X10_goodOr : GoodIn wsX10_pass wsX10_goodOr := goodIn_r _ [117, 118, 119, 120, 4, 121, 122, 123, 124, 125, 126, 127, 128, 129, 130, 131, 132, 133, 134, 135, 136, 137, 138, 139, 140, 141, 142, 143, 144, 145, 146, 147, 148, 149, 150, 151, 152, 153, 154, 155, 156, 157, 158, 159, 160, 161, 162, 163, 164, 165, 166, 167, 168, 169, 170, 171, 172, 173, 174, 175, 176, 177, 178, 179, 180, 181, 182, 183] (by decide +kernel) (by decide +kernel)
set_option maxRecDepth 20000 in
theorem gX10_pass_X10_goodOr : GoodIn wsX10_pass (wsV RX10 368 RX10 yX10_goodOr wsX10_goodOr) := goodIn_app (goodIn_of _ (by decide +kernel)) ggX10_pass_X10_goodOr
theorem dX10_pass_0 : decode cX10_pass 0 = .ok (.aload_n 0, 1) := by decide +kernel
theorem dX10_pass_1 : decode cX10_pass 1 = .ok (.aload_n 0, 1) := by decide +kernel
theorem dX10_pass_2 : decode cX10_pass 2 = .ok (.invokevirtual 377, 3) := by decide +kernel
theorem dX10_pass_5 : decode cX10_pass 5 = .ok (.invokevirtual 368, 3) := by decide +kernel
theorem dX10_pass_8 : decode cX10_pass 8 = .ok (.ireturn, 1) := by decide +kernel
theorem dX10_allOrders_0 : decode cX10_allOrders 0 = .ok (.iconst 1, 1) := by decide +kernel
theorem dX10_allOrders_1 : decode cX10_allOrders 1 = .ok (.istore_n 1, 1) := by decide +kernel
theorem dX10_allOrders_2 : decode cX10_allOrders 2 = .ok (.iconst 2, 1) := by decide +kernel
theorem dX10_allOrders_3 : decode cX10_allOrders 3 = .ok (.istore_n 2, 1) := by decide +kernel
theorem dX10_allOrders_4 : decode cX10_allOrders 4 = .ok (.iload_n 2, 1) := by decide +kernel
theorem dX10_allOrders_5 : decode cX10_allOrders 5 = .ok (.iload_n 0, 1) := by decide +kernel
theorem dX10_allOrders_6 : decode cX10_allOrders 6 = .ok (.if_icmp .gt 13, 3) := by decide +kernel
theorem dX10_allOrders_19 : decode cX10_allOrders 19 = .ok (.iload_n 1, 1) := by decide +kernel
theorem dX10_allOrders_20 : decode cX10_allOrders 20 = .ok (.ireturn, 1) := by decide +kernel
set_option maxRecDepth 20000 in
theorem ggX10_laysOrder_X10_size : GoodIn wsX10_laysOrder wsX10_size := goodIn_r _ [6, 7, 14, 15, 16, 17, 18, 19, 20, 21, 22, 23, 24, 25, 26, 27, 28, 29, 30, 31, 32, 33, 34, 35, 36, 37, 38, 39, 40, 41, 42, 43, 44, 45, 46, 47, 48, 49, 50, 51, 52, 53, 54, 55, 56, 57, 58, 59, 60, 61, 62, 63, 64, 65, 66, 67, 68, 69] (by decide +kernel) (by decide +kernel)
set_option maxRecDepth 20000 in
theorem gX10_laysOrder_X10_size : GoodIn wsX10_laysOrder (wsV RX10 125 RX10 yX10_size wsX10_size) := goodIn_app (goodIn_of _ (by decide +kernel)) ggX10_laysOrder_X10_size
theorem dX10_laysOrder_0 : decode cX10_laysOrder 0 = .ok (.iconst 0, 1) := by decide +kernel
theorem dX10_laysOrder_1 : decode cX10_laysOrder 1 = .ok (.istore_n 2, 1) := by decide +kernel
theorem dX10_laysOrder_2 : decode cX10_laysOrder 2 = .ok (.iload_n 1, 1) := by decide +kernel
theorem dX10_laysOrder_3 : decode cX10_laysOrder 3 = .ok (.istore_n 3, 1) := by decide +kernel
theorem dX10_laysOrder_4 : decode cX10_laysOrder 4 = .ok (.iconst 0, 1) := by decide +kernel
theorem dX10_laysOrder_5 : decode cX10_laysOrder 5 = .ok (.istore 4, 2) := by decide +kernel
theorem dX10_laysOrder_7 : decode cX10_laysOrder 7 = .ok (.iload 4, 2) := by decide +kernel
theorem dX10_laysOrder_9 : decode cX10_laysOrder 9 = .ok (.aload_n 0, 1) := by decide +kernel
theorem dX10_laysOrder_10 : decode cX10_laysOrder 10 = .ok (.invokevirtual 125, 3) := by decide +kernel
theorem dX10_laysOrder_13 : decode cX10_laysOrder 13 = .ok (.if_icmp .ge 97, 3) := by decide +kernel
theorem dX10_laysOrder_110 : decode cX10_laysOrder 110 = .ok (.return_, 1) := by decide +kernel
set_option maxRecDepth 20000 in
theorem ggX10_laysTables_X10_size : GoodIn wsX10_laysTables wsX10_size := goodIn_r _ [11, 12, 31, 32, 33, 34, 35, 36, 37, 38, 39, 40, 41, 42, 43, 44, 45, 46, 47, 48, 49, 50, 51, 52, 53, 54, 55, 56, 57, 58, 59, 60, 61, 62, 63, 64, 65, 66, 67, 68, 69, 70, 71, 72, 73, 74, 75, 76, 77, 78, 79, 80, 81, 82, 83, 84, 85, 86] (by decide +kernel) (by decide +kernel)
set_option maxRecDepth 20000 in
theorem gX10_laysTables_X10_size : GoodIn wsX10_laysTables (wsV RX10 125 RX10 yX10_size wsX10_size) := goodIn_app (goodIn_of _ (by decide +kernel)) ggX10_laysTables_X10_size
set_option maxRecDepth 20000 in
theorem ggX10_laysTables_X10_allOrders : GoodIn wsX10_laysTables wsX10_allOrders := goodIn_r _ [15] (by decide +kernel) (by decide +kernel)
set_option maxRecDepth 20000 in
theorem gX10_laysTables_X10_allOrders : GoodIn wsX10_laysTables (va_wsS RX10 380 yX10_allOrders wsX10_allOrders) := goodIn_app (goodIn_of _ (by decide +kernel)) ggX10_laysTables_X10_allOrders
set_option maxRecDepth 20000 in
theorem ggX10_laysTables_X10_laysOrder : GoodIn wsX10_laysTables wsX10_laysOrder := goodIn_r _ [19, 4, 7, 8, 9, 10, 11, 12, 13, 14, 15, 20, 21, 22, 31, 32, 33, 34, 35, 36, 37, 38, 39, 40, 41, 42, 43, 44, 45, 46, 47, 48, 49, 50, 51, 52, 53, 54, 55, 56, 57, 58, 59, 60, 61, 62, 63, 64, 65, 66, 67, 68, 69, 70, 71, 72, 73, 74, 75, 76, 77, 78, 79, 80, 81, 82, 83, 84, 85, 86] (by decide +kernel) (by decide +kernel)
set_option maxRecDepth 20000 in
theorem gX10_laysTables_X10_laysOrder : GoodIn wsX10_laysTables (wsV RX10 392 RX10 yX10_laysOrder wsX10_laysOrder) := goodIn_app (goodIn_of _ (by decide +kernel)) ggX10_laysTables_X10_laysOrder
theorem dX10_laysTables_0 : decode cX10_laysTables 0 = .ok (.aload_n 0, 1) := by decide +kernel
theorem dX10_laysTables_1 : decode cX10_laysTables 1 = .ok (.aload_n 0, 1) := by decide +kernel
theorem dX10_laysTables_2 : decode cX10_laysTables 2 = .ok (.invokevirtual 125, 3) := by decide +kernel
theorem dX10_laysTables_5 : decode cX10_laysTables 5 = .ok (.invokestatic 380, 3) := by decide +kernel
theorem dX10_laysTables_8 : decode cX10_laysTables 8 = .ok (.putfield 386, 3) := by decide +kernel
theorem dX10_laysTables_11 : decode cX10_laysTables 11 = .ok (.aload_n 0, 1) := by decide +kernel
theorem dX10_laysTables_12 : decode cX10_laysTables 12 = .ok (.iconst 1, 1) := by decide +kernel
theorem dX10_laysTables_13 : decode cX10_laysTables 13 = .ok (.aload_n 0, 1) := by decide +kernel
theorem dX10_laysTables_14 : decode cX10_laysTables 14 = .ok (.invokevirtual 125, 3) := by decide +kernel
theorem dX10_laysTables_17 : decode cX10_laysTables 17 = .ok (.ishl, 1) := by decide +kernel
theorem dX10_laysTables_18 : decode cX10_laysTables 18 = .ok (.putfield 389, 3) := by decide +kernel
theorem dX10_laysTables_21 : decode cX10_laysTables 21 = .ok (.iconst 0, 1) := by decide +kernel
theorem dX10_laysTables_22 : decode cX10_laysTables 22 = .ok (.istore_n 1, 1) := by decide +kernel
theorem dX10_laysTables_23 : decode cX10_laysTables 23 = .ok (.iload_n 1, 1) := by decide +kernel
theorem dX10_laysTables_24 : decode cX10_laysTables 24 = .ok (.aload_n 0, 1) := by decide +kernel
theorem dX10_laysTables_25 : decode cX10_laysTables 25 = .ok (.getfield 386, 3) := by decide +kernel
theorem dX10_laysTables_28 : decode cX10_laysTables 28 = .ok (.if_icmp .ge 91, 3) := by decide +kernel
theorem dX10_laysTables_31 : decode cX10_laysTables 31 = .ok (.aload_n 0, 1) := by decide +kernel
theorem dX10_laysTables_32 : decode cX10_laysTables 32 = .ok (.iload_n 1, 1) := by decide +kernel
theorem dX10_laysTables_33 : decode cX10_laysTables 33 = .ok (.invokevirtual 392, 3) := by decide +kernel
theorem dX10_laysTables_36 : decode cX10_laysTables 36 = .ok (.iconst 1, 1) := by decide +kernel
theorem dX10_laysTables_37 : decode cX10_laysTables 37 = .ok (.istore_n 2, 1) := by decide +kernel
theorem dX10_laysTables_38 : decode cX10_laysTables 38 = .ok (.iload_n 2, 1) := by decide +kernel
theorem dX10_laysTables_39 : decode cX10_laysTables 39 = .ok (.aload_n 0, 1) := by decide +kernel
theorem dX10_laysTables_40 : decode cX10_laysTables 40 = .ok (.invokevirtual 125, 3) := by decide +kernel
theorem dX10_laysTables_43 : decode cX10_laysTables 43 = .ok (.if_icmp .gt 70, 3) := by decide +kernel
theorem dX10_laysTables_113 : decode cX10_laysTables 113 = .ok (.iinc 1 1, 3) := by decide +kernel
theorem dX10_laysTables_116 : decode cX10_laysTables 116 = .ok (.goto (-93), 3) := by decide +kernel
theorem dX10_laysTables_119 : decode cX10_laysTables 119 = .ok (.iconst 0, 1) := by decide +kernel
theorem dX10_laysTables_120 : decode cX10_laysTables 120 = .ok (.istore_n 1, 1) := by decide +kernel
theorem dX10_laysTables_121 : decode cX10_laysTables 121 = .ok (.iload_n 1, 1) := by decide +kernel
theorem dX10_laysTables_122 : decode cX10_laysTables 122 = .ok (.aload_n 0, 1) := by decide +kernel
theorem dX10_laysTables_123 : decode cX10_laysTables 123 = .ok (.getfield 389, 3) := by decide +kernel
theorem dX10_laysTables_126 : decode cX10_laysTables 126 = .ok (.if_icmp .ge 42, 3) := by decide +kernel
theorem dX10_laysTables_129 : decode cX10_laysTables 129 = .ok (.iconst 1, 1) := by decide +kernel
theorem dX10_laysTables_130 : decode cX10_laysTables 130 = .ok (.istore_n 2, 1) := by decide +kernel
theorem dX10_laysTables_131 : decode cX10_laysTables 131 = .ok (.iload_n 2, 1) := by decide +kernel
theorem dX10_laysTables_132 : decode cX10_laysTables 132 = .ok (.aload_n 0, 1) := by decide +kernel
theorem dX10_laysTables_133 : decode cX10_laysTables 133 = .ok (.invokevirtual 125, 3) := by decide +kernel
theorem dX10_laysTables_136 : decode cX10_laysTables 136 = .ok (.if_icmp .gt 26, 3) := by decide +kernel
theorem dX10_laysTables_162 : decode cX10_laysTables 162 = .ok (.iinc 1 1, 3) := by decide +kernel
theorem dX10_laysTables_165 : decode cX10_laysTables 165 = .ok (.goto (-44), 3) := by decide +kernel
theorem dX10_laysTables_168 : decode cX10_laysTables 168 = .ok (.return_, 1) := by decide +kernel
set_option maxRecDepth 20000 in
theorem ggX10_laysPrices_X10_laysTables : GoodIn wsX10_laysPrices wsX10_laysTables := goodIn_r _ [6, 7, 8, 9, 10, 11, 12, 13, 14, 15, 5, 16, 17, 18, 19, 20, 21, 22, 23, 24, 25, 26, 27, 28, 29, 30, 31, 32, 33, 34, 35, 135, 136, 137, 138, 139, 140, 141, 142, 143, 144, 145, 146, 147, 148, 149, 150, 151, 152, 153, 154, 155, 156, 157, 158, 159, 160, 161, 162, 163, 164, 165, 166, 167, 168, 169, 170, 171, 172, 173, 174, 175, 176, 177, 178, 179, 180, 181, 182, 183, 184, 185, 186, 187, 188, 189, 190] (by decide +kernel) (by decide +kernel)
set_option maxRecDepth 20000 in
theorem gX10_laysPrices_X10_laysTables : GoodIn wsX10_laysPrices (wsV RX10 404 RX10 yX10_laysTables wsX10_laysTables) := goodIn_app (goodIn_of _ (by decide +kernel)) ggX10_laysPrices_X10_laysTables
set_option maxRecDepth 20000 in
theorem ggX10_laysPrices_X10_size : GoodIn wsX10_laysPrices wsX10_size := goodIn_r _ [16, 17, 135, 136, 137, 138, 139, 140, 141, 142, 143, 144, 145, 146, 147, 148, 149, 150, 151, 152, 153, 154, 155, 156, 157, 158, 159, 160, 161, 162, 163, 164, 165, 166, 167, 168, 169, 170, 171, 172, 173, 174, 175, 176, 177, 178, 179, 180, 181, 182, 183, 184, 185, 186, 187, 188, 189, 190] (by decide +kernel) (by decide +kernel)
set_option maxRecDepth 20000 in
theorem gX10_laysPrices_X10_size : GoodIn wsX10_laysPrices (wsV RX10 125 RX10 yX10_size wsX10_size) := goodIn_app (goodIn_of _ (by decide +kernel)) ggX10_laysPrices_X10_size
theorem dX10_laysPrices_0 : decode cX10_laysPrices 0 = .ok (.aload_n 0, 1) := by decide +kernel
theorem dX10_laysPrices_1 : decode cX10_laysPrices 1 = .ok (.invokevirtual 404, 3) := by decide +kernel
theorem dX10_laysPrices_4 : decode cX10_laysPrices 4 = .ok (.iconst 1, 1) := by decide +kernel
theorem dX10_laysPrices_5 : decode cX10_laysPrices 5 = .ok (.istore_n 1, 1) := by decide +kernel
theorem dX10_laysPrices_6 : decode cX10_laysPrices 6 = .ok (.iload_n 1, 1) := by decide +kernel
theorem dX10_laysPrices_7 : decode cX10_laysPrices 7 = .ok (.aload_n 0, 1) := by decide +kernel
theorem dX10_laysPrices_8 : decode cX10_laysPrices 8 = .ok (.invokevirtual 125, 3) := by decide +kernel
theorem dX10_laysPrices_11 : decode cX10_laysPrices 11 = .ok (.if_icmp .gt 112, 3) := by decide +kernel
theorem dX10_laysPrices_123 : decode cX10_laysPrices 123 = .ok (.return_, 1) := by decide +kernel
