set_option maxRecDepth 20000 in
theorem ggX10_row_X10_refuses : GoodIn wsX10_row wsX10_refuses := goodIn_r _ [8, 9, 10, 42, 43, 44, 45, 46, 47, 48, 49, 50, 51, 52, 53, 54, 55, 56, 57, 58, 59, 60, 61, 62, 63, 64, 65, 66, 67, 68, 69, 70, 71, 72, 73, 74, 75, 76, 77, 78, 79, 80, 81, 82, 83, 84, 85, 86, 87, 88, 89, 90, 91, 92, 93, 94, 95, 96, 97] rfl (by decide +kernel)
set_option maxRecDepth 20000 in
theorem gX10_row_X10_refuses : GoodIn wsX10_row (wsV RX10 119 RX10 yX10_refuses wsX10_refuses) := goodIn_app (goodIn_of _ (by decide +kernel)) ggX10_row_X10_refuses
set_option maxRecDepth 20000 in
theorem ggX10_row_X10_size : GoodIn wsX10_row wsX10_size := goodIn_r _ [14, 15, 42, 43, 44, 45, 46, 47, 48, 49, 50, 51, 52, 53, 54, 55, 56, 57, 58, 59, 60, 61, 62, 63, 64, 65, 66, 67, 68, 69, 70, 71, 72, 73, 74, 75, 76, 77, 78, 79, 80, 81, 82, 83, 84, 85, 86, 87, 88, 89, 90, 91, 92, 93, 94, 95, 96, 97] rfl (by decide +kernel)
set_option maxRecDepth 20000 in
theorem gX10_row_X10_size : GoodIn wsX10_row (wsV RX10 125 RX10 yX10_size wsX10_size) := goodIn_app (goodIn_of _ (by decide +kernel)) ggX10_row_X10_size
set_option maxRecDepth 20000 in
theorem ggX10_row_X10_isRank : GoodIn wsX10_row wsX10_isRank := goodIn_r _ [18, 19, 20, 7, 21] rfl (by decide +kernel)
set_option maxRecDepth 20000 in
theorem gX10_row_X10_isRank : GoodIn wsX10_row (va_wsS RX10 129 yX10_isRank wsX10_isRank) := goodIn_app (goodIn_of _ (by decide +kernel)) ggX10_row_X10_isRank
set_option maxRecDepth 20000 in
theorem ggX10_row_X10_isBit : GoodIn wsX10_row wsX10_isBit := goodIn_r _ [24, 19, 20, 7, 21] rfl (by decide +kernel)
set_option maxRecDepth 20000 in
theorem gX10_row_X10_isBit : GoodIn wsX10_row (va_wsS RX10 133 yX10_isBit wsX10_isBit) := goodIn_app (goodIn_of _ (by decide +kernel)) ggX10_row_X10_isBit
set_option maxRecDepth 20000 in
theorem ggX10_row_X10_placeOf : GoodIn wsX10_row wsX10_placeOf := goodIn_r _ [28, 15, 11, 12, 13, 7, 14, 42, 43, 44, 45, 46, 47, 48, 49, 50, 51, 52, 53, 54, 55, 56, 57, 58, 59, 60, 61, 62, 63, 64, 65, 66, 67, 68, 69, 70, 71, 72, 73, 74, 75, 76, 77, 78, 79, 80, 81, 82, 83, 84, 85, 86, 87, 88, 89, 90, 91, 92, 93, 94, 95, 96, 97] rfl (by decide +kernel)
set_option maxRecDepth 20000 in
theorem gX10_row_X10_placeOf : GoodIn wsX10_row (wsV RX10 136 RX10 yX10_placeOf wsX10_placeOf) := goodIn_app (goodIn_of _ (by decide +kernel)) ggX10_row_X10_placeOf
set_option maxRecDepth 20000 in
theorem ggX10_row_X10_adds : GoodIn wsX10_row wsX10_adds := goodIn_r _ [32, 15, 11, 12, 13, 7, 14, 42, 43, 44, 45, 46, 47, 48, 49, 50, 51, 52, 53, 54, 55, 56, 57, 58, 59, 60, 61, 62, 63, 64, 65, 66, 67, 68, 69, 70, 71, 72, 73, 74, 75, 76, 77, 78, 79, 80, 81, 82, 83, 84, 85, 86, 87, 88, 89, 90, 91, 92, 93, 94, 95, 96, 97] rfl (by decide +kernel)
set_option maxRecDepth 20000 in
theorem gX10_row_X10_adds : GoodIn wsX10_row (wsV RX10 139 RX10 yX10_adds wsX10_adds) := goodIn_app (goodIn_of _ (by decide +kernel)) ggX10_row_X10_adds
set_option maxRecDepth 20000 in
theorem ggX10_row_X10_settled : GoodIn wsX10_row wsX10_settled := goodIn_r _ [36, 37, 38, 39, 40, 7, 41, 9, 42, 43, 44, 45, 46, 47, 48, 49, 50, 51, 52, 53, 54, 55, 56, 57, 58, 59, 60, 61, 62, 63, 64, 65, 66, 67, 68, 69, 70, 71, 72, 73, 74, 75, 76, 77, 78, 79, 80, 81, 82, 83, 84, 85, 86, 87, 88, 89, 90, 91, 92, 93, 94, 95, 96, 97] rfl (by decide +kernel)
set_option maxRecDepth 20000 in
theorem gX10_row_X10_settled : GoodIn wsX10_row (wsV RX10 122 RX10 yX10_settled wsX10_settled) := goodIn_app (goodIn_of _ (by decide +kernel)) ggX10_row_X10_settled
theorem da9_dX10_row_0 : (decode cX10_row 0 = .ok (.aload_n 0, 1)) ∧ (decode cX10_row 1 = .ok (.getfield 169, 3)) ∧ (decode cX10_row 4 = .ok (.istore_n 1, 1)) ∧ (decode cX10_row 5 = .ok (.aload_n 0, 1)) ∧ (decode cX10_row 6 = .ok (.iconst 0, 1)) ∧ (decode cX10_row 7 = .ok (.putfield 169, 3)) ∧ (decode cX10_row 10 = .ok (.iload_n 1, 1)) ∧ (decode cX10_row 11 = .ok (.ifCond .ne 10, 3)) ∧ (decode cX10_row 14 = .ok (.aload_n 0, 1)) ∧ (decode cX10_row 15 = .ok (.bipush (-6), 2)) ∧ (decode cX10_row 17 = .ok (.invokevirtual 119, 3)) ∧ (decode cX10_row 20 = .ok (.ireturn, 1)) ∧ (decode cX10_row 21 = .ok (.iconst 0, 1)) ∧ (decode cX10_row 22 = .ok (.istore_n 2, 1)) ∧ (decode cX10_row 23 = .ok (.aload_n 0, 1)) ∧ (decode cX10_row 24 = .ok (.iload_n 1, 1)) := by decide +kernel
theorem dX10_row_0 : decode cX10_row 0 = .ok (.aload_n 0, 1) := da9_dX10_row_0.1
theorem dX10_row_1 : decode cX10_row 1 = .ok (.getfield 169, 3) := da9_dX10_row_0.2.1
theorem dX10_row_4 : decode cX10_row 4 = .ok (.istore_n 1, 1) := da9_dX10_row_0.2.2.1
theorem dX10_row_5 : decode cX10_row 5 = .ok (.aload_n 0, 1) := da9_dX10_row_0.2.2.2.1
theorem dX10_row_6 : decode cX10_row 6 = .ok (.iconst 0, 1) := da9_dX10_row_0.2.2.2.2.1
theorem dX10_row_7 : decode cX10_row 7 = .ok (.putfield 169, 3) := da9_dX10_row_0.2.2.2.2.2.1
theorem dX10_row_10 : decode cX10_row 10 = .ok (.iload_n 1, 1) := da9_dX10_row_0.2.2.2.2.2.2.1
theorem dX10_row_11 : decode cX10_row 11 = .ok (.ifCond .ne 10, 3) := da9_dX10_row_0.2.2.2.2.2.2.2.1
theorem dX10_row_14 : decode cX10_row 14 = .ok (.aload_n 0, 1) := da9_dX10_row_0.2.2.2.2.2.2.2.2.1
theorem dX10_row_15 : decode cX10_row 15 = .ok (.bipush (-6), 2) := da9_dX10_row_0.2.2.2.2.2.2.2.2.2.1
theorem dX10_row_17 : decode cX10_row 17 = .ok (.invokevirtual 119, 3) := da9_dX10_row_0.2.2.2.2.2.2.2.2.2.2.1
theorem dX10_row_20 : decode cX10_row 20 = .ok (.ireturn, 1) := da9_dX10_row_0.2.2.2.2.2.2.2.2.2.2.2.1
theorem dX10_row_21 : decode cX10_row 21 = .ok (.iconst 0, 1) := da9_dX10_row_0.2.2.2.2.2.2.2.2.2.2.2.2.1
theorem dX10_row_22 : decode cX10_row 22 = .ok (.istore_n 2, 1) := da9_dX10_row_0.2.2.2.2.2.2.2.2.2.2.2.2.2.1
theorem dX10_row_23 : decode cX10_row 23 = .ok (.aload_n 0, 1) := da9_dX10_row_0.2.2.2.2.2.2.2.2.2.2.2.2.2.2.1
theorem dX10_row_24 : decode cX10_row 24 = .ok (.iload_n 1, 1) := da9_dX10_row_0.2.2.2.2.2.2.2.2.2.2.2.2.2.2.2
theorem da9_dX10_row_25 : (decode cX10_row 25 = .ok (.iconst 2, 1)) ∧ (decode cX10_row 26 = .ok (.irem, 1)) ∧ (decode cX10_row 27 = .ok (.putfield 172, 3)) ∧ (decode cX10_row 30 = .ok (.iconst 0, 1)) ∧ (decode cX10_row 31 = .ok (.istore_n 3, 1)) ∧ (decode cX10_row 32 = .ok (.iload_n 3, 1)) ∧ (decode cX10_row 33 = .ok (.iconst 2, 1)) ∧ (decode cX10_row 34 = .ok (.iadd, 1)) ∧ (decode cX10_row 35 = .ok (.iload_n 1, 1)) ∧ (decode cX10_row 36 = .ok (.if_icmp .gt 120, 3)) ∧ (decode cX10_row 39 = .ok (.aload_n 0, 1)) ∧ (decode cX10_row 40 = .ok (.invokevirtual 125, 3)) ∧ (decode cX10_row 43 = .ok (.bipush 6, 2)) ∧ (decode cX10_row 45 = .ok (.if_icmp .ge 47, 3)) ∧ (decode cX10_row 48 = .ok (.aload_n 0, 1)) ∧ (decode cX10_row 49 = .ok (.getfield 45, 3)) := by decide +kernel
theorem dX10_row_25 : decode cX10_row 25 = .ok (.iconst 2, 1) := da9_dX10_row_25.1
theorem dX10_row_26 : decode cX10_row 26 = .ok (.irem, 1) := da9_dX10_row_25.2.1
theorem dX10_row_27 : decode cX10_row 27 = .ok (.putfield 172, 3) := da9_dX10_row_25.2.2.1
theorem dX10_row_30 : decode cX10_row 30 = .ok (.iconst 0, 1) := da9_dX10_row_25.2.2.2.1
theorem dX10_row_31 : decode cX10_row 31 = .ok (.istore_n 3, 1) := da9_dX10_row_25.2.2.2.2.1
theorem dX10_row_32 : decode cX10_row 32 = .ok (.iload_n 3, 1) := da9_dX10_row_25.2.2.2.2.2.1
theorem dX10_row_33 : decode cX10_row 33 = .ok (.iconst 2, 1) := da9_dX10_row_25.2.2.2.2.2.2.1
theorem dX10_row_34 : decode cX10_row 34 = .ok (.iadd, 1) := da9_dX10_row_25.2.2.2.2.2.2.2.1
theorem dX10_row_35 : decode cX10_row 35 = .ok (.iload_n 1, 1) := da9_dX10_row_25.2.2.2.2.2.2.2.2.1
theorem dX10_row_36 : decode cX10_row 36 = .ok (.if_icmp .gt 120, 3) := da9_dX10_row_25.2.2.2.2.2.2.2.2.2.1
theorem dX10_row_39 : decode cX10_row 39 = .ok (.aload_n 0, 1) := da9_dX10_row_25.2.2.2.2.2.2.2.2.2.2.1
theorem dX10_row_40 : decode cX10_row 40 = .ok (.invokevirtual 125, 3) := da9_dX10_row_25.2.2.2.2.2.2.2.2.2.2.2.1
theorem dX10_row_43 : decode cX10_row 43 = .ok (.bipush 6, 2) := da9_dX10_row_25.2.2.2.2.2.2.2.2.2.2.2.2.1
theorem dX10_row_45 : decode cX10_row 45 = .ok (.if_icmp .ge 47, 3) := da9_dX10_row_25.2.2.2.2.2.2.2.2.2.2.2.2.2.1
theorem dX10_row_48 : decode cX10_row 48 = .ok (.aload_n 0, 1) := da9_dX10_row_25.2.2.2.2.2.2.2.2.2.2.2.2.2.2.1
theorem dX10_row_49 : decode cX10_row 49 = .ok (.getfield 45, 3) := da9_dX10_row_25.2.2.2.2.2.2.2.2.2.2.2.2.2.2.2
theorem da9_dX10_row_52 : (decode cX10_row 52 = .ok (.iload_n 3, 1)) ∧ (decode cX10_row 53 = .ok (.baload, 1)) ∧ (decode cX10_row 54 = .ok (.invokestatic 129, 3)) ∧ (decode cX10_row 57 = .ok (.ifCond .eq 35, 3)) ∧ (decode cX10_row 60 = .ok (.aload_n 0, 1)) ∧ (decode cX10_row 61 = .ok (.getfield 45, 3)) ∧ (decode cX10_row 64 = .ok (.iload_n 3, 1)) ∧ (decode cX10_row 65 = .ok (.iconst 1, 1)) ∧ (decode cX10_row 66 = .ok (.iadd, 1)) ∧ (decode cX10_row 67 = .ok (.baload, 1)) ∧ (decode cX10_row 68 = .ok (.invokestatic 133, 3)) ∧ (decode cX10_row 71 = .ok (.ifCond .eq 21, 3)) ∧ (decode cX10_row 74 = .ok (.aload_n 0, 1)) ∧ (decode cX10_row 75 = .ok (.aload_n 0, 1)) ∧ (decode cX10_row 76 = .ok (.getfield 45, 3)) ∧ (decode cX10_row 79 = .ok (.iload_n 3, 1)) := by decide +kernel
theorem dX10_row_52 : decode cX10_row 52 = .ok (.iload_n 3, 1) := da9_dX10_row_52.1
theorem dX10_row_53 : decode cX10_row 53 = .ok (.baload, 1) := da9_dX10_row_52.2.1
theorem dX10_row_54 : decode cX10_row 54 = .ok (.invokestatic 129, 3) := da9_dX10_row_52.2.2.1
theorem dX10_row_57 : decode cX10_row 57 = .ok (.ifCond .eq 35, 3) := da9_dX10_row_52.2.2.2.1
theorem dX10_row_60 : decode cX10_row 60 = .ok (.aload_n 0, 1) := da9_dX10_row_52.2.2.2.2.1
theorem dX10_row_61 : decode cX10_row 61 = .ok (.getfield 45, 3) := da9_dX10_row_52.2.2.2.2.2.1
theorem dX10_row_64 : decode cX10_row 64 = .ok (.iload_n 3, 1) := da9_dX10_row_52.2.2.2.2.2.2.1
theorem dX10_row_65 : decode cX10_row 65 = .ok (.iconst 1, 1) := da9_dX10_row_52.2.2.2.2.2.2.2.1
theorem dX10_row_66 : decode cX10_row 66 = .ok (.iadd, 1) := da9_dX10_row_52.2.2.2.2.2.2.2.2.1
theorem dX10_row_67 : decode cX10_row 67 = .ok (.baload, 1) := da9_dX10_row_52.2.2.2.2.2.2.2.2.2.1
theorem dX10_row_68 : decode cX10_row 68 = .ok (.invokestatic 133, 3) := da9_dX10_row_52.2.2.2.2.2.2.2.2.2.2.1
theorem dX10_row_71 : decode cX10_row 71 = .ok (.ifCond .eq 21, 3) := da9_dX10_row_52.2.2.2.2.2.2.2.2.2.2.2.1
theorem dX10_row_74 : decode cX10_row 74 = .ok (.aload_n 0, 1) := da9_dX10_row_52.2.2.2.2.2.2.2.2.2.2.2.2.1
theorem dX10_row_75 : decode cX10_row 75 = .ok (.aload_n 0, 1) := da9_dX10_row_52.2.2.2.2.2.2.2.2.2.2.2.2.2.1
theorem dX10_row_76 : decode cX10_row 76 = .ok (.getfield 45, 3) := da9_dX10_row_52.2.2.2.2.2.2.2.2.2.2.2.2.2.2.1
theorem dX10_row_79 : decode cX10_row 79 = .ok (.iload_n 3, 1) := da9_dX10_row_52.2.2.2.2.2.2.2.2.2.2.2.2.2.2.2
theorem da9_dX10_row_80 : (decode cX10_row 80 = .ok (.baload, 1)) ∧ (decode cX10_row 81 = .ok (.invokevirtual 136, 3)) ∧ (decode cX10_row 84 = .ok (.iconst (-1), 1)) ∧ (decode cX10_row 85 = .ok (.if_icmp .ne 7, 3)) ∧ (decode cX10_row 88 = .ok (.iconst 1, 1)) ∧ (decode cX10_row 89 = .ok (.goto 4, 3)) ∧ (decode cX10_row 92 = .ok (.iconst 0, 1)) ∧ (decode cX10_row 93 = .ok (.istore 4, 2)) ∧ (decode cX10_row 95 = .ok (.iload 4, 2)) ∧ (decode cX10_row 97 = .ok (.ifCond .eq 21, 3)) ∧ (decode cX10_row 100 = .ok (.aload_n 0, 1)) ∧ (decode cX10_row 101 = .ok (.aload_n 0, 1)) ∧ (decode cX10_row 102 = .ok (.getfield 45, 3)) ∧ (decode cX10_row 105 = .ok (.iload_n 3, 1)) ∧ (decode cX10_row 106 = .ok (.baload, 1)) ∧ (decode cX10_row 107 = .ok (.aload_n 0, 1)) := by decide +kernel
theorem dX10_row_80 : decode cX10_row 80 = .ok (.baload, 1) := da9_dX10_row_80.1
theorem dX10_row_81 : decode cX10_row 81 = .ok (.invokevirtual 136, 3) := da9_dX10_row_80.2.1
theorem dX10_row_84 : decode cX10_row 84 = .ok (.iconst (-1), 1) := da9_dX10_row_80.2.2.1
theorem dX10_row_85 : decode cX10_row 85 = .ok (.if_icmp .ne 7, 3) := da9_dX10_row_80.2.2.2.1
theorem dX10_row_88 : decode cX10_row 88 = .ok (.iconst 1, 1) := da9_dX10_row_80.2.2.2.2.1
theorem dX10_row_89 : decode cX10_row 89 = .ok (.goto 4, 3) := da9_dX10_row_80.2.2.2.2.2.1
theorem dX10_row_92 : decode cX10_row 92 = .ok (.iconst 0, 1) := da9_dX10_row_80.2.2.2.2.2.2.1
theorem dX10_row_93 : decode cX10_row 93 = .ok (.istore 4, 2) := da9_dX10_row_80.2.2.2.2.2.2.2.1
theorem dX10_row_95 : decode cX10_row 95 = .ok (.iload 4, 2) := da9_dX10_row_80.2.2.2.2.2.2.2.2.1
theorem dX10_row_97 : decode cX10_row 97 = .ok (.ifCond .eq 21, 3) := da9_dX10_row_80.2.2.2.2.2.2.2.2.2.1
theorem dX10_row_100 : decode cX10_row 100 = .ok (.aload_n 0, 1) := da9_dX10_row_80.2.2.2.2.2.2.2.2.2.2.1
theorem dX10_row_101 : decode cX10_row 101 = .ok (.aload_n 0, 1) := da9_dX10_row_80.2.2.2.2.2.2.2.2.2.2.2.1
theorem dX10_row_102 : decode cX10_row 102 = .ok (.getfield 45, 3) := da9_dX10_row_80.2.2.2.2.2.2.2.2.2.2.2.2.1
theorem dX10_row_105 : decode cX10_row 105 = .ok (.iload_n 3, 1) := da9_dX10_row_80.2.2.2.2.2.2.2.2.2.2.2.2.2.1
theorem dX10_row_106 : decode cX10_row 106 = .ok (.baload, 1) := da9_dX10_row_80.2.2.2.2.2.2.2.2.2.2.2.2.2.2.1
theorem dX10_row_107 : decode cX10_row 107 = .ok (.aload_n 0, 1) := da9_dX10_row_80.2.2.2.2.2.2.2.2.2.2.2.2.2.2.2
theorem da9_dX10_row_108 : (decode cX10_row 108 = .ok (.getfield 45, 3)) ∧ (decode cX10_row 111 = .ok (.iload_n 3, 1)) ∧ (decode cX10_row 112 = .ok (.iconst 1, 1)) ∧ (decode cX10_row 113 = .ok (.iadd, 1)) ∧ (decode cX10_row 114 = .ok (.baload, 1)) ∧ (decode cX10_row 115 = .ok (.invokevirtual 139, 3)) ∧ (decode cX10_row 118 = .ok (.iload_n 2, 1)) ∧ (decode cX10_row 119 = .ok (.iload 4, 2)) ∧ (decode cX10_row 121 = .ok (.ifCond .eq 7, 3)) ∧ (decode cX10_row 124 = .ok (.iconst 1, 1)) ∧ (decode cX10_row 125 = .ok (.goto 4, 3)) ∧ (decode cX10_row 128 = .ok (.iconst 0, 1)) ∧ (decode cX10_row 129 = .ok (.iadd, 1)) ∧ (decode cX10_row 130 = .ok (.istore_n 2, 1)) ∧ (decode cX10_row 131 = .ok (.aload_n 0, 1)) ∧ (decode cX10_row 132 = .ok (.dup, 1)) := by decide +kernel
theorem dX10_row_108 : decode cX10_row 108 = .ok (.getfield 45, 3) := da9_dX10_row_108.1
theorem dX10_row_111 : decode cX10_row 111 = .ok (.iload_n 3, 1) := da9_dX10_row_108.2.1
theorem dX10_row_112 : decode cX10_row 112 = .ok (.iconst 1, 1) := da9_dX10_row_108.2.2.1
theorem dX10_row_113 : decode cX10_row 113 = .ok (.iadd, 1) := da9_dX10_row_108.2.2.2.1
theorem dX10_row_114 : decode cX10_row 114 = .ok (.baload, 1) := da9_dX10_row_108.2.2.2.2.1
theorem dX10_row_115 : decode cX10_row 115 = .ok (.invokevirtual 139, 3) := da9_dX10_row_108.2.2.2.2.2.1
theorem dX10_row_118 : decode cX10_row 118 = .ok (.iload_n 2, 1) := da9_dX10_row_108.2.2.2.2.2.2.1
theorem dX10_row_119 : decode cX10_row 119 = .ok (.iload 4, 2) := da9_dX10_row_108.2.2.2.2.2.2.2.1
theorem dX10_row_121 : decode cX10_row 121 = .ok (.ifCond .eq 7, 3) := da9_dX10_row_108.2.2.2.2.2.2.2.2.1
theorem dX10_row_124 : decode cX10_row 124 = .ok (.iconst 1, 1) := da9_dX10_row_108.2.2.2.2.2.2.2.2.2.1
theorem dX10_row_125 : decode cX10_row 125 = .ok (.goto 4, 3) := da9_dX10_row_108.2.2.2.2.2.2.2.2.2.2.1
theorem dX10_row_128 : decode cX10_row 128 = .ok (.iconst 0, 1) := da9_dX10_row_108.2.2.2.2.2.2.2.2.2.2.2.1
theorem dX10_row_129 : decode cX10_row 129 = .ok (.iadd, 1) := da9_dX10_row_108.2.2.2.2.2.2.2.2.2.2.2.2.1
theorem dX10_row_130 : decode cX10_row 130 = .ok (.istore_n 2, 1) := da9_dX10_row_108.2.2.2.2.2.2.2.2.2.2.2.2.2.1
theorem dX10_row_131 : decode cX10_row 131 = .ok (.aload_n 0, 1) := da9_dX10_row_108.2.2.2.2.2.2.2.2.2.2.2.2.2.2.1
theorem dX10_row_132 : decode cX10_row 132 = .ok (.dup, 1) := da9_dX10_row_108.2.2.2.2.2.2.2.2.2.2.2.2.2.2.2
theorem da9_dX10_row_133 : (decode cX10_row 133 = .ok (.getfield 172, 3)) ∧ (decode cX10_row 136 = .ok (.iload 4, 2)) ∧ (decode cX10_row 138 = .ok (.ifCond .eq 7, 3)) ∧ (decode cX10_row 141 = .ok (.iconst 0, 1)) ∧ (decode cX10_row 142 = .ok (.goto 4, 3)) ∧ (decode cX10_row 145 = .ok (.iconst 1, 1)) ∧ (decode cX10_row 146 = .ok (.iadd, 1)) ∧ (decode cX10_row 147 = .ok (.putfield 172, 3)) ∧ (decode cX10_row 150 = .ok (.iinc 3 2, 3)) ∧ (decode cX10_row 153 = .ok (.goto (-121), 3)) ∧ (decode cX10_row 156 = .ok (.aload_n 0, 1)) ∧ (decode cX10_row 157 = .ok (.iload_n 2, 1)) ∧ (decode cX10_row 158 = .ok (.invokevirtual 122, 3)) ∧ (decode cX10_row 161 = .ok (.ireturn, 1)) := by decide +kernel
theorem dX10_row_133 : decode cX10_row 133 = .ok (.getfield 172, 3) := da9_dX10_row_133.1
theorem dX10_row_136 : decode cX10_row 136 = .ok (.iload 4, 2) := da9_dX10_row_133.2.1
theorem dX10_row_138 : decode cX10_row 138 = .ok (.ifCond .eq 7, 3) := da9_dX10_row_133.2.2.1
theorem dX10_row_141 : decode cX10_row 141 = .ok (.iconst 0, 1) := da9_dX10_row_133.2.2.2.1
theorem dX10_row_142 : decode cX10_row 142 = .ok (.goto 4, 3) := da9_dX10_row_133.2.2.2.2.1
theorem dX10_row_145 : decode cX10_row 145 = .ok (.iconst 1, 1) := da9_dX10_row_133.2.2.2.2.2.1
theorem dX10_row_146 : decode cX10_row 146 = .ok (.iadd, 1) := da9_dX10_row_133.2.2.2.2.2.2.1
theorem dX10_row_147 : decode cX10_row 147 = .ok (.putfield 172, 3) := da9_dX10_row_133.2.2.2.2.2.2.2.1
theorem dX10_row_150 : decode cX10_row 150 = .ok (.iinc 3 2, 3) := da9_dX10_row_133.2.2.2.2.2.2.2.2.1
theorem dX10_row_153 : decode cX10_row 153 = .ok (.goto (-121), 3) := da9_dX10_row_133.2.2.2.2.2.2.2.2.2.1
theorem dX10_row_156 : decode cX10_row 156 = .ok (.aload_n 0, 1) := da9_dX10_row_133.2.2.2.2.2.2.2.2.2.2.1
theorem dX10_row_157 : decode cX10_row 157 = .ok (.iload_n 2, 1) := da9_dX10_row_133.2.2.2.2.2.2.2.2.2.2.2.1
theorem dX10_row_158 : decode cX10_row 158 = .ok (.invokevirtual 122, 3) := da9_dX10_row_133.2.2.2.2.2.2.2.2.2.2.2.2.1
theorem dX10_row_161 : decode cX10_row 161 = .ok (.ireturn, 1) := da9_dX10_row_133.2.2.2.2.2.2.2.2.2.2.2.2.2
theorem da9_dX10_bricks_0 : (decode cX10_bricks 0 = .ok (.aload_n 0, 1)) ∧ (decode cX10_bricks 1 = .ok (.getfield 172, 3)) ∧ (decode cX10_bricks 4 = .ok (.ireturn, 1)) := by decide +kernel
theorem dX10_bricks_0 : decode cX10_bricks 0 = .ok (.aload_n 0, 1) := da9_dX10_bricks_0.1
theorem dX10_bricks_1 : decode cX10_bricks 1 = .ok (.getfield 172, 3) := da9_dX10_bricks_0.2.1
theorem dX10_bricks_4 : decode cX10_bricks 4 = .ok (.ireturn, 1) := da9_dX10_bricks_0.2.2
theorem da9_dX10_feed_0 : (decode cX10_feed 0 = .ok (.aload_n 0, 1)) ∧ (decode cX10_feed 1 = .ok (.getfield 169, 3)) ∧ (decode cX10_feed 4 = .ok (.bipush 20, 2)) ∧ (decode cX10_feed 6 = .ok (.iadd, 1)) ∧ (decode cX10_feed 7 = .ok (.sipush 400, 3)) ∧ (decode cX10_feed 10 = .ok (.if_icmp .le 5, 3)) ∧ (decode cX10_feed 13 = .ok (.iconst (-1), 1)) ∧ (decode cX10_feed 14 = .ok (.ireturn, 1)) ∧ (decode cX10_feed 15 = .ok (.aload_n 0, 1)) ∧ (decode cX10_feed 16 = .ok (.getfield 48, 3)) ∧ (decode cX10_feed 19 = .ok (.iconst 0, 1)) ∧ (decode cX10_feed 20 = .ok (.iload_n 1, 1)) ∧ (decode cX10_feed 21 = .ok (.iastore, 1)) ∧ (decode cX10_feed 22 = .ok (.aload_n 0, 1)) ∧ (decode cX10_feed 23 = .ok (.getfield 48, 3)) ∧ (decode cX10_feed 26 = .ok (.iconst 1, 1)) := by decide +kernel
theorem dX10_feed_0 : decode cX10_feed 0 = .ok (.aload_n 0, 1) := da9_dX10_feed_0.1
theorem dX10_feed_1 : decode cX10_feed 1 = .ok (.getfield 169, 3) := da9_dX10_feed_0.2.1
theorem dX10_feed_4 : decode cX10_feed 4 = .ok (.bipush 20, 2) := da9_dX10_feed_0.2.2.1
theorem dX10_feed_6 : decode cX10_feed 6 = .ok (.iadd, 1) := da9_dX10_feed_0.2.2.2.1
theorem dX10_feed_7 : decode cX10_feed 7 = .ok (.sipush 400, 3) := da9_dX10_feed_0.2.2.2.2.1
theorem dX10_feed_10 : decode cX10_feed 10 = .ok (.if_icmp .le 5, 3) := da9_dX10_feed_0.2.2.2.2.2.1
theorem dX10_feed_13 : decode cX10_feed 13 = .ok (.iconst (-1), 1) := da9_dX10_feed_0.2.2.2.2.2.2.1
theorem dX10_feed_14 : decode cX10_feed 14 = .ok (.ireturn, 1) := da9_dX10_feed_0.2.2.2.2.2.2.2.1
theorem dX10_feed_15 : decode cX10_feed 15 = .ok (.aload_n 0, 1) := da9_dX10_feed_0.2.2.2.2.2.2.2.2.1
theorem dX10_feed_16 : decode cX10_feed 16 = .ok (.getfield 48, 3) := da9_dX10_feed_0.2.2.2.2.2.2.2.2.2.1
theorem dX10_feed_19 : decode cX10_feed 19 = .ok (.iconst 0, 1) := da9_dX10_feed_0.2.2.2.2.2.2.2.2.2.2.1
theorem dX10_feed_20 : decode cX10_feed 20 = .ok (.iload_n 1, 1) := da9_dX10_feed_0.2.2.2.2.2.2.2.2.2.2.2.1
theorem dX10_feed_21 : decode cX10_feed 21 = .ok (.iastore, 1) := da9_dX10_feed_0.2.2.2.2.2.2.2.2.2.2.2.2.1
theorem dX10_feed_22 : decode cX10_feed 22 = .ok (.aload_n 0, 1) := da9_dX10_feed_0.2.2.2.2.2.2.2.2.2.2.2.2.2.1
theorem dX10_feed_23 : decode cX10_feed 23 = .ok (.getfield 48, 3) := da9_dX10_feed_0.2.2.2.2.2.2.2.2.2.2.2.2.2.2.1
theorem dX10_feed_26 : decode cX10_feed 26 = .ok (.iconst 1, 1) := da9_dX10_feed_0.2.2.2.2.2.2.2.2.2.2.2.2.2.2.2
theorem da9_dX10_feed_27 : (decode cX10_feed 27 = .ok (.iload_n 2, 1)) ∧ (decode cX10_feed 28 = .ok (.iastore, 1)) ∧ (decode cX10_feed 29 = .ok (.aload_n 0, 1)) ∧ (decode cX10_feed 30 = .ok (.getfield 48, 3)) ∧ (decode cX10_feed 33 = .ok (.iconst 2, 1)) ∧ (decode cX10_feed 34 = .ok (.iload_n 3, 1)) ∧ (decode cX10_feed 35 = .ok (.iastore, 1)) ∧ (decode cX10_feed 36 = .ok (.aload_n 0, 1)) ∧ (decode cX10_feed 37 = .ok (.getfield 48, 3)) ∧ (decode cX10_feed 40 = .ok (.iconst 3, 1)) ∧ (decode cX10_feed 41 = .ok (.iload 4, 2)) ∧ (decode cX10_feed 43 = .ok (.iastore, 1)) ∧ (decode cX10_feed 44 = .ok (.aload_n 0, 1)) ∧ (decode cX10_feed 45 = .ok (.getfield 48, 3)) ∧ (decode cX10_feed 48 = .ok (.iconst 4, 1)) ∧ (decode cX10_feed 49 = .ok (.iload 5, 2)) := by decide +kernel
theorem dX10_feed_27 : decode cX10_feed 27 = .ok (.iload_n 2, 1) := da9_dX10_feed_27.1
theorem dX10_feed_28 : decode cX10_feed 28 = .ok (.iastore, 1) := da9_dX10_feed_27.2.1
theorem dX10_feed_29 : decode cX10_feed 29 = .ok (.aload_n 0, 1) := da9_dX10_feed_27.2.2.1
theorem dX10_feed_30 : decode cX10_feed 30 = .ok (.getfield 48, 3) := da9_dX10_feed_27.2.2.2.1
theorem dX10_feed_33 : decode cX10_feed 33 = .ok (.iconst 2, 1) := da9_dX10_feed_27.2.2.2.2.1
theorem dX10_feed_34 : decode cX10_feed 34 = .ok (.iload_n 3, 1) := da9_dX10_feed_27.2.2.2.2.2.1
theorem dX10_feed_35 : decode cX10_feed 35 = .ok (.iastore, 1) := da9_dX10_feed_27.2.2.2.2.2.2.1
theorem dX10_feed_36 : decode cX10_feed 36 = .ok (.aload_n 0, 1) := da9_dX10_feed_27.2.2.2.2.2.2.2.1
theorem dX10_feed_37 : decode cX10_feed 37 = .ok (.getfield 48, 3) := da9_dX10_feed_27.2.2.2.2.2.2.2.2.1
theorem dX10_feed_40 : decode cX10_feed 40 = .ok (.iconst 3, 1) := da9_dX10_feed_27.2.2.2.2.2.2.2.2.2.1
theorem dX10_feed_41 : decode cX10_feed 41 = .ok (.iload 4, 2) := da9_dX10_feed_27.2.2.2.2.2.2.2.2.2.2.1
theorem dX10_feed_43 : decode cX10_feed 43 = .ok (.iastore, 1) := da9_dX10_feed_27.2.2.2.2.2.2.2.2.2.2.2.1
theorem dX10_feed_44 : decode cX10_feed 44 = .ok (.aload_n 0, 1) := da9_dX10_feed_27.2.2.2.2.2.2.2.2.2.2.2.2.1
theorem dX10_feed_45 : decode cX10_feed 45 = .ok (.getfield 48, 3) := da9_dX10_feed_27.2.2.2.2.2.2.2.2.2.2.2.2.2.1
theorem dX10_feed_48 : decode cX10_feed 48 = .ok (.iconst 4, 1) := da9_dX10_feed_27.2.2.2.2.2.2.2.2.2.2.2.2.2.2.1
theorem dX10_feed_49 : decode cX10_feed 49 = .ok (.iload 5, 2) := da9_dX10_feed_27.2.2.2.2.2.2.2.2.2.2.2.2.2.2.2
theorem da9_dX10_feed_51 : (decode cX10_feed 51 = .ok (.iastore, 1)) ∧ (decode cX10_feed 52 = .ok (.iconst 0, 1)) ∧ (decode cX10_feed 53 = .ok (.istore 6, 2)) ∧ (decode cX10_feed 55 = .ok (.iload 6, 2)) ∧ (decode cX10_feed 57 = .ok (.bipush 20, 2)) ∧ (decode cX10_feed 59 = .ok (.if_icmp .ge 42, 3)) ∧ (decode cX10_feed 62 = .ok (.aload_n 0, 1)) ∧ (decode cX10_feed 63 = .ok (.getfield 45, 3)) ∧ (decode cX10_feed 66 = .ok (.aload_n 0, 1)) ∧ (decode cX10_feed 67 = .ok (.getfield 169, 3)) ∧ (decode cX10_feed 70 = .ok (.iload 6, 2)) ∧ (decode cX10_feed 72 = .ok (.iadd, 1)) ∧ (decode cX10_feed 73 = .ok (.aload_n 0, 1)) ∧ (decode cX10_feed 74 = .ok (.getfield 48, 3)) ∧ (decode cX10_feed 77 = .ok (.iload 6, 2)) ∧ (decode cX10_feed 79 = .ok (.iconst 4, 1)) := by decide +kernel
theorem dX10_feed_51 : decode cX10_feed 51 = .ok (.iastore, 1) := da9_dX10_feed_51.1
theorem dX10_feed_52 : decode cX10_feed 52 = .ok (.iconst 0, 1) := da9_dX10_feed_51.2.1
theorem dX10_feed_53 : decode cX10_feed 53 = .ok (.istore 6, 2) := da9_dX10_feed_51.2.2.1
theorem dX10_feed_55 : decode cX10_feed 55 = .ok (.iload 6, 2) := da9_dX10_feed_51.2.2.2.1
theorem dX10_feed_57 : decode cX10_feed 57 = .ok (.bipush 20, 2) := da9_dX10_feed_51.2.2.2.2.1
theorem dX10_feed_59 : decode cX10_feed 59 = .ok (.if_icmp .ge 42, 3) := da9_dX10_feed_51.2.2.2.2.2.1
theorem dX10_feed_62 : decode cX10_feed 62 = .ok (.aload_n 0, 1) := da9_dX10_feed_51.2.2.2.2.2.2.1
theorem dX10_feed_63 : decode cX10_feed 63 = .ok (.getfield 45, 3) := da9_dX10_feed_51.2.2.2.2.2.2.2.1
theorem dX10_feed_66 : decode cX10_feed 66 = .ok (.aload_n 0, 1) := da9_dX10_feed_51.2.2.2.2.2.2.2.2.1
theorem dX10_feed_67 : decode cX10_feed 67 = .ok (.getfield 169, 3) := da9_dX10_feed_51.2.2.2.2.2.2.2.2.2.1
theorem dX10_feed_70 : decode cX10_feed 70 = .ok (.iload 6, 2) := da9_dX10_feed_51.2.2.2.2.2.2.2.2.2.2.1
theorem dX10_feed_72 : decode cX10_feed 72 = .ok (.iadd, 1) := da9_dX10_feed_51.2.2.2.2.2.2.2.2.2.2.2.1
theorem dX10_feed_73 : decode cX10_feed 73 = .ok (.aload_n 0, 1) := da9_dX10_feed_51.2.2.2.2.2.2.2.2.2.2.2.2.1
theorem dX10_feed_74 : decode cX10_feed 74 = .ok (.getfield 48, 3) := da9_dX10_feed_51.2.2.2.2.2.2.2.2.2.2.2.2.2.1
theorem dX10_feed_77 : decode cX10_feed 77 = .ok (.iload 6, 2) := da9_dX10_feed_51.2.2.2.2.2.2.2.2.2.2.2.2.2.2.1
theorem dX10_feed_79 : decode cX10_feed 79 = .ok (.iconst 4, 1) := da9_dX10_feed_51.2.2.2.2.2.2.2.2.2.2.2.2.2.2.2
theorem da9_dX10_feed_80 : (decode cX10_feed 80 = .ok (.idiv, 1)) ∧ (decode cX10_feed 81 = .ok (.iaload, 1)) ∧ (decode cX10_feed 82 = .ok (.bipush 24, 2)) ∧ (decode cX10_feed 84 = .ok (.bipush 8, 2)) ∧ (decode cX10_feed 86 = .ok (.iload 6, 2)) ∧ (decode cX10_feed 88 = .ok (.iconst 4, 1)) ∧ (decode cX10_feed 89 = .ok (.irem, 1)) ∧ (decode cX10_feed 90 = .ok (.imul, 1)) ∧ (decode cX10_feed 91 = .ok (.isub, 1)) ∧ (decode cX10_feed 92 = .ok (.ishr, 1)) ∧ (decode cX10_feed 93 = .ok (.i2b, 1)) ∧ (decode cX10_feed 94 = .ok (.bastore, 1)) ∧ (decode cX10_feed 95 = .ok (.iinc 6 1, 3)) ∧ (decode cX10_feed 98 = .ok (.goto (-43), 3)) ∧ (decode cX10_feed 101 = .ok (.aload_n 0, 1)) ∧ (decode cX10_feed 102 = .ok (.dup, 1)) := by decide +kernel
theorem dX10_feed_80 : decode cX10_feed 80 = .ok (.idiv, 1) := da9_dX10_feed_80.1
theorem dX10_feed_81 : decode cX10_feed 81 = .ok (.iaload, 1) := da9_dX10_feed_80.2.1
theorem dX10_feed_82 : decode cX10_feed 82 = .ok (.bipush 24, 2) := da9_dX10_feed_80.2.2.1
theorem dX10_feed_84 : decode cX10_feed 84 = .ok (.bipush 8, 2) := da9_dX10_feed_80.2.2.2.1
theorem dX10_feed_86 : decode cX10_feed 86 = .ok (.iload 6, 2) := da9_dX10_feed_80.2.2.2.2.1
theorem dX10_feed_88 : decode cX10_feed 88 = .ok (.iconst 4, 1) := da9_dX10_feed_80.2.2.2.2.2.1
theorem dX10_feed_89 : decode cX10_feed 89 = .ok (.irem, 1) := da9_dX10_feed_80.2.2.2.2.2.2.1
theorem dX10_feed_90 : decode cX10_feed 90 = .ok (.imul, 1) := da9_dX10_feed_80.2.2.2.2.2.2.2.1
theorem dX10_feed_91 : decode cX10_feed 91 = .ok (.isub, 1) := da9_dX10_feed_80.2.2.2.2.2.2.2.2.1
theorem dX10_feed_92 : decode cX10_feed 92 = .ok (.ishr, 1) := da9_dX10_feed_80.2.2.2.2.2.2.2.2.2.1
theorem dX10_feed_93 : decode cX10_feed 93 = .ok (.i2b, 1) := da9_dX10_feed_80.2.2.2.2.2.2.2.2.2.2.1
theorem dX10_feed_94 : decode cX10_feed 94 = .ok (.bastore, 1) := da9_dX10_feed_80.2.2.2.2.2.2.2.2.2.2.2.1
theorem dX10_feed_95 : decode cX10_feed 95 = .ok (.iinc 6 1, 3) := da9_dX10_feed_80.2.2.2.2.2.2.2.2.2.2.2.2.1
theorem dX10_feed_98 : decode cX10_feed 98 = .ok (.goto (-43), 3) := da9_dX10_feed_80.2.2.2.2.2.2.2.2.2.2.2.2.2.1
theorem dX10_feed_101 : decode cX10_feed 101 = .ok (.aload_n 0, 1) := da9_dX10_feed_80.2.2.2.2.2.2.2.2.2.2.2.2.2.2.1
theorem dX10_feed_102 : decode cX10_feed 102 = .ok (.dup, 1) := da9_dX10_feed_80.2.2.2.2.2.2.2.2.2.2.2.2.2.2.2
theorem da9_dX10_feed_103 : (decode cX10_feed 103 = .ok (.getfield 169, 3)) ∧ (decode cX10_feed 106 = .ok (.bipush 20, 2)) ∧ (decode cX10_feed 108 = .ok (.iadd, 1)) ∧ (decode cX10_feed 109 = .ok (.putfield 169, 3)) ∧ (decode cX10_feed 112 = .ok (.aload_n 0, 1)) ∧ (decode cX10_feed 113 = .ok (.getfield 169, 3)) ∧ (decode cX10_feed 116 = .ok (.ireturn, 1)) := by decide +kernel
theorem dX10_feed_103 : decode cX10_feed 103 = .ok (.getfield 169, 3) := da9_dX10_feed_103.1
theorem dX10_feed_106 : decode cX10_feed 106 = .ok (.bipush 20, 2) := da9_dX10_feed_103.2.1
theorem dX10_feed_108 : decode cX10_feed 108 = .ok (.iadd, 1) := da9_dX10_feed_103.2.2.1
theorem dX10_feed_109 : decode cX10_feed 109 = .ok (.putfield 169, 3) := da9_dX10_feed_103.2.2.2.1
theorem dX10_feed_112 : decode cX10_feed 112 = .ok (.aload_n 0, 1) := da9_dX10_feed_103.2.2.2.2.1
theorem dX10_feed_113 : decode cX10_feed 113 = .ok (.getfield 169, 3) := da9_dX10_feed_103.2.2.2.2.2.1
theorem dX10_feed_116 : decode cX10_feed 116 = .ok (.ireturn, 1) := da9_dX10_feed_103.2.2.2.2.2.2
set_option maxRecDepth 20000 in
theorem ggX10_end_X10_lies : GoodIn wsX10_end wsX10_lies := goodIn_r _ [5] rfl (by decide +kernel)
set_option maxRecDepth 20000 in
theorem gX10_end_X10_lies : GoodIn wsX10_end (va_wsS RX10 18 yX10_lies wsX10_lies) := goodIn_app (goodIn_of _ (by decide +kernel)) ggX10_end_X10_lies
theorem da9_dX10_end_0 : (decode cX10_end 0 = .ok (.iload_n 1, 1)) ∧ (decode cX10_end 1 = .ok (.iconst 0, 1)) ∧ (decode cX10_end 2 = .ok (.aload_n 0, 1)) ∧ (decode cX10_end 3 = .ok (.getfield 169, 3)) ∧ (decode cX10_end 6 = .ok (.invokestatic 18, 3)) ∧ (decode cX10_end 9 = .ok (.ifCond .ne 5, 3)) ∧ (decode cX10_end 12 = .ok (.iconst (-1), 1)) ∧ (decode cX10_end 13 = .ok (.ireturn, 1)) ∧ (decode cX10_end 14 = .ok (.aload_n 0, 1)) ∧ (decode cX10_end 15 = .ok (.iload_n 1, 1)) ∧ (decode cX10_end 16 = .ok (.putfield 169, 3)) ∧ (decode cX10_end 19 = .ok (.iload_n 1, 1)) ∧ (decode cX10_end 20 = .ok (.ireturn, 1)) := by decide +kernel
theorem dX10_end_0 : decode cX10_end 0 = .ok (.iload_n 1, 1) := da9_dX10_end_0.1
theorem dX10_end_1 : decode cX10_end 1 = .ok (.iconst 0, 1) := da9_dX10_end_0.2.1
theorem dX10_end_2 : decode cX10_end 2 = .ok (.aload_n 0, 1) := da9_dX10_end_0.2.2.1
theorem dX10_end_3 : decode cX10_end 3 = .ok (.getfield 169, 3) := da9_dX10_end_0.2.2.2.1
theorem dX10_end_6 : decode cX10_end 6 = .ok (.invokestatic 18, 3) := da9_dX10_end_0.2.2.2.2.1
theorem dX10_end_9 : decode cX10_end 9 = .ok (.ifCond .ne 5, 3) := da9_dX10_end_0.2.2.2.2.2.1
theorem dX10_end_12 : decode cX10_end 12 = .ok (.iconst (-1), 1) := da9_dX10_end_0.2.2.2.2.2.2.1
theorem dX10_end_13 : decode cX10_end 13 = .ok (.ireturn, 1) := da9_dX10_end_0.2.2.2.2.2.2.2.1
theorem dX10_end_14 : decode cX10_end 14 = .ok (.aload_n 0, 1) := da9_dX10_end_0.2.2.2.2.2.2.2.2.1
theorem dX10_end_15 : decode cX10_end 15 = .ok (.iload_n 1, 1) := da9_dX10_end_0.2.2.2.2.2.2.2.2.2.1
theorem dX10_end_16 : decode cX10_end 16 = .ok (.putfield 169, 3) := da9_dX10_end_0.2.2.2.2.2.2.2.2.2.2.1
theorem dX10_end_19 : decode cX10_end 19 = .ok (.iload_n 1, 1) := da9_dX10_end_0.2.2.2.2.2.2.2.2.2.2.2.1
theorem dX10_end_20 : decode cX10_end 20 = .ok (.ireturn, 1) := da9_dX10_end_0.2.2.2.2.2.2.2.2.2.2.2.2
theorem da9_dX10_isSmall_0 : (decode cX10_isSmall 0 = .ok (.iload_n 0, 1)) ∧ (decode cX10_isSmall 1 = .ok (.bipush 97, 2)) ∧ (decode cX10_isSmall 3 = .ok (.if_icmp .lt 13, 3)) ∧ (decode cX10_isSmall 6 = .ok (.iload_n 0, 1)) ∧ (decode cX10_isSmall 7 = .ok (.bipush 122, 2)) ∧ (decode cX10_isSmall 9 = .ok (.if_icmp .gt 7, 3)) ∧ (decode cX10_isSmall 12 = .ok (.iconst 1, 1)) ∧ (decode cX10_isSmall 13 = .ok (.goto 4, 3)) ∧ (decode cX10_isSmall 16 = .ok (.iconst 0, 1)) ∧ (decode cX10_isSmall 17 = .ok (.ireturn, 1)) := by decide +kernel
theorem dX10_isSmall_0 : decode cX10_isSmall 0 = .ok (.iload_n 0, 1) := da9_dX10_isSmall_0.1
theorem dX10_isSmall_1 : decode cX10_isSmall 1 = .ok (.bipush 97, 2) := da9_dX10_isSmall_0.2.1
theorem dX10_isSmall_3 : decode cX10_isSmall 3 = .ok (.if_icmp .lt 13, 3) := da9_dX10_isSmall_0.2.2.1
theorem dX10_isSmall_6 : decode cX10_isSmall 6 = .ok (.iload_n 0, 1) := da9_dX10_isSmall_0.2.2.2.1
theorem dX10_isSmall_7 : decode cX10_isSmall 7 = .ok (.bipush 122, 2) := da9_dX10_isSmall_0.2.2.2.2.1
theorem dX10_isSmall_9 : decode cX10_isSmall 9 = .ok (.if_icmp .gt 7, 3) := da9_dX10_isSmall_0.2.2.2.2.2.1
theorem dX10_isSmall_12 : decode cX10_isSmall 12 = .ok (.iconst 1, 1) := da9_dX10_isSmall_0.2.2.2.2.2.2.1
theorem dX10_isSmall_13 : decode cX10_isSmall 13 = .ok (.goto 4, 3) := da9_dX10_isSmall_0.2.2.2.2.2.2.2.1
theorem dX10_isSmall_16 : decode cX10_isSmall 16 = .ok (.iconst 0, 1) := da9_dX10_isSmall_0.2.2.2.2.2.2.2.2.1
theorem dX10_isSmall_17 : decode cX10_isSmall 17 = .ok (.ireturn, 1) := da9_dX10_isSmall_0.2.2.2.2.2.2.2.2.2
theorem da9_dX10_isDigit_0 : (decode cX10_isDigit 0 = .ok (.iload_n 0, 1)) ∧ (decode cX10_isDigit 1 = .ok (.bipush 48, 2)) ∧ (decode cX10_isDigit 3 = .ok (.if_icmp .lt 13, 3)) ∧ (decode cX10_isDigit 6 = .ok (.iload_n 0, 1)) ∧ (decode cX10_isDigit 7 = .ok (.bipush 57, 2)) ∧ (decode cX10_isDigit 9 = .ok (.if_icmp .gt 7, 3)) ∧ (decode cX10_isDigit 12 = .ok (.iconst 1, 1)) ∧ (decode cX10_isDigit 13 = .ok (.goto 4, 3)) ∧ (decode cX10_isDigit 16 = .ok (.iconst 0, 1)) ∧ (decode cX10_isDigit 17 = .ok (.ireturn, 1)) := by decide +kernel
theorem dX10_isDigit_0 : decode cX10_isDigit 0 = .ok (.iload_n 0, 1) := da9_dX10_isDigit_0.1
theorem dX10_isDigit_1 : decode cX10_isDigit 1 = .ok (.bipush 48, 2) := da9_dX10_isDigit_0.2.1
theorem dX10_isDigit_3 : decode cX10_isDigit 3 = .ok (.if_icmp .lt 13, 3) := da9_dX10_isDigit_0.2.2.1
theorem dX10_isDigit_6 : decode cX10_isDigit 6 = .ok (.iload_n 0, 1) := da9_dX10_isDigit_0.2.2.2.1
theorem dX10_isDigit_7 : decode cX10_isDigit 7 = .ok (.bipush 57, 2) := da9_dX10_isDigit_0.2.2.2.2.1
theorem dX10_isDigit_9 : decode cX10_isDigit 9 = .ok (.if_icmp .gt 7, 3) := da9_dX10_isDigit_0.2.2.2.2.2.1
theorem dX10_isDigit_12 : decode cX10_isDigit 12 = .ok (.iconst 1, 1) := da9_dX10_isDigit_0.2.2.2.2.2.2.1
theorem dX10_isDigit_13 : decode cX10_isDigit 13 = .ok (.goto 4, 3) := da9_dX10_isDigit_0.2.2.2.2.2.2.2.1
theorem dX10_isDigit_16 : decode cX10_isDigit 16 = .ok (.iconst 0, 1) := da9_dX10_isDigit_0.2.2.2.2.2.2.2.2.1
theorem dX10_isDigit_17 : decode cX10_isDigit 17 = .ok (.ireturn, 1) := da9_dX10_isDigit_0.2.2.2.2.2.2.2.2.2
theorem da9_dX10_wordOf_0 : (decode cX10_wordOf 0 = .ok (.iconst 1, 1)) ∧ (decode cX10_wordOf 1 = .ok (.istore_n 3, 1)) ∧ (decode cX10_wordOf 2 = .ok (.iconst 0, 1)) ∧ (decode cX10_wordOf 3 = .ok (.istore 4, 2)) ∧ (decode cX10_wordOf 5 = .ok (.iload 4, 2)) ∧ (decode cX10_wordOf 7 = .ok (.aload_n 0, 1)) ∧ (decode cX10_wordOf 8 = .ok (.getfield 41, 3)) ∧ (decode cX10_wordOf 11 = .ok (.arraylength, 1)) ∧ (decode cX10_wordOf 12 = .ok (.if_icmp .ge 114, 3)) ∧ (decode cX10_wordOf 15 = .ok (.iconst 0, 1)) ∧ (decode cX10_wordOf 16 = .ok (.istore 5, 2)) ∧ (decode cX10_wordOf 18 = .ok (.aload_n 0, 1)) ∧ (decode cX10_wordOf 19 = .ok (.getfield 41, 3)) ∧ (decode cX10_wordOf 22 = .ok (.iload 4, 2)) ∧ (decode cX10_wordOf 24 = .ok (.iload 5, 2)) ∧ (decode cX10_wordOf 26 = .ok (.iadd, 1)) := by decide +kernel
theorem dX10_wordOf_0 : decode cX10_wordOf 0 = .ok (.iconst 1, 1) := da9_dX10_wordOf_0.1
theorem dX10_wordOf_1 : decode cX10_wordOf 1 = .ok (.istore_n 3, 1) := da9_dX10_wordOf_0.2.1
theorem dX10_wordOf_2 : decode cX10_wordOf 2 = .ok (.iconst 0, 1) := da9_dX10_wordOf_0.2.2.1
theorem dX10_wordOf_3 : decode cX10_wordOf 3 = .ok (.istore 4, 2) := da9_dX10_wordOf_0.2.2.2.1
theorem dX10_wordOf_5 : decode cX10_wordOf 5 = .ok (.iload 4, 2) := da9_dX10_wordOf_0.2.2.2.2.1
theorem dX10_wordOf_7 : decode cX10_wordOf 7 = .ok (.aload_n 0, 1) := da9_dX10_wordOf_0.2.2.2.2.2.1
theorem dX10_wordOf_8 : decode cX10_wordOf 8 = .ok (.getfield 41, 3) := da9_dX10_wordOf_0.2.2.2.2.2.2.1
theorem dX10_wordOf_11 : decode cX10_wordOf 11 = .ok (.arraylength, 1) := da9_dX10_wordOf_0.2.2.2.2.2.2.2.1
theorem dX10_wordOf_12 : decode cX10_wordOf 12 = .ok (.if_icmp .ge 114, 3) := da9_dX10_wordOf_0.2.2.2.2.2.2.2.2.1
theorem dX10_wordOf_15 : decode cX10_wordOf 15 = .ok (.iconst 0, 1) := da9_dX10_wordOf_0.2.2.2.2.2.2.2.2.2.1
theorem dX10_wordOf_16 : decode cX10_wordOf 16 = .ok (.istore 5, 2) := da9_dX10_wordOf_0.2.2.2.2.2.2.2.2.2.2.1
theorem dX10_wordOf_18 : decode cX10_wordOf 18 = .ok (.aload_n 0, 1) := da9_dX10_wordOf_0.2.2.2.2.2.2.2.2.2.2.2.1
theorem dX10_wordOf_19 : decode cX10_wordOf 19 = .ok (.getfield 41, 3) := da9_dX10_wordOf_0.2.2.2.2.2.2.2.2.2.2.2.2.1
theorem dX10_wordOf_22 : decode cX10_wordOf 22 = .ok (.iload 4, 2) := da9_dX10_wordOf_0.2.2.2.2.2.2.2.2.2.2.2.2.2.1
theorem dX10_wordOf_24 : decode cX10_wordOf 24 = .ok (.iload 5, 2) := da9_dX10_wordOf_0.2.2.2.2.2.2.2.2.2.2.2.2.2.2.1
theorem dX10_wordOf_26 : decode cX10_wordOf 26 = .ok (.iadd, 1) := da9_dX10_wordOf_0.2.2.2.2.2.2.2.2.2.2.2.2.2.2.2
theorem da9_dX10_wordOf_27 : (decode cX10_wordOf 27 = .ok (.baload, 1)) ∧ (decode cX10_wordOf 28 = .ok (.bipush 32, 2)) ∧ (decode cX10_wordOf 30 = .ok (.if_icmp .eq 9, 3)) ∧ (decode cX10_wordOf 33 = .ok (.iinc 5 1, 3)) ∧ (decode cX10_wordOf 36 = .ok (.goto (-18), 3)) ∧ (decode cX10_wordOf 39 = .ok (.iload 5, 2)) ∧ (decode cX10_wordOf 41 = .ok (.iload_n 2, 1)) ∧ (decode cX10_wordOf 42 = .ok (.iload_n 1, 1)) ∧ (decode cX10_wordOf 43 = .ok (.isub, 1)) ∧ (decode cX10_wordOf 44 = .ok (.if_icmp .ne 7, 3)) ∧ (decode cX10_wordOf 47 = .ok (.iconst 1, 1)) ∧ (decode cX10_wordOf 48 = .ok (.goto 4, 3)) ∧ (decode cX10_wordOf 51 = .ok (.iconst 0, 1)) ∧ (decode cX10_wordOf 52 = .ok (.istore 6, 2)) ∧ (decode cX10_wordOf 54 = .ok (.iconst 0, 1)) ∧ (decode cX10_wordOf 55 = .ok (.istore 7, 2)) := by decide +kernel
theorem dX10_wordOf_27 : decode cX10_wordOf 27 = .ok (.baload, 1) := da9_dX10_wordOf_27.1
theorem dX10_wordOf_28 : decode cX10_wordOf 28 = .ok (.bipush 32, 2) := da9_dX10_wordOf_27.2.1
theorem dX10_wordOf_30 : decode cX10_wordOf 30 = .ok (.if_icmp .eq 9, 3) := da9_dX10_wordOf_27.2.2.1
theorem dX10_wordOf_33 : decode cX10_wordOf 33 = .ok (.iinc 5 1, 3) := da9_dX10_wordOf_27.2.2.2.1
theorem dX10_wordOf_36 : decode cX10_wordOf 36 = .ok (.goto (-18), 3) := da9_dX10_wordOf_27.2.2.2.2.1
theorem dX10_wordOf_39 : decode cX10_wordOf 39 = .ok (.iload 5, 2) := da9_dX10_wordOf_27.2.2.2.2.2.1
theorem dX10_wordOf_41 : decode cX10_wordOf 41 = .ok (.iload_n 2, 1) := da9_dX10_wordOf_27.2.2.2.2.2.2.1
theorem dX10_wordOf_42 : decode cX10_wordOf 42 = .ok (.iload_n 1, 1) := da9_dX10_wordOf_27.2.2.2.2.2.2.2.1
theorem dX10_wordOf_43 : decode cX10_wordOf 43 = .ok (.isub, 1) := da9_dX10_wordOf_27.2.2.2.2.2.2.2.2.1
theorem dX10_wordOf_44 : decode cX10_wordOf 44 = .ok (.if_icmp .ne 7, 3) := da9_dX10_wordOf_27.2.2.2.2.2.2.2.2.2.1
theorem dX10_wordOf_47 : decode cX10_wordOf 47 = .ok (.iconst 1, 1) := da9_dX10_wordOf_27.2.2.2.2.2.2.2.2.2.2.1
theorem dX10_wordOf_48 : decode cX10_wordOf 48 = .ok (.goto 4, 3) := da9_dX10_wordOf_27.2.2.2.2.2.2.2.2.2.2.2.1
theorem dX10_wordOf_51 : decode cX10_wordOf 51 = .ok (.iconst 0, 1) := da9_dX10_wordOf_27.2.2.2.2.2.2.2.2.2.2.2.2.1
theorem dX10_wordOf_52 : decode cX10_wordOf 52 = .ok (.istore 6, 2) := da9_dX10_wordOf_27.2.2.2.2.2.2.2.2.2.2.2.2.2.1
theorem dX10_wordOf_54 : decode cX10_wordOf 54 = .ok (.iconst 0, 1) := da9_dX10_wordOf_27.2.2.2.2.2.2.2.2.2.2.2.2.2.2.1
theorem dX10_wordOf_55 : decode cX10_wordOf 55 = .ok (.istore 7, 2) := da9_dX10_wordOf_27.2.2.2.2.2.2.2.2.2.2.2.2.2.2.2
theorem da9_dX10_wordOf_57 : (decode cX10_wordOf 57 = .ok (.iload 7, 2)) ∧ (decode cX10_wordOf 59 = .ok (.iload 5, 2)) ∧ (decode cX10_wordOf 61 = .ok (.if_icmp .ge 43, 3)) ∧ (decode cX10_wordOf 64 = .ok (.iload 6, 2)) ∧ (decode cX10_wordOf 66 = .ok (.ifCond .eq 38, 3)) ∧ (decode cX10_wordOf 69 = .ok (.aload_n 0, 1)) ∧ (decode cX10_wordOf 70 = .ok (.getfield 41, 3)) ∧ (decode cX10_wordOf 73 = .ok (.iload 4, 2)) ∧ (decode cX10_wordOf 75 = .ok (.iload 7, 2)) ∧ (decode cX10_wordOf 77 = .ok (.iadd, 1)) ∧ (decode cX10_wordOf 78 = .ok (.baload, 1)) ∧ (decode cX10_wordOf 79 = .ok (.aload_n 0, 1)) ∧ (decode cX10_wordOf 80 = .ok (.getfield 45, 3)) ∧ (decode cX10_wordOf 83 = .ok (.iload_n 1, 1)) ∧ (decode cX10_wordOf 84 = .ok (.iload 7, 2)) ∧ (decode cX10_wordOf 86 = .ok (.iadd, 1)) := by decide +kernel
theorem dX10_wordOf_57 : decode cX10_wordOf 57 = .ok (.iload 7, 2) := da9_dX10_wordOf_57.1
theorem dX10_wordOf_59 : decode cX10_wordOf 59 = .ok (.iload 5, 2) := da9_dX10_wordOf_57.2.1
theorem dX10_wordOf_61 : decode cX10_wordOf 61 = .ok (.if_icmp .ge 43, 3) := da9_dX10_wordOf_57.2.2.1
theorem dX10_wordOf_64 : decode cX10_wordOf 64 = .ok (.iload 6, 2) := da9_dX10_wordOf_57.2.2.2.1
theorem dX10_wordOf_66 : decode cX10_wordOf 66 = .ok (.ifCond .eq 38, 3) := da9_dX10_wordOf_57.2.2.2.2.1
theorem dX10_wordOf_69 : decode cX10_wordOf 69 = .ok (.aload_n 0, 1) := da9_dX10_wordOf_57.2.2.2.2.2.1
theorem dX10_wordOf_70 : decode cX10_wordOf 70 = .ok (.getfield 41, 3) := da9_dX10_wordOf_57.2.2.2.2.2.2.1
theorem dX10_wordOf_73 : decode cX10_wordOf 73 = .ok (.iload 4, 2) := da9_dX10_wordOf_57.2.2.2.2.2.2.2.1
theorem dX10_wordOf_75 : decode cX10_wordOf 75 = .ok (.iload 7, 2) := da9_dX10_wordOf_57.2.2.2.2.2.2.2.2.1
theorem dX10_wordOf_77 : decode cX10_wordOf 77 = .ok (.iadd, 1) := da9_dX10_wordOf_57.2.2.2.2.2.2.2.2.2.1
theorem dX10_wordOf_78 : decode cX10_wordOf 78 = .ok (.baload, 1) := da9_dX10_wordOf_57.2.2.2.2.2.2.2.2.2.2.1
theorem dX10_wordOf_79 : decode cX10_wordOf 79 = .ok (.aload_n 0, 1) := da9_dX10_wordOf_57.2.2.2.2.2.2.2.2.2.2.2.1
theorem dX10_wordOf_80 : decode cX10_wordOf 80 = .ok (.getfield 45, 3) := da9_dX10_wordOf_57.2.2.2.2.2.2.2.2.2.2.2.2.1
theorem dX10_wordOf_83 : decode cX10_wordOf 83 = .ok (.iload_n 1, 1) := da9_dX10_wordOf_57.2.2.2.2.2.2.2.2.2.2.2.2.2.1
theorem dX10_wordOf_84 : decode cX10_wordOf 84 = .ok (.iload 7, 2) := da9_dX10_wordOf_57.2.2.2.2.2.2.2.2.2.2.2.2.2.2.1
theorem dX10_wordOf_86 : decode cX10_wordOf 86 = .ok (.iadd, 1) := da9_dX10_wordOf_57.2.2.2.2.2.2.2.2.2.2.2.2.2.2.2
theorem da9_dX10_wordOf_87 : (decode cX10_wordOf 87 = .ok (.baload, 1)) ∧ (decode cX10_wordOf 88 = .ok (.if_icmp .ne 7, 3)) ∧ (decode cX10_wordOf 91 = .ok (.iconst 1, 1)) ∧ (decode cX10_wordOf 92 = .ok (.goto 4, 3)) ∧ (decode cX10_wordOf 95 = .ok (.iconst 0, 1)) ∧ (decode cX10_wordOf 96 = .ok (.istore 6, 2)) ∧ (decode cX10_wordOf 98 = .ok (.iinc 7 1, 3)) ∧ (decode cX10_wordOf 101 = .ok (.goto (-44), 3)) ∧ (decode cX10_wordOf 104 = .ok (.iload 6, 2)) ∧ (decode cX10_wordOf 106 = .ok (.ifCond .eq 5, 3)) ∧ (decode cX10_wordOf 109 = .ok (.iload_n 3, 1)) ∧ (decode cX10_wordOf 110 = .ok (.ireturn, 1)) ∧ (decode cX10_wordOf 111 = .ok (.iload 4, 2)) ∧ (decode cX10_wordOf 113 = .ok (.iload 5, 2)) ∧ (decode cX10_wordOf 115 = .ok (.iconst 1, 1)) ∧ (decode cX10_wordOf 116 = .ok (.iadd, 1)) := by decide +kernel
theorem dX10_wordOf_87 : decode cX10_wordOf 87 = .ok (.baload, 1) := da9_dX10_wordOf_87.1
theorem dX10_wordOf_88 : decode cX10_wordOf 88 = .ok (.if_icmp .ne 7, 3) := da9_dX10_wordOf_87.2.1
theorem dX10_wordOf_91 : decode cX10_wordOf 91 = .ok (.iconst 1, 1) := da9_dX10_wordOf_87.2.2.1
theorem dX10_wordOf_92 : decode cX10_wordOf 92 = .ok (.goto 4, 3) := da9_dX10_wordOf_87.2.2.2.1
theorem dX10_wordOf_95 : decode cX10_wordOf 95 = .ok (.iconst 0, 1) := da9_dX10_wordOf_87.2.2.2.2.1
theorem dX10_wordOf_96 : decode cX10_wordOf 96 = .ok (.istore 6, 2) := da9_dX10_wordOf_87.2.2.2.2.2.1
theorem dX10_wordOf_98 : decode cX10_wordOf 98 = .ok (.iinc 7 1, 3) := da9_dX10_wordOf_87.2.2.2.2.2.2.1
theorem dX10_wordOf_101 : decode cX10_wordOf 101 = .ok (.goto (-44), 3) := da9_dX10_wordOf_87.2.2.2.2.2.2.2.1
theorem dX10_wordOf_104 : decode cX10_wordOf 104 = .ok (.iload 6, 2) := da9_dX10_wordOf_87.2.2.2.2.2.2.2.2.1
theorem dX10_wordOf_106 : decode cX10_wordOf 106 = .ok (.ifCond .eq 5, 3) := da9_dX10_wordOf_87.2.2.2.2.2.2.2.2.2.1
theorem dX10_wordOf_109 : decode cX10_wordOf 109 = .ok (.iload_n 3, 1) := da9_dX10_wordOf_87.2.2.2.2.2.2.2.2.2.2.1
theorem dX10_wordOf_110 : decode cX10_wordOf 110 = .ok (.ireturn, 1) := da9_dX10_wordOf_87.2.2.2.2.2.2.2.2.2.2.2.1
theorem dX10_wordOf_111 : decode cX10_wordOf 111 = .ok (.iload 4, 2) := da9_dX10_wordOf_87.2.2.2.2.2.2.2.2.2.2.2.2.1
theorem dX10_wordOf_113 : decode cX10_wordOf 113 = .ok (.iload 5, 2) := da9_dX10_wordOf_87.2.2.2.2.2.2.2.2.2.2.2.2.2.1
theorem dX10_wordOf_115 : decode cX10_wordOf 115 = .ok (.iconst 1, 1) := da9_dX10_wordOf_87.2.2.2.2.2.2.2.2.2.2.2.2.2.2.1
theorem dX10_wordOf_116 : decode cX10_wordOf 116 = .ok (.iadd, 1) := da9_dX10_wordOf_87.2.2.2.2.2.2.2.2.2.2.2.2.2.2.2
theorem da9_dX10_wordOf_117 : (decode cX10_wordOf 117 = .ok (.iadd, 1)) ∧ (decode cX10_wordOf 118 = .ok (.istore 4, 2)) ∧ (decode cX10_wordOf 120 = .ok (.iinc 3 1, 3)) ∧ (decode cX10_wordOf 123 = .ok (.goto (-118), 3)) ∧ (decode cX10_wordOf 126 = .ok (.iconst 0, 1)) ∧ (decode cX10_wordOf 127 = .ok (.ireturn, 1)) := by decide +kernel
theorem dX10_wordOf_117 : decode cX10_wordOf 117 = .ok (.iadd, 1) := da9_dX10_wordOf_117.1
theorem dX10_wordOf_118 : decode cX10_wordOf 118 = .ok (.istore 4, 2) := da9_dX10_wordOf_117.2.1
theorem dX10_wordOf_120 : decode cX10_wordOf 120 = .ok (.iinc 3 1, 3) := da9_dX10_wordOf_117.2.2.1
theorem dX10_wordOf_123 : decode cX10_wordOf 123 = .ok (.goto (-118), 3) := da9_dX10_wordOf_117.2.2.2.1
theorem dX10_wordOf_126 : decode cX10_wordOf 126 = .ok (.iconst 0, 1) := da9_dX10_wordOf_117.2.2.2.2.1
theorem dX10_wordOf_127 : decode cX10_wordOf 127 = .ok (.ireturn, 1) := da9_dX10_wordOf_117.2.2.2.2.2
