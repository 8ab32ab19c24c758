theorem da9_dX3_caseNumber_0 : (decode cX3_caseNumber 0 = .ok (.iload_n 0, 1)) ∧ (decode cX3_caseNumber 1 = .ok (.iconst 1, 1)) ∧ (decode cX3_caseNumber 2 = .ok (.isub, 1)) ∧ (decode cX3_caseNumber 3 = .ok (.bipush 6, 2)) ∧ (decode cX3_caseNumber 5 = .ok (.imul, 1)) ∧ (decode cX3_caseNumber 6 = .ok (.iload_n 1, 1)) ∧ (decode cX3_caseNumber 7 = .ok (.iadd, 1)) ∧ (decode cX3_caseNumber 8 = .ok (.bipush 7, 2)) ∧ (decode cX3_caseNumber 10 = .ok (.imul, 1)) ∧ (decode cX3_caseNumber 11 = .ok (.iload_n 2, 1)) ∧ (decode cX3_caseNumber 12 = .ok (.iadd, 1)) ∧ (decode cX3_caseNumber 13 = .ok (.iconst 2, 1)) ∧ (decode cX3_caseNumber 14 = .ok (.imul, 1)) ∧ (decode cX3_caseNumber 15 = .ok (.iload_n 3, 1)) ∧ (decode cX3_caseNumber 16 = .ok (.iadd, 1)) ∧ (decode cX3_caseNumber 17 = .ok (.ireturn, 1)) := by decide +kernel
theorem dX3_caseNumber_0 : decode cX3_caseNumber 0 = .ok (.iload_n 0, 1) := da9_dX3_caseNumber_0.1
theorem dX3_caseNumber_1 : decode cX3_caseNumber 1 = .ok (.iconst 1, 1) := da9_dX3_caseNumber_0.2.1
theorem dX3_caseNumber_2 : decode cX3_caseNumber 2 = .ok (.isub, 1) := da9_dX3_caseNumber_0.2.2.1
theorem dX3_caseNumber_3 : decode cX3_caseNumber 3 = .ok (.bipush 6, 2) := da9_dX3_caseNumber_0.2.2.2.1
theorem dX3_caseNumber_5 : decode cX3_caseNumber 5 = .ok (.imul, 1) := da9_dX3_caseNumber_0.2.2.2.2.1
theorem dX3_caseNumber_6 : decode cX3_caseNumber 6 = .ok (.iload_n 1, 1) := da9_dX3_caseNumber_0.2.2.2.2.2.1
theorem dX3_caseNumber_7 : decode cX3_caseNumber 7 = .ok (.iadd, 1) := da9_dX3_caseNumber_0.2.2.2.2.2.2.1
theorem dX3_caseNumber_8 : decode cX3_caseNumber 8 = .ok (.bipush 7, 2) := da9_dX3_caseNumber_0.2.2.2.2.2.2.2.1
theorem dX3_caseNumber_10 : decode cX3_caseNumber 10 = .ok (.imul, 1) := da9_dX3_caseNumber_0.2.2.2.2.2.2.2.2.1
theorem dX3_caseNumber_11 : decode cX3_caseNumber 11 = .ok (.iload_n 2, 1) := da9_dX3_caseNumber_0.2.2.2.2.2.2.2.2.2.1
theorem dX3_caseNumber_12 : decode cX3_caseNumber 12 = .ok (.iadd, 1) := da9_dX3_caseNumber_0.2.2.2.2.2.2.2.2.2.2.1
theorem dX3_caseNumber_13 : decode cX3_caseNumber 13 = .ok (.iconst 2, 1) := da9_dX3_caseNumber_0.2.2.2.2.2.2.2.2.2.2.2.1
theorem dX3_caseNumber_14 : decode cX3_caseNumber 14 = .ok (.imul, 1) := da9_dX3_caseNumber_0.2.2.2.2.2.2.2.2.2.2.2.2.1
theorem dX3_caseNumber_15 : decode cX3_caseNumber 15 = .ok (.iload_n 3, 1) := da9_dX3_caseNumber_0.2.2.2.2.2.2.2.2.2.2.2.2.2.1
theorem dX3_caseNumber_16 : decode cX3_caseNumber 16 = .ok (.iadd, 1) := da9_dX3_caseNumber_0.2.2.2.2.2.2.2.2.2.2.2.2.2.2.1
theorem dX3_caseNumber_17 : decode cX3_caseNumber 17 = .ok (.ireturn, 1) := da9_dX3_caseNumber_0.2.2.2.2.2.2.2.2.2.2.2.2.2.2.2
set_option maxRecDepth 20000 in
theorem ggX3_makeRoom_X3_listOrder : GoodIn wsX3_makeRoom wsX3_listOrder := goodIn_r _ [17, 9, 18, 8, 10, 19, 20, 21, 16, 22, 7, 23, 24, 25, 26, 27, 28, 29, 33, 34, 35, 36, 37, 38, 39, 40, 41, 42, 43, 44, 45, 46, 47, 48, 49, 50, 51, 52] rfl (by decide +kernel)
set_option maxRecDepth 20000 in
theorem gX3_makeRoom_X3_listOrder : GoodIn wsX3_makeRoom (wsV RX3 191 RX3 yX3_listOrder wsX3_listOrder) := goodIn_app (goodIn_of _ (by decide +kernel)) ggX3_makeRoom_X3_listOrder
set_option maxRecDepth 20000 in
theorem ggX3_makeRoom_X3_headsTurned : GoodIn wsX3_makeRoom wsX3_headsTurned := goodIn_r _ [32] rfl (by decide +kernel)
set_option maxRecDepth 20000 in
theorem gX3_makeRoom_X3_headsTurned : GoodIn wsX3_makeRoom (va_wsS RX3 194 yX3_headsTurned wsX3_headsTurned) := goodIn_app (goodIn_of _ (by decide +kernel)) ggX3_makeRoom_X3_headsTurned
theorem da9_dX3_makeRoom_0 : (decode cX3_makeRoom 0 = .ok (.aload_n 0, 1)) ∧ (decode cX3_makeRoom 1 = .ok (.aload_n 0, 1)) ∧ (decode cX3_makeRoom 2 = .ok (.getfield 55, 3)) ∧ (decode cX3_makeRoom 5 = .ok (.newarray .int, 2)) ∧ (decode cX3_makeRoom 7 = .ok (.putfield 39, 3)) ∧ (decode cX3_makeRoom 10 = .ok (.aload_n 0, 1)) ∧ (decode cX3_makeRoom 11 = .ok (.aload_n 0, 1)) ∧ (decode cX3_makeRoom 12 = .ok (.getfield 55, 3)) ∧ (decode cX3_makeRoom 15 = .ok (.newarray .int, 2)) ∧ (decode cX3_makeRoom 17 = .ok (.putfield 42, 3)) ∧ (decode cX3_makeRoom 20 = .ok (.aload_n 0, 1)) ∧ (decode cX3_makeRoom 21 = .ok (.aload_n 0, 1)) ∧ (decode cX3_makeRoom 22 = .ok (.getfield 55, 3)) ∧ (decode cX3_makeRoom 25 = .ok (.newarray .int, 2)) ∧ (decode cX3_makeRoom 27 = .ok (.putfield 45, 3)) ∧ (decode cX3_makeRoom 30 = .ok (.aload_n 0, 1)) := by decide +kernel
theorem dX3_makeRoom_0 : decode cX3_makeRoom 0 = .ok (.aload_n 0, 1) := da9_dX3_makeRoom_0.1
theorem dX3_makeRoom_1 : decode cX3_makeRoom 1 = .ok (.aload_n 0, 1) := da9_dX3_makeRoom_0.2.1
theorem dX3_makeRoom_2 : decode cX3_makeRoom 2 = .ok (.getfield 55, 3) := da9_dX3_makeRoom_0.2.2.1
theorem dX3_makeRoom_5 : decode cX3_makeRoom 5 = .ok (.newarray .int, 2) := da9_dX3_makeRoom_0.2.2.2.1
theorem dX3_makeRoom_7 : decode cX3_makeRoom 7 = .ok (.putfield 39, 3) := da9_dX3_makeRoom_0.2.2.2.2.1
theorem dX3_makeRoom_10 : decode cX3_makeRoom 10 = .ok (.aload_n 0, 1) := da9_dX3_makeRoom_0.2.2.2.2.2.1
theorem dX3_makeRoom_11 : decode cX3_makeRoom 11 = .ok (.aload_n 0, 1) := da9_dX3_makeRoom_0.2.2.2.2.2.2.1
theorem dX3_makeRoom_12 : decode cX3_makeRoom 12 = .ok (.getfield 55, 3) := da9_dX3_makeRoom_0.2.2.2.2.2.2.2.1
theorem dX3_makeRoom_15 : decode cX3_makeRoom 15 = .ok (.newarray .int, 2) := da9_dX3_makeRoom_0.2.2.2.2.2.2.2.2.1
theorem dX3_makeRoom_17 : decode cX3_makeRoom 17 = .ok (.putfield 42, 3) := da9_dX3_makeRoom_0.2.2.2.2.2.2.2.2.2.1
theorem dX3_makeRoom_20 : decode cX3_makeRoom 20 = .ok (.aload_n 0, 1) := da9_dX3_makeRoom_0.2.2.2.2.2.2.2.2.2.2.1
theorem dX3_makeRoom_21 : decode cX3_makeRoom 21 = .ok (.aload_n 0, 1) := da9_dX3_makeRoom_0.2.2.2.2.2.2.2.2.2.2.2.1
theorem dX3_makeRoom_22 : decode cX3_makeRoom 22 = .ok (.getfield 55, 3) := da9_dX3_makeRoom_0.2.2.2.2.2.2.2.2.2.2.2.2.1
theorem dX3_makeRoom_25 : decode cX3_makeRoom 25 = .ok (.newarray .int, 2) := da9_dX3_makeRoom_0.2.2.2.2.2.2.2.2.2.2.2.2.2.1
theorem dX3_makeRoom_27 : decode cX3_makeRoom 27 = .ok (.putfield 45, 3) := da9_dX3_makeRoom_0.2.2.2.2.2.2.2.2.2.2.2.2.2.2.1
theorem dX3_makeRoom_30 : decode cX3_makeRoom 30 = .ok (.aload_n 0, 1) := da9_dX3_makeRoom_0.2.2.2.2.2.2.2.2.2.2.2.2.2.2.2
theorem da9_dX3_makeRoom_31 : (decode cX3_makeRoom 31 = .ok (.aload_n 0, 1)) ∧ (decode cX3_makeRoom 32 = .ok (.getfield 55, 3)) ∧ (decode cX3_makeRoom 35 = .ok (.newarray .int, 2)) ∧ (decode cX3_makeRoom 37 = .ok (.putfield 48, 3)) ∧ (decode cX3_makeRoom 40 = .ok (.aload_n 0, 1)) ∧ (decode cX3_makeRoom 41 = .ok (.getstatic 76, 3)) ∧ (decode cX3_makeRoom 44 = .ok (.aload_n 0, 1)) ∧ (decode cX3_makeRoom 45 = .ok (.getfield 51, 3)) ∧ (decode cX3_makeRoom 48 = .ok (.iaload, 1)) ∧ (decode cX3_makeRoom 49 = .ok (.newarray .int, 2)) ∧ (decode cX3_makeRoom 51 = .ok (.putfield 30, 3)) ∧ (decode cX3_makeRoom 54 = .ok (.aload_n 0, 1)) ∧ (decode cX3_makeRoom 55 = .ok (.getstatic 76, 3)) ∧ (decode cX3_makeRoom 58 = .ok (.aload_n 0, 1)) ∧ (decode cX3_makeRoom 59 = .ok (.getfield 51, 3)) ∧ (decode cX3_makeRoom 62 = .ok (.iaload, 1)) := by decide +kernel
theorem dX3_makeRoom_31 : decode cX3_makeRoom 31 = .ok (.aload_n 0, 1) := da9_dX3_makeRoom_31.1
theorem dX3_makeRoom_32 : decode cX3_makeRoom 32 = .ok (.getfield 55, 3) := da9_dX3_makeRoom_31.2.1
theorem dX3_makeRoom_35 : decode cX3_makeRoom 35 = .ok (.newarray .int, 2) := da9_dX3_makeRoom_31.2.2.1
theorem dX3_makeRoom_37 : decode cX3_makeRoom 37 = .ok (.putfield 48, 3) := da9_dX3_makeRoom_31.2.2.2.1
theorem dX3_makeRoom_40 : decode cX3_makeRoom 40 = .ok (.aload_n 0, 1) := da9_dX3_makeRoom_31.2.2.2.2.1
theorem dX3_makeRoom_41 : decode cX3_makeRoom 41 = .ok (.getstatic 76, 3) := da9_dX3_makeRoom_31.2.2.2.2.2.1
theorem dX3_makeRoom_44 : decode cX3_makeRoom 44 = .ok (.aload_n 0, 1) := da9_dX3_makeRoom_31.2.2.2.2.2.2.1
theorem dX3_makeRoom_45 : decode cX3_makeRoom 45 = .ok (.getfield 51, 3) := da9_dX3_makeRoom_31.2.2.2.2.2.2.2.1
theorem dX3_makeRoom_48 : decode cX3_makeRoom 48 = .ok (.iaload, 1) := da9_dX3_makeRoom_31.2.2.2.2.2.2.2.2.1
theorem dX3_makeRoom_49 : decode cX3_makeRoom 49 = .ok (.newarray .int, 2) := da9_dX3_makeRoom_31.2.2.2.2.2.2.2.2.2.1
theorem dX3_makeRoom_51 : decode cX3_makeRoom 51 = .ok (.putfield 30, 3) := da9_dX3_makeRoom_31.2.2.2.2.2.2.2.2.2.2.1
theorem dX3_makeRoom_54 : decode cX3_makeRoom 54 = .ok (.aload_n 0, 1) := da9_dX3_makeRoom_31.2.2.2.2.2.2.2.2.2.2.2.1
theorem dX3_makeRoom_55 : decode cX3_makeRoom 55 = .ok (.getstatic 76, 3) := da9_dX3_makeRoom_31.2.2.2.2.2.2.2.2.2.2.2.2.1
theorem dX3_makeRoom_58 : decode cX3_makeRoom 58 = .ok (.aload_n 0, 1) := da9_dX3_makeRoom_31.2.2.2.2.2.2.2.2.2.2.2.2.2.1
theorem dX3_makeRoom_59 : decode cX3_makeRoom 59 = .ok (.getfield 51, 3) := da9_dX3_makeRoom_31.2.2.2.2.2.2.2.2.2.2.2.2.2.2.1
theorem dX3_makeRoom_62 : decode cX3_makeRoom 62 = .ok (.iaload, 1) := da9_dX3_makeRoom_31.2.2.2.2.2.2.2.2.2.2.2.2.2.2.2
theorem da9_dX3_makeRoom_63 : (decode cX3_makeRoom 63 = .ok (.bipush 6, 2)) ∧ (decode cX3_makeRoom 65 = .ok (.imul, 1)) ∧ (decode cX3_makeRoom 66 = .ok (.newarray .int, 2)) ∧ (decode cX3_makeRoom 68 = .ok (.putfield 33, 3)) ∧ (decode cX3_makeRoom 71 = .ok (.aload_n 0, 1)) ∧ (decode cX3_makeRoom 72 = .ok (.bipush 6, 2)) ∧ (decode cX3_makeRoom 74 = .ok (.aload_n 0, 1)) ∧ (decode cX3_makeRoom 75 = .ok (.getfield 51, 3)) ∧ (decode cX3_makeRoom 78 = .ok (.ishl, 1)) ∧ (decode cX3_makeRoom 79 = .ok (.newarray .int, 2)) ∧ (decode cX3_makeRoom 81 = .ok (.putfield 36, 3)) ∧ (decode cX3_makeRoom 84 = .ok (.aload_n 0, 1)) ∧ (decode cX3_makeRoom 85 = .ok (.iconst (-1), 1)) ∧ (decode cX3_makeRoom 86 = .ok (.putfield 64, 3)) ∧ (decode cX3_makeRoom 89 = .ok (.iconst 0, 1)) ∧ (decode cX3_makeRoom 90 = .ok (.istore_n 1, 1)) := by decide +kernel
theorem dX3_makeRoom_63 : decode cX3_makeRoom 63 = .ok (.bipush 6, 2) := da9_dX3_makeRoom_63.1
theorem dX3_makeRoom_65 : decode cX3_makeRoom 65 = .ok (.imul, 1) := da9_dX3_makeRoom_63.2.1
theorem dX3_makeRoom_66 : decode cX3_makeRoom 66 = .ok (.newarray .int, 2) := da9_dX3_makeRoom_63.2.2.1
theorem dX3_makeRoom_68 : decode cX3_makeRoom 68 = .ok (.putfield 33, 3) := da9_dX3_makeRoom_63.2.2.2.1
theorem dX3_makeRoom_71 : decode cX3_makeRoom 71 = .ok (.aload_n 0, 1) := da9_dX3_makeRoom_63.2.2.2.2.1
theorem dX3_makeRoom_72 : decode cX3_makeRoom 72 = .ok (.bipush 6, 2) := da9_dX3_makeRoom_63.2.2.2.2.2.1
theorem dX3_makeRoom_74 : decode cX3_makeRoom 74 = .ok (.aload_n 0, 1) := da9_dX3_makeRoom_63.2.2.2.2.2.2.1
theorem dX3_makeRoom_75 : decode cX3_makeRoom 75 = .ok (.getfield 51, 3) := da9_dX3_makeRoom_63.2.2.2.2.2.2.2.1
theorem dX3_makeRoom_78 : decode cX3_makeRoom 78 = .ok (.ishl, 1) := da9_dX3_makeRoom_63.2.2.2.2.2.2.2.2.1
theorem dX3_makeRoom_79 : decode cX3_makeRoom 79 = .ok (.newarray .int, 2) := da9_dX3_makeRoom_63.2.2.2.2.2.2.2.2.2.1
theorem dX3_makeRoom_81 : decode cX3_makeRoom 81 = .ok (.putfield 36, 3) := da9_dX3_makeRoom_63.2.2.2.2.2.2.2.2.2.2.1
theorem dX3_makeRoom_84 : decode cX3_makeRoom 84 = .ok (.aload_n 0, 1) := da9_dX3_makeRoom_63.2.2.2.2.2.2.2.2.2.2.2.1
theorem dX3_makeRoom_85 : decode cX3_makeRoom 85 = .ok (.iconst (-1), 1) := da9_dX3_makeRoom_63.2.2.2.2.2.2.2.2.2.2.2.2.1
theorem dX3_makeRoom_86 : decode cX3_makeRoom 86 = .ok (.putfield 64, 3) := da9_dX3_makeRoom_63.2.2.2.2.2.2.2.2.2.2.2.2.2.1
theorem dX3_makeRoom_89 : decode cX3_makeRoom 89 = .ok (.iconst 0, 1) := da9_dX3_makeRoom_63.2.2.2.2.2.2.2.2.2.2.2.2.2.2.1
theorem dX3_makeRoom_90 : decode cX3_makeRoom 90 = .ok (.istore_n 1, 1) := da9_dX3_makeRoom_63.2.2.2.2.2.2.2.2.2.2.2.2.2.2.2
theorem da9_dX3_makeRoom_91 : (decode cX3_makeRoom 91 = .ok (.iload_n 1, 1)) ∧ (decode cX3_makeRoom 92 = .ok (.aload_n 0, 1)) ∧ (decode cX3_makeRoom 93 = .ok (.getfield 30, 3)) ∧ (decode cX3_makeRoom 96 = .ok (.arraylength, 1)) ∧ (decode cX3_makeRoom 97 = .ok (.if_icmp .ge 14, 3)) ∧ (decode cX3_makeRoom 100 = .ok (.aload_n 0, 1)) ∧ (decode cX3_makeRoom 101 = .ok (.iload_n 1, 1)) ∧ (decode cX3_makeRoom 102 = .ok (.invokevirtual 191, 3)) ∧ (decode cX3_makeRoom 105 = .ok (.iinc 1 1, 3)) ∧ (decode cX3_makeRoom 108 = .ok (.goto (-17), 3)) ∧ (decode cX3_makeRoom 111 = .ok (.iconst 0, 1)) ∧ (decode cX3_makeRoom 112 = .ok (.istore_n 1, 1)) ∧ (decode cX3_makeRoom 113 = .ok (.iload_n 1, 1)) ∧ (decode cX3_makeRoom 114 = .ok (.iconst 1, 1)) ∧ (decode cX3_makeRoom 115 = .ok (.aload_n 0, 1)) ∧ (decode cX3_makeRoom 116 = .ok (.getfield 51, 3)) := by decide +kernel
theorem dX3_makeRoom_91 : decode cX3_makeRoom 91 = .ok (.iload_n 1, 1) := da9_dX3_makeRoom_91.1
theorem dX3_makeRoom_92 : decode cX3_makeRoom 92 = .ok (.aload_n 0, 1) := da9_dX3_makeRoom_91.2.1
theorem dX3_makeRoom_93 : decode cX3_makeRoom 93 = .ok (.getfield 30, 3) := da9_dX3_makeRoom_91.2.2.1
theorem dX3_makeRoom_96 : decode cX3_makeRoom 96 = .ok (.arraylength, 1) := da9_dX3_makeRoom_91.2.2.2.1
theorem dX3_makeRoom_97 : decode cX3_makeRoom 97 = .ok (.if_icmp .ge 14, 3) := da9_dX3_makeRoom_91.2.2.2.2.1
theorem dX3_makeRoom_100 : decode cX3_makeRoom 100 = .ok (.aload_n 0, 1) := da9_dX3_makeRoom_91.2.2.2.2.2.1
theorem dX3_makeRoom_101 : decode cX3_makeRoom 101 = .ok (.iload_n 1, 1) := da9_dX3_makeRoom_91.2.2.2.2.2.2.1
theorem dX3_makeRoom_102 : decode cX3_makeRoom 102 = .ok (.invokevirtual 191, 3) := da9_dX3_makeRoom_91.2.2.2.2.2.2.2.1
theorem dX3_makeRoom_105 : decode cX3_makeRoom 105 = .ok (.iinc 1 1, 3) := da9_dX3_makeRoom_91.2.2.2.2.2.2.2.2.1
theorem dX3_makeRoom_108 : decode cX3_makeRoom 108 = .ok (.goto (-17), 3) := da9_dX3_makeRoom_91.2.2.2.2.2.2.2.2.2.1
theorem dX3_makeRoom_111 : decode cX3_makeRoom 111 = .ok (.iconst 0, 1) := da9_dX3_makeRoom_91.2.2.2.2.2.2.2.2.2.2.1
theorem dX3_makeRoom_112 : decode cX3_makeRoom 112 = .ok (.istore_n 1, 1) := da9_dX3_makeRoom_91.2.2.2.2.2.2.2.2.2.2.2.1
theorem dX3_makeRoom_113 : decode cX3_makeRoom 113 = .ok (.iload_n 1, 1) := da9_dX3_makeRoom_91.2.2.2.2.2.2.2.2.2.2.2.2.1
theorem dX3_makeRoom_114 : decode cX3_makeRoom 114 = .ok (.iconst 1, 1) := da9_dX3_makeRoom_91.2.2.2.2.2.2.2.2.2.2.2.2.2.1
theorem dX3_makeRoom_115 : decode cX3_makeRoom 115 = .ok (.aload_n 0, 1) := da9_dX3_makeRoom_91.2.2.2.2.2.2.2.2.2.2.2.2.2.2.1
theorem dX3_makeRoom_116 : decode cX3_makeRoom 116 = .ok (.getfield 51, 3) := da9_dX3_makeRoom_91.2.2.2.2.2.2.2.2.2.2.2.2.2.2.2
theorem da9_dX3_makeRoom_119 : (decode cX3_makeRoom 119 = .ok (.ishl, 1)) ∧ (decode cX3_makeRoom 120 = .ok (.if_icmp .ge 43, 3)) ∧ (decode cX3_makeRoom 123 = .ok (.iconst 1, 1)) ∧ (decode cX3_makeRoom 124 = .ok (.istore_n 2, 1)) ∧ (decode cX3_makeRoom 125 = .ok (.iload_n 2, 1)) ∧ (decode cX3_makeRoom 126 = .ok (.aload_n 0, 1)) ∧ (decode cX3_makeRoom 127 = .ok (.getfield 51, 3)) ∧ (decode cX3_makeRoom 130 = .ok (.if_icmp .gt 27, 3)) ∧ (decode cX3_makeRoom 133 = .ok (.aload_n 0, 1)) ∧ (decode cX3_makeRoom 134 = .ok (.getfield 36, 3)) ∧ (decode cX3_makeRoom 137 = .ok (.iload_n 1, 1)) ∧ (decode cX3_makeRoom 138 = .ok (.bipush 6, 2)) ∧ (decode cX3_makeRoom 140 = .ok (.imul, 1)) ∧ (decode cX3_makeRoom 141 = .ok (.iload_n 2, 1)) ∧ (decode cX3_makeRoom 142 = .ok (.iadd, 1)) ∧ (decode cX3_makeRoom 143 = .ok (.iconst 1, 1)) := by decide +kernel
theorem dX3_makeRoom_119 : decode cX3_makeRoom 119 = .ok (.ishl, 1) := da9_dX3_makeRoom_119.1
theorem dX3_makeRoom_120 : decode cX3_makeRoom 120 = .ok (.if_icmp .ge 43, 3) := da9_dX3_makeRoom_119.2.1
theorem dX3_makeRoom_123 : decode cX3_makeRoom 123 = .ok (.iconst 1, 1) := da9_dX3_makeRoom_119.2.2.1
theorem dX3_makeRoom_124 : decode cX3_makeRoom 124 = .ok (.istore_n 2, 1) := da9_dX3_makeRoom_119.2.2.2.1
theorem dX3_makeRoom_125 : decode cX3_makeRoom 125 = .ok (.iload_n 2, 1) := da9_dX3_makeRoom_119.2.2.2.2.1
theorem dX3_makeRoom_126 : decode cX3_makeRoom 126 = .ok (.aload_n 0, 1) := da9_dX3_makeRoom_119.2.2.2.2.2.1
theorem dX3_makeRoom_127 : decode cX3_makeRoom 127 = .ok (.getfield 51, 3) := da9_dX3_makeRoom_119.2.2.2.2.2.2.1
theorem dX3_makeRoom_130 : decode cX3_makeRoom 130 = .ok (.if_icmp .gt 27, 3) := da9_dX3_makeRoom_119.2.2.2.2.2.2.2.1
theorem dX3_makeRoom_133 : decode cX3_makeRoom 133 = .ok (.aload_n 0, 1) := da9_dX3_makeRoom_119.2.2.2.2.2.2.2.2.1
theorem dX3_makeRoom_134 : decode cX3_makeRoom 134 = .ok (.getfield 36, 3) := da9_dX3_makeRoom_119.2.2.2.2.2.2.2.2.2.1
theorem dX3_makeRoom_137 : decode cX3_makeRoom 137 = .ok (.iload_n 1, 1) := da9_dX3_makeRoom_119.2.2.2.2.2.2.2.2.2.2.1
theorem dX3_makeRoom_138 : decode cX3_makeRoom 138 = .ok (.bipush 6, 2) := da9_dX3_makeRoom_119.2.2.2.2.2.2.2.2.2.2.2.1
theorem dX3_makeRoom_140 : decode cX3_makeRoom 140 = .ok (.imul, 1) := da9_dX3_makeRoom_119.2.2.2.2.2.2.2.2.2.2.2.2.1
theorem dX3_makeRoom_141 : decode cX3_makeRoom 141 = .ok (.iload_n 2, 1) := da9_dX3_makeRoom_119.2.2.2.2.2.2.2.2.2.2.2.2.2.1
theorem dX3_makeRoom_142 : decode cX3_makeRoom 142 = .ok (.iadd, 1) := da9_dX3_makeRoom_119.2.2.2.2.2.2.2.2.2.2.2.2.2.2.1
theorem dX3_makeRoom_143 : decode cX3_makeRoom 143 = .ok (.iconst 1, 1) := da9_dX3_makeRoom_119.2.2.2.2.2.2.2.2.2.2.2.2.2.2.2
theorem da9_dX3_makeRoom_144 : (decode cX3_makeRoom 144 = .ok (.isub, 1)) ∧ (decode cX3_makeRoom 145 = .ok (.iload_n 1, 1)) ∧ (decode cX3_makeRoom 146 = .ok (.iload_n 2, 1)) ∧ (decode cX3_makeRoom 147 = .ok (.invokestatic 194, 3)) ∧ (decode cX3_makeRoom 150 = .ok (.iastore, 1)) ∧ (decode cX3_makeRoom 151 = .ok (.iinc 2 1, 3)) ∧ (decode cX3_makeRoom 154 = .ok (.goto (-29), 3)) ∧ (decode cX3_makeRoom 157 = .ok (.iinc 1 1, 3)) ∧ (decode cX3_makeRoom 160 = .ok (.goto (-47), 3)) ∧ (decode cX3_makeRoom 163 = .ok (.return_, 1)) := by decide +kernel
theorem dX3_makeRoom_144 : decode cX3_makeRoom 144 = .ok (.isub, 1) := da9_dX3_makeRoom_144.1
theorem dX3_makeRoom_145 : decode cX3_makeRoom 145 = .ok (.iload_n 1, 1) := da9_dX3_makeRoom_144.2.1
theorem dX3_makeRoom_146 : decode cX3_makeRoom 146 = .ok (.iload_n 2, 1) := da9_dX3_makeRoom_144.2.2.1
theorem dX3_makeRoom_147 : decode cX3_makeRoom 147 = .ok (.invokestatic 194, 3) := da9_dX3_makeRoom_144.2.2.2.1
theorem dX3_makeRoom_150 : decode cX3_makeRoom 150 = .ok (.iastore, 1) := da9_dX3_makeRoom_144.2.2.2.2.1
theorem dX3_makeRoom_151 : decode cX3_makeRoom 151 = .ok (.iinc 2 1, 3) := da9_dX3_makeRoom_144.2.2.2.2.2.1
theorem dX3_makeRoom_154 : decode cX3_makeRoom 154 = .ok (.goto (-29), 3) := da9_dX3_makeRoom_144.2.2.2.2.2.2.1
theorem dX3_makeRoom_157 : decode cX3_makeRoom 157 = .ok (.iinc 1 1, 3) := da9_dX3_makeRoom_144.2.2.2.2.2.2.2.1
theorem dX3_makeRoom_160 : decode cX3_makeRoom 160 = .ok (.goto (-47), 3) := da9_dX3_makeRoom_144.2.2.2.2.2.2.2.2.1
theorem dX3_makeRoom_163 : decode cX3_makeRoom 163 = .ok (.return_, 1) := da9_dX3_makeRoom_144.2.2.2.2.2.2.2.2.2
