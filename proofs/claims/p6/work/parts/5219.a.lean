set_option maxRecDepth 20000 in
theorem ggX3_rowsToOrder_X3_measure : GoodIn wsX3_rowsToOrder wsX3_measure := goodIn_r _ [16, 17, 11, 18, 19, 1, 5, 4, 20, 21, 22, 23, 24, 25, 26, 27, 28, 15, 29, 30, 31, 32, 33, 34, 35, 36, 37, 38, 39, 40, 41, 42, 43, 44, 45, 46, 47, 48, 49, 50, 51, 56, 57, 58, 59, 60, 61, 62, 63, 64, 65, 66, 67, 68, 69, 70, 71, 72, 73, 74, 75] rfl (by decide +kernel)
set_option maxRecDepth 20000 in
theorem gX3_rowsToOrder_X3_measure : GoodIn wsX3_rowsToOrder (wsV RX3 113 RX3 yX3_measure wsX3_measure) := goodIn_app (goodIn_of _ (by decide +kernel)) ggX3_rowsToOrder_X3_measure
set_option maxRecDepth 20000 in
theorem ggX3_rowsToOrder_J7_fill_53178 : GoodIn wsX3_rowsToOrder wsJ7_fill_53178 := goodIn_r _ [33] rfl (by decide +kernel)
set_option maxRecDepth 20000 in
theorem gX3_rowsToOrder_J7_fill_53178 : GoodIn wsX3_rowsToOrder (va_wsS RX3 122 yJ7_fill_53178 wsJ7_fill_53178) := goodIn_app (goodIn_of _ (by decide +kernel)) ggX3_rowsToOrder_J7_fill_53178
set_option maxRecDepth 20000 in
theorem ggX3_rowsToOrder_X3_isCloser : GoodIn wsX3_rowsToOrder wsX3_isCloser := goodIn_r _ [55, 1, 20, 38, 39, 40, 15, 41, 11, 42, 43, 5, 44, 45, 46, 47, 48, 49, 50, 51, 56, 57, 58, 59, 60, 61, 62, 63, 64, 65, 66, 67, 68, 69, 70, 71, 72, 73, 74, 75] rfl (by decide +kernel)
set_option maxRecDepth 20000 in
theorem gX3_rowsToOrder_X3_isCloser : GoodIn wsX3_rowsToOrder (wsV RX3 129 RX3 yX3_isCloser wsX3_isCloser) := goodIn_app (goodIn_of _ (by decide +kernel)) ggX3_rowsToOrder_X3_isCloser
set_option maxRecDepth 20000 in
theorem ggX3_rowsToOrder_X3_turned : GoodIn wsX3_rowsToOrder wsX3_turned := goodIn_r _ [41, 11, 42, 43, 5, 56, 57, 58, 59, 60, 61, 62, 63, 64, 65, 66, 67, 68, 69, 70, 71, 72, 73, 74, 75] rfl (by decide +kernel)
set_option maxRecDepth 20000 in
theorem gX3_rowsToOrder_X3_turned : GoodIn wsX3_rowsToOrder (wsV RX3 119 RX3 yX3_turned wsX3_turned) := goodIn_app (goodIn_of _ (by decide +kernel)) ggX3_rowsToOrder_X3_turned
theorem da9_dX3_rowsToOrder_0 : (decode cX3_rowsToOrder 0 = .ok (.aload_n 0, 1)) ∧ (decode cX3_rowsToOrder 1 = .ok (.invokevirtual 113, 3)) ∧ (decode cX3_rowsToOrder 4 = .ok (.aload_n 0, 1)) ∧ (decode cX3_rowsToOrder 5 = .ok (.getfield 39, 3)) ∧ (decode cX3_rowsToOrder 8 = .ok (.aload_n 0, 1)) ∧ (decode cX3_rowsToOrder 9 = .ok (.getfield 58, 3)) ∧ (decode cX3_rowsToOrder 12 = .ok (.iaload, 1)) ∧ (decode cX3_rowsToOrder 13 = .ok (.iconst (-1), 1)) ∧ (decode cX3_rowsToOrder 14 = .ok (.if_icmp .ne 5, 3)) ∧ (decode cX3_rowsToOrder 17 = .ok (.iconst 0, 1)) ∧ (decode cX3_rowsToOrder 18 = .ok (.ireturn, 1)) ∧ (decode cX3_rowsToOrder 19 = .ok (.aload_n 0, 1)) ∧ (decode cX3_rowsToOrder 20 = .ok (.getfield 42, 3)) ∧ (decode cX3_rowsToOrder 23 = .ok (.iconst 0, 1)) ∧ (decode cX3_rowsToOrder 24 = .ok (.invokestatic 122, 3)) ∧ (decode cX3_rowsToOrder 27 = .ok (.aload_n 0, 1)) := by decide +kernel
theorem dX3_rowsToOrder_0 : decode cX3_rowsToOrder 0 = .ok (.aload_n 0, 1) := da9_dX3_rowsToOrder_0.1
theorem dX3_rowsToOrder_1 : decode cX3_rowsToOrder 1 = .ok (.invokevirtual 113, 3) := da9_dX3_rowsToOrder_0.2.1
theorem dX3_rowsToOrder_4 : decode cX3_rowsToOrder 4 = .ok (.aload_n 0, 1) := da9_dX3_rowsToOrder_0.2.2.1
theorem dX3_rowsToOrder_5 : decode cX3_rowsToOrder 5 = .ok (.getfield 39, 3) := da9_dX3_rowsToOrder_0.2.2.2.1
theorem dX3_rowsToOrder_8 : decode cX3_rowsToOrder 8 = .ok (.aload_n 0, 1) := da9_dX3_rowsToOrder_0.2.2.2.2.1
theorem dX3_rowsToOrder_9 : decode cX3_rowsToOrder 9 = .ok (.getfield 58, 3) := da9_dX3_rowsToOrder_0.2.2.2.2.2.1
theorem dX3_rowsToOrder_12 : decode cX3_rowsToOrder 12 = .ok (.iaload, 1) := da9_dX3_rowsToOrder_0.2.2.2.2.2.2.1
theorem dX3_rowsToOrder_13 : decode cX3_rowsToOrder 13 = .ok (.iconst (-1), 1) := da9_dX3_rowsToOrder_0.2.2.2.2.2.2.2.1
theorem dX3_rowsToOrder_14 : decode cX3_rowsToOrder 14 = .ok (.if_icmp .ne 5, 3) := da9_dX3_rowsToOrder_0.2.2.2.2.2.2.2.2.1
theorem dX3_rowsToOrder_17 : decode cX3_rowsToOrder 17 = .ok (.iconst 0, 1) := da9_dX3_rowsToOrder_0.2.2.2.2.2.2.2.2.2.1
theorem dX3_rowsToOrder_18 : decode cX3_rowsToOrder 18 = .ok (.ireturn, 1) := da9_dX3_rowsToOrder_0.2.2.2.2.2.2.2.2.2.2.1
theorem dX3_rowsToOrder_19 : decode cX3_rowsToOrder 19 = .ok (.aload_n 0, 1) := da9_dX3_rowsToOrder_0.2.2.2.2.2.2.2.2.2.2.2.1
theorem dX3_rowsToOrder_20 : decode cX3_rowsToOrder 20 = .ok (.getfield 42, 3) := da9_dX3_rowsToOrder_0.2.2.2.2.2.2.2.2.2.2.2.2.1
theorem dX3_rowsToOrder_23 : decode cX3_rowsToOrder 23 = .ok (.iconst 0, 1) := da9_dX3_rowsToOrder_0.2.2.2.2.2.2.2.2.2.2.2.2.2.1
theorem dX3_rowsToOrder_24 : decode cX3_rowsToOrder 24 = .ok (.invokestatic 122, 3) := da9_dX3_rowsToOrder_0.2.2.2.2.2.2.2.2.2.2.2.2.2.2.1
theorem dX3_rowsToOrder_27 : decode cX3_rowsToOrder 27 = .ok (.aload_n 0, 1) := da9_dX3_rowsToOrder_0.2.2.2.2.2.2.2.2.2.2.2.2.2.2.2
theorem da9_dX3_rowsToOrder_28 : (decode cX3_rowsToOrder 28 = .ok (.getfield 42, 3)) ∧ (decode cX3_rowsToOrder 31 = .ok (.aload_n 0, 1)) ∧ (decode cX3_rowsToOrder 32 = .ok (.getfield 58, 3)) ∧ (decode cX3_rowsToOrder 35 = .ok (.iconst 1, 1)) ∧ (decode cX3_rowsToOrder 36 = .ok (.iastore, 1)) ∧ (decode cX3_rowsToOrder 37 = .ok (.aload_n 0, 1)) ∧ (decode cX3_rowsToOrder 38 = .ok (.getfield 45, 3)) ∧ (decode cX3_rowsToOrder 41 = .ok (.iconst 0, 1)) ∧ (decode cX3_rowsToOrder 42 = .ok (.aload_n 0, 1)) ∧ (decode cX3_rowsToOrder 43 = .ok (.getfield 58, 3)) ∧ (decode cX3_rowsToOrder 46 = .ok (.iastore, 1)) ∧ (decode cX3_rowsToOrder 47 = .ok (.iconst 1, 1)) ∧ (decode cX3_rowsToOrder 48 = .ok (.istore_n 1, 1)) ∧ (decode cX3_rowsToOrder 49 = .ok (.iconst 0, 1)) ∧ (decode cX3_rowsToOrder 50 = .ok (.istore_n 2, 1)) ∧ (decode cX3_rowsToOrder 51 = .ok (.iconst 0, 1)) := by decide +kernel
theorem dX3_rowsToOrder_28 : decode cX3_rowsToOrder 28 = .ok (.getfield 42, 3) := da9_dX3_rowsToOrder_28.1
theorem dX3_rowsToOrder_31 : decode cX3_rowsToOrder 31 = .ok (.aload_n 0, 1) := da9_dX3_rowsToOrder_28.2.1
theorem dX3_rowsToOrder_32 : decode cX3_rowsToOrder 32 = .ok (.getfield 58, 3) := da9_dX3_rowsToOrder_28.2.2.1
theorem dX3_rowsToOrder_35 : decode cX3_rowsToOrder 35 = .ok (.iconst 1, 1) := da9_dX3_rowsToOrder_28.2.2.2.1
theorem dX3_rowsToOrder_36 : decode cX3_rowsToOrder 36 = .ok (.iastore, 1) := da9_dX3_rowsToOrder_28.2.2.2.2.1
theorem dX3_rowsToOrder_37 : decode cX3_rowsToOrder 37 = .ok (.aload_n 0, 1) := da9_dX3_rowsToOrder_28.2.2.2.2.2.1
theorem dX3_rowsToOrder_38 : decode cX3_rowsToOrder 38 = .ok (.getfield 45, 3) := da9_dX3_rowsToOrder_28.2.2.2.2.2.2.1
theorem dX3_rowsToOrder_41 : decode cX3_rowsToOrder 41 = .ok (.iconst 0, 1) := da9_dX3_rowsToOrder_28.2.2.2.2.2.2.2.1
theorem dX3_rowsToOrder_42 : decode cX3_rowsToOrder 42 = .ok (.aload_n 0, 1) := da9_dX3_rowsToOrder_28.2.2.2.2.2.2.2.2.1
theorem dX3_rowsToOrder_43 : decode cX3_rowsToOrder 43 = .ok (.getfield 58, 3) := da9_dX3_rowsToOrder_28.2.2.2.2.2.2.2.2.2.1
theorem dX3_rowsToOrder_46 : decode cX3_rowsToOrder 46 = .ok (.iastore, 1) := da9_dX3_rowsToOrder_28.2.2.2.2.2.2.2.2.2.2.1
theorem dX3_rowsToOrder_47 : decode cX3_rowsToOrder 47 = .ok (.iconst 1, 1) := da9_dX3_rowsToOrder_28.2.2.2.2.2.2.2.2.2.2.2.1
theorem dX3_rowsToOrder_48 : decode cX3_rowsToOrder 48 = .ok (.istore_n 1, 1) := da9_dX3_rowsToOrder_28.2.2.2.2.2.2.2.2.2.2.2.2.1
theorem dX3_rowsToOrder_49 : decode cX3_rowsToOrder 49 = .ok (.iconst 0, 1) := da9_dX3_rowsToOrder_28.2.2.2.2.2.2.2.2.2.2.2.2.2.1
theorem dX3_rowsToOrder_50 : decode cX3_rowsToOrder 50 = .ok (.istore_n 2, 1) := da9_dX3_rowsToOrder_28.2.2.2.2.2.2.2.2.2.2.2.2.2.2.1
theorem dX3_rowsToOrder_51 : decode cX3_rowsToOrder 51 = .ok (.iconst 0, 1) := da9_dX3_rowsToOrder_28.2.2.2.2.2.2.2.2.2.2.2.2.2.2.2
theorem da9_dX3_rowsToOrder_52 : (decode cX3_rowsToOrder 52 = .ok (.istore_n 3, 1)) ∧ (decode cX3_rowsToOrder 53 = .ok (.iload_n 3, 1)) ∧ (decode cX3_rowsToOrder 54 = .ok (.aload_n 0, 1)) ∧ (decode cX3_rowsToOrder 55 = .ok (.getfield 55, 3)) ∧ (decode cX3_rowsToOrder 58 = .ok (.if_icmp .ge 142, 3)) ∧ (decode cX3_rowsToOrder 61 = .ok (.iload_n 3, 1)) ∧ (decode cX3_rowsToOrder 62 = .ok (.iload_n 1, 1)) ∧ (decode cX3_rowsToOrder 63 = .ok (.if_icmp .ge 137, 3)) ∧ (decode cX3_rowsToOrder 66 = .ok (.aload_n 0, 1)) ∧ (decode cX3_rowsToOrder 67 = .ok (.getfield 45, 3)) ∧ (decode cX3_rowsToOrder 70 = .ok (.iload_n 3, 1)) ∧ (decode cX3_rowsToOrder 71 = .ok (.iaload, 1)) ∧ (decode cX3_rowsToOrder 72 = .ok (.istore 4, 2)) ∧ (decode cX3_rowsToOrder 74 = .ok (.aload_n 0, 1)) ∧ (decode cX3_rowsToOrder 75 = .ok (.getfield 39, 3)) ∧ (decode cX3_rowsToOrder 78 = .ok (.iload 4, 2)) := by decide +kernel
theorem dX3_rowsToOrder_52 : decode cX3_rowsToOrder 52 = .ok (.istore_n 3, 1) := da9_dX3_rowsToOrder_52.1
theorem dX3_rowsToOrder_53 : decode cX3_rowsToOrder 53 = .ok (.iload_n 3, 1) := da9_dX3_rowsToOrder_52.2.1
theorem dX3_rowsToOrder_54 : decode cX3_rowsToOrder 54 = .ok (.aload_n 0, 1) := da9_dX3_rowsToOrder_52.2.2.1
theorem dX3_rowsToOrder_55 : decode cX3_rowsToOrder 55 = .ok (.getfield 55, 3) := da9_dX3_rowsToOrder_52.2.2.2.1
theorem dX3_rowsToOrder_58 : decode cX3_rowsToOrder 58 = .ok (.if_icmp .ge 142, 3) := da9_dX3_rowsToOrder_52.2.2.2.2.1
theorem dX3_rowsToOrder_61 : decode cX3_rowsToOrder 61 = .ok (.iload_n 3, 1) := da9_dX3_rowsToOrder_52.2.2.2.2.2.1
theorem dX3_rowsToOrder_62 : decode cX3_rowsToOrder 62 = .ok (.iload_n 1, 1) := da9_dX3_rowsToOrder_52.2.2.2.2.2.2.1
theorem dX3_rowsToOrder_63 : decode cX3_rowsToOrder 63 = .ok (.if_icmp .ge 137, 3) := da9_dX3_rowsToOrder_52.2.2.2.2.2.2.2.1
theorem dX3_rowsToOrder_66 : decode cX3_rowsToOrder 66 = .ok (.aload_n 0, 1) := da9_dX3_rowsToOrder_52.2.2.2.2.2.2.2.2.1
theorem dX3_rowsToOrder_67 : decode cX3_rowsToOrder 67 = .ok (.getfield 45, 3) := da9_dX3_rowsToOrder_52.2.2.2.2.2.2.2.2.2.1
theorem dX3_rowsToOrder_70 : decode cX3_rowsToOrder 70 = .ok (.iload_n 3, 1) := da9_dX3_rowsToOrder_52.2.2.2.2.2.2.2.2.2.2.1
theorem dX3_rowsToOrder_71 : decode cX3_rowsToOrder 71 = .ok (.iaload, 1) := da9_dX3_rowsToOrder_52.2.2.2.2.2.2.2.2.2.2.2.1
theorem dX3_rowsToOrder_72 : decode cX3_rowsToOrder 72 = .ok (.istore 4, 2) := da9_dX3_rowsToOrder_52.2.2.2.2.2.2.2.2.2.2.2.2.1
theorem dX3_rowsToOrder_74 : decode cX3_rowsToOrder 74 = .ok (.aload_n 0, 1) := da9_dX3_rowsToOrder_52.2.2.2.2.2.2.2.2.2.2.2.2.2.1
theorem dX3_rowsToOrder_75 : decode cX3_rowsToOrder 75 = .ok (.getfield 39, 3) := da9_dX3_rowsToOrder_52.2.2.2.2.2.2.2.2.2.2.2.2.2.2.1
theorem dX3_rowsToOrder_78 : decode cX3_rowsToOrder 78 = .ok (.iload 4, 2) := da9_dX3_rowsToOrder_52.2.2.2.2.2.2.2.2.2.2.2.2.2.2.2
theorem da9_dX3_rowsToOrder_80 : (decode cX3_rowsToOrder 80 = .ok (.iaload, 1)) ∧ (decode cX3_rowsToOrder 81 = .ok (.ifCond .ne 18, 3)) ∧ (decode cX3_rowsToOrder 84 = .ok (.ldc 128, 2)) ∧ (decode cX3_rowsToOrder 86 = .ok (.iload_n 2, 1)) ∧ (decode cX3_rowsToOrder 87 = .ok (.aload_n 0, 1)) ∧ (decode cX3_rowsToOrder 88 = .ok (.getfield 42, 3)) ∧ (decode cX3_rowsToOrder 91 = .ok (.iload 4, 2)) ∧ (decode cX3_rowsToOrder 93 = .ok (.iaload, 1)) ∧ (decode cX3_rowsToOrder 94 = .ok (.iadd, 1)) ∧ (decode cX3_rowsToOrder 95 = .ok (.invokestatic 100, 3)) ∧ (decode cX3_rowsToOrder 98 = .ok (.istore_n 2, 1)) ∧ (decode cX3_rowsToOrder 99 = .ok (.iconst 1, 1)) ∧ (decode cX3_rowsToOrder 100 = .ok (.istore 5, 2)) ∧ (decode cX3_rowsToOrder 102 = .ok (.iload 5, 2)) ∧ (decode cX3_rowsToOrder 104 = .ok (.aload_n 0, 1)) ∧ (decode cX3_rowsToOrder 105 = .ok (.getfield 51, 3)) := by decide +kernel
theorem dX3_rowsToOrder_80 : decode cX3_rowsToOrder 80 = .ok (.iaload, 1) := da9_dX3_rowsToOrder_80.1
theorem dX3_rowsToOrder_81 : decode cX3_rowsToOrder 81 = .ok (.ifCond .ne 18, 3) := da9_dX3_rowsToOrder_80.2.1
theorem dX3_rowsToOrder_84 : decode cX3_rowsToOrder 84 = .ok (.ldc 128, 2) := da9_dX3_rowsToOrder_80.2.2.1
theorem dX3_rowsToOrder_86 : decode cX3_rowsToOrder 86 = .ok (.iload_n 2, 1) := da9_dX3_rowsToOrder_80.2.2.2.1
theorem dX3_rowsToOrder_87 : decode cX3_rowsToOrder 87 = .ok (.aload_n 0, 1) := da9_dX3_rowsToOrder_80.2.2.2.2.1
theorem dX3_rowsToOrder_88 : decode cX3_rowsToOrder 88 = .ok (.getfield 42, 3) := da9_dX3_rowsToOrder_80.2.2.2.2.2.1
theorem dX3_rowsToOrder_91 : decode cX3_rowsToOrder 91 = .ok (.iload 4, 2) := da9_dX3_rowsToOrder_80.2.2.2.2.2.2.1
theorem dX3_rowsToOrder_93 : decode cX3_rowsToOrder 93 = .ok (.iaload, 1) := da9_dX3_rowsToOrder_80.2.2.2.2.2.2.2.1
theorem dX3_rowsToOrder_94 : decode cX3_rowsToOrder 94 = .ok (.iadd, 1) := da9_dX3_rowsToOrder_80.2.2.2.2.2.2.2.2.1
theorem dX3_rowsToOrder_95 : decode cX3_rowsToOrder 95 = .ok (.invokestatic 100, 3) := da9_dX3_rowsToOrder_80.2.2.2.2.2.2.2.2.2.1
theorem dX3_rowsToOrder_98 : decode cX3_rowsToOrder 98 = .ok (.istore_n 2, 1) := da9_dX3_rowsToOrder_80.2.2.2.2.2.2.2.2.2.2.1
theorem dX3_rowsToOrder_99 : decode cX3_rowsToOrder 99 = .ok (.iconst 1, 1) := da9_dX3_rowsToOrder_80.2.2.2.2.2.2.2.2.2.2.2.1
theorem dX3_rowsToOrder_100 : decode cX3_rowsToOrder 100 = .ok (.istore 5, 2) := da9_dX3_rowsToOrder_80.2.2.2.2.2.2.2.2.2.2.2.2.1
theorem dX3_rowsToOrder_102 : decode cX3_rowsToOrder 102 = .ok (.iload 5, 2) := da9_dX3_rowsToOrder_80.2.2.2.2.2.2.2.2.2.2.2.2.2.1
theorem dX3_rowsToOrder_104 : decode cX3_rowsToOrder 104 = .ok (.aload_n 0, 1) := da9_dX3_rowsToOrder_80.2.2.2.2.2.2.2.2.2.2.2.2.2.2.1
theorem dX3_rowsToOrder_105 : decode cX3_rowsToOrder 105 = .ok (.getfield 51, 3) := da9_dX3_rowsToOrder_80.2.2.2.2.2.2.2.2.2.2.2.2.2.2.2
theorem da9_dX3_rowsToOrder_108 : (decode cX3_rowsToOrder 108 = .ok (.if_icmp .gt 86, 3)) ∧ (decode cX3_rowsToOrder 111 = .ok (.aload_n 0, 1)) ∧ (decode cX3_rowsToOrder 112 = .ok (.iload 4, 2)) ∧ (decode cX3_rowsToOrder 114 = .ok (.iload 5, 2)) ∧ (decode cX3_rowsToOrder 116 = .ok (.invokevirtual 129, 3)) ∧ (decode cX3_rowsToOrder 119 = .ok (.ifCond .eq 69, 3)) ∧ (decode cX3_rowsToOrder 122 = .ok (.aload_n 0, 1)) ∧ (decode cX3_rowsToOrder 123 = .ok (.iload 4, 2)) ∧ (decode cX3_rowsToOrder 125 = .ok (.iload 5, 2)) ∧ (decode cX3_rowsToOrder 127 = .ok (.invokevirtual 119, 3)) ∧ (decode cX3_rowsToOrder 130 = .ok (.istore 6, 2)) ∧ (decode cX3_rowsToOrder 132 = .ok (.aload_n 0, 1)) ∧ (decode cX3_rowsToOrder 133 = .ok (.getfield 42, 3)) ∧ (decode cX3_rowsToOrder 136 = .ok (.iload 6, 2)) ∧ (decode cX3_rowsToOrder 138 = .ok (.iaload, 1)) ∧ (decode cX3_rowsToOrder 139 = .ok (.ifCond .ne 22, 3)) := by decide +kernel
theorem dX3_rowsToOrder_108 : decode cX3_rowsToOrder 108 = .ok (.if_icmp .gt 86, 3) := da9_dX3_rowsToOrder_108.1
theorem dX3_rowsToOrder_111 : decode cX3_rowsToOrder 111 = .ok (.aload_n 0, 1) := da9_dX3_rowsToOrder_108.2.1
theorem dX3_rowsToOrder_112 : decode cX3_rowsToOrder 112 = .ok (.iload 4, 2) := da9_dX3_rowsToOrder_108.2.2.1
theorem dX3_rowsToOrder_114 : decode cX3_rowsToOrder 114 = .ok (.iload 5, 2) := da9_dX3_rowsToOrder_108.2.2.2.1
theorem dX3_rowsToOrder_116 : decode cX3_rowsToOrder 116 = .ok (.invokevirtual 129, 3) := da9_dX3_rowsToOrder_108.2.2.2.2.1
theorem dX3_rowsToOrder_119 : decode cX3_rowsToOrder 119 = .ok (.ifCond .eq 69, 3) := da9_dX3_rowsToOrder_108.2.2.2.2.2.1
theorem dX3_rowsToOrder_122 : decode cX3_rowsToOrder 122 = .ok (.aload_n 0, 1) := da9_dX3_rowsToOrder_108.2.2.2.2.2.2.1
theorem dX3_rowsToOrder_123 : decode cX3_rowsToOrder 123 = .ok (.iload 4, 2) := da9_dX3_rowsToOrder_108.2.2.2.2.2.2.2.1
theorem dX3_rowsToOrder_125 : decode cX3_rowsToOrder 125 = .ok (.iload 5, 2) := da9_dX3_rowsToOrder_108.2.2.2.2.2.2.2.2.1
theorem dX3_rowsToOrder_127 : decode cX3_rowsToOrder 127 = .ok (.invokevirtual 119, 3) := da9_dX3_rowsToOrder_108.2.2.2.2.2.2.2.2.2.1
theorem dX3_rowsToOrder_130 : decode cX3_rowsToOrder 130 = .ok (.istore 6, 2) := da9_dX3_rowsToOrder_108.2.2.2.2.2.2.2.2.2.2.1
theorem dX3_rowsToOrder_132 : decode cX3_rowsToOrder 132 = .ok (.aload_n 0, 1) := da9_dX3_rowsToOrder_108.2.2.2.2.2.2.2.2.2.2.2.1
theorem dX3_rowsToOrder_133 : decode cX3_rowsToOrder 133 = .ok (.getfield 42, 3) := da9_dX3_rowsToOrder_108.2.2.2.2.2.2.2.2.2.2.2.2.1
theorem dX3_rowsToOrder_136 : decode cX3_rowsToOrder 136 = .ok (.iload 6, 2) := da9_dX3_rowsToOrder_108.2.2.2.2.2.2.2.2.2.2.2.2.2.1
theorem dX3_rowsToOrder_138 : decode cX3_rowsToOrder 138 = .ok (.iaload, 1) := da9_dX3_rowsToOrder_108.2.2.2.2.2.2.2.2.2.2.2.2.2.2.1
theorem dX3_rowsToOrder_139 : decode cX3_rowsToOrder 139 = .ok (.ifCond .ne 22, 3) := da9_dX3_rowsToOrder_108.2.2.2.2.2.2.2.2.2.2.2.2.2.2.2
theorem da9_dX3_rowsToOrder_142 : (decode cX3_rowsToOrder 142 = .ok (.iload_n 1, 1)) ∧ (decode cX3_rowsToOrder 143 = .ok (.aload_n 0, 1)) ∧ (decode cX3_rowsToOrder 144 = .ok (.getfield 55, 3)) ∧ (decode cX3_rowsToOrder 147 = .ok (.if_icmp .ge 14, 3)) ∧ (decode cX3_rowsToOrder 150 = .ok (.aload_n 0, 1)) ∧ (decode cX3_rowsToOrder 151 = .ok (.getfield 45, 3)) ∧ (decode cX3_rowsToOrder 154 = .ok (.iload_n 1, 1)) ∧ (decode cX3_rowsToOrder 155 = .ok (.iload 6, 2)) ∧ (decode cX3_rowsToOrder 157 = .ok (.iastore, 1)) ∧ (decode cX3_rowsToOrder 158 = .ok (.iinc 1 1, 3)) ∧ (decode cX3_rowsToOrder 161 = .ok (.aload_n 0, 1)) ∧ (decode cX3_rowsToOrder 162 = .ok (.getfield 42, 3)) ∧ (decode cX3_rowsToOrder 165 = .ok (.iload 6, 2)) ∧ (decode cX3_rowsToOrder 167 = .ok (.ldc 128, 2)) ∧ (decode cX3_rowsToOrder 169 = .ok (.aload_n 0, 1)) ∧ (decode cX3_rowsToOrder 170 = .ok (.getfield 42, 3)) := by decide +kernel
theorem dX3_rowsToOrder_142 : decode cX3_rowsToOrder 142 = .ok (.iload_n 1, 1) := da9_dX3_rowsToOrder_142.1
theorem dX3_rowsToOrder_143 : decode cX3_rowsToOrder 143 = .ok (.aload_n 0, 1) := da9_dX3_rowsToOrder_142.2.1
theorem dX3_rowsToOrder_144 : decode cX3_rowsToOrder 144 = .ok (.getfield 55, 3) := da9_dX3_rowsToOrder_142.2.2.1
theorem dX3_rowsToOrder_147 : decode cX3_rowsToOrder 147 = .ok (.if_icmp .ge 14, 3) := da9_dX3_rowsToOrder_142.2.2.2.1
theorem dX3_rowsToOrder_150 : decode cX3_rowsToOrder 150 = .ok (.aload_n 0, 1) := da9_dX3_rowsToOrder_142.2.2.2.2.1
theorem dX3_rowsToOrder_151 : decode cX3_rowsToOrder 151 = .ok (.getfield 45, 3) := da9_dX3_rowsToOrder_142.2.2.2.2.2.1
theorem dX3_rowsToOrder_154 : decode cX3_rowsToOrder 154 = .ok (.iload_n 1, 1) := da9_dX3_rowsToOrder_142.2.2.2.2.2.2.1
theorem dX3_rowsToOrder_155 : decode cX3_rowsToOrder 155 = .ok (.iload 6, 2) := da9_dX3_rowsToOrder_142.2.2.2.2.2.2.2.1
theorem dX3_rowsToOrder_157 : decode cX3_rowsToOrder 157 = .ok (.iastore, 1) := da9_dX3_rowsToOrder_142.2.2.2.2.2.2.2.2.1
theorem dX3_rowsToOrder_158 : decode cX3_rowsToOrder 158 = .ok (.iinc 1 1, 3) := da9_dX3_rowsToOrder_142.2.2.2.2.2.2.2.2.2.1
theorem dX3_rowsToOrder_161 : decode cX3_rowsToOrder 161 = .ok (.aload_n 0, 1) := da9_dX3_rowsToOrder_142.2.2.2.2.2.2.2.2.2.2.1
theorem dX3_rowsToOrder_162 : decode cX3_rowsToOrder 162 = .ok (.getfield 42, 3) := da9_dX3_rowsToOrder_142.2.2.2.2.2.2.2.2.2.2.2.1
theorem dX3_rowsToOrder_165 : decode cX3_rowsToOrder 165 = .ok (.iload 6, 2) := da9_dX3_rowsToOrder_142.2.2.2.2.2.2.2.2.2.2.2.2.1
theorem dX3_rowsToOrder_167 : decode cX3_rowsToOrder 167 = .ok (.ldc 128, 2) := da9_dX3_rowsToOrder_142.2.2.2.2.2.2.2.2.2.2.2.2.2.1
theorem dX3_rowsToOrder_169 : decode cX3_rowsToOrder 169 = .ok (.aload_n 0, 1) := da9_dX3_rowsToOrder_142.2.2.2.2.2.2.2.2.2.2.2.2.2.2.1
theorem dX3_rowsToOrder_170 : decode cX3_rowsToOrder 170 = .ok (.getfield 42, 3) := da9_dX3_rowsToOrder_142.2.2.2.2.2.2.2.2.2.2.2.2.2.2.2
theorem da9_dX3_rowsToOrder_173 : (decode cX3_rowsToOrder 173 = .ok (.iload 6, 2)) ∧ (decode cX3_rowsToOrder 175 = .ok (.iaload, 1)) ∧ (decode cX3_rowsToOrder 176 = .ok (.aload_n 0, 1)) ∧ (decode cX3_rowsToOrder 177 = .ok (.getfield 42, 3)) ∧ (decode cX3_rowsToOrder 180 = .ok (.iload 4, 2)) ∧ (decode cX3_rowsToOrder 182 = .ok (.iaload, 1)) ∧ (decode cX3_rowsToOrder 183 = .ok (.iadd, 1)) ∧ (decode cX3_rowsToOrder 184 = .ok (.invokestatic 100, 3)) ∧ (decode cX3_rowsToOrder 187 = .ok (.iastore, 1)) ∧ (decode cX3_rowsToOrder 188 = .ok (.iinc 5 1, 3)) ∧ (decode cX3_rowsToOrder 191 = .ok (.goto (-89), 3)) ∧ (decode cX3_rowsToOrder 194 = .ok (.iinc 3 1, 3)) ∧ (decode cX3_rowsToOrder 197 = .ok (.goto (-144), 3)) ∧ (decode cX3_rowsToOrder 200 = .ok (.iload_n 2, 1)) ∧ (decode cX3_rowsToOrder 201 = .ok (.ireturn, 1)) := by decide +kernel
theorem dX3_rowsToOrder_173 : decode cX3_rowsToOrder 173 = .ok (.iload 6, 2) := da9_dX3_rowsToOrder_173.1
theorem dX3_rowsToOrder_175 : decode cX3_rowsToOrder 175 = .ok (.iaload, 1) := da9_dX3_rowsToOrder_173.2.1
theorem dX3_rowsToOrder_176 : decode cX3_rowsToOrder 176 = .ok (.aload_n 0, 1) := da9_dX3_rowsToOrder_173.2.2.1
theorem dX3_rowsToOrder_177 : decode cX3_rowsToOrder 177 = .ok (.getfield 42, 3) := da9_dX3_rowsToOrder_173.2.2.2.1
theorem dX3_rowsToOrder_180 : decode cX3_rowsToOrder 180 = .ok (.iload 4, 2) := da9_dX3_rowsToOrder_173.2.2.2.2.1
theorem dX3_rowsToOrder_182 : decode cX3_rowsToOrder 182 = .ok (.iaload, 1) := da9_dX3_rowsToOrder_173.2.2.2.2.2.1
theorem dX3_rowsToOrder_183 : decode cX3_rowsToOrder 183 = .ok (.iadd, 1) := da9_dX3_rowsToOrder_173.2.2.2.2.2.2.1
theorem dX3_rowsToOrder_184 : decode cX3_rowsToOrder 184 = .ok (.invokestatic 100, 3) := da9_dX3_rowsToOrder_173.2.2.2.2.2.2.2.1
theorem dX3_rowsToOrder_187 : decode cX3_rowsToOrder 187 = .ok (.iastore, 1) := da9_dX3_rowsToOrder_173.2.2.2.2.2.2.2.2.1
theorem dX3_rowsToOrder_188 : decode cX3_rowsToOrder 188 = .ok (.iinc 5 1, 3) := da9_dX3_rowsToOrder_173.2.2.2.2.2.2.2.2.2.1
theorem dX3_rowsToOrder_191 : decode cX3_rowsToOrder 191 = .ok (.goto (-89), 3) := da9_dX3_rowsToOrder_173.2.2.2.2.2.2.2.2.2.2.1
theorem dX3_rowsToOrder_194 : decode cX3_rowsToOrder 194 = .ok (.iinc 3 1, 3) := da9_dX3_rowsToOrder_173.2.2.2.2.2.2.2.2.2.2.2.1
theorem dX3_rowsToOrder_197 : decode cX3_rowsToOrder 197 = .ok (.goto (-144), 3) := da9_dX3_rowsToOrder_173.2.2.2.2.2.2.2.2.2.2.2.2.1
theorem dX3_rowsToOrder_200 : decode cX3_rowsToOrder 200 = .ok (.iload_n 2, 1) := da9_dX3_rowsToOrder_173.2.2.2.2.2.2.2.2.2.2.2.2.2.1
theorem dX3_rowsToOrder_201 : decode cX3_rowsToOrder 201 = .ok (.ireturn, 1) := da9_dX3_rowsToOrder_173.2.2.2.2.2.2.2.2.2.2.2.2.2.2
set_option maxRecDepth 20000 in
theorem ggX9_many_X9_seated : GoodIn wsX9_many wsX9_seated := goodIn_r _ [6, 7, 8, 9, 10, 11, 12, 13, 14, 15, 16, 17, 18, 19, 20, 21, 22, 23, 24, 25, 26, 171, 172, 173, 174, 175, 176, 177, 178, 179, 180, 181, 182, 183, 184, 185, 186, 187, 188, 189, 190, 191, 192, 193, 194, 195, 196, 197, 198, 199, 200, 201, 202] rfl (by decide +kernel)
set_option maxRecDepth 20000 in
theorem gX9_many_X9_seated : GoodIn wsX9_many (wsV RX9 144 RX9 yX9_seated wsX9_seated) := goodIn_app (goodIn_of _ (by decide +kernel)) ggX9_many_X9_seated
set_option maxRecDepth 20000 in
theorem ggX9_many_X9_spread : GoodIn wsX9_many wsX9_spread := goodIn_r _ [30, 1, 8, 31, 32, 33, 34, 35, 36, 37, 38, 39, 40, 41, 42, 43, 44, 45, 46, 47, 48, 49, 50, 51, 52, 53, 54, 55, 56, 57, 58, 59, 60, 61, 62, 63, 64, 65, 66, 67, 68, 5, 69, 70, 71, 72, 73, 74, 75, 76, 77, 78, 79, 80, 81, 82, 83, 84, 85, 86, 87, 88, 89, 90, 91, 92, 93, 94, 95, 96, 97, 98, 99, 100, 23, 101, 26, 102, 103, 104, 105, 106, 107, 108, 109, 25, 110, 111, 112, 113, 114, 115, 116, 117, 118, 119, 120, 121, 122, 123, 124, 125, 126, 127, 128, 129, 130, 131, 132, 133, 134, 135, 171, 172, 173, 174, 175, 176, 177, 178, 179, 180, 181, 182, 183, 184, 185, 186, 187, 188, 189, 190, 191, 192, 193, 194, 195, 196, 197, 198, 199, 203, 204, 205, 206, 207, 208, 209, 210, 211, 212, 213, 214, 215, 216, 217, 218, 219, 220, 221, 222, 223, 224, 225, 226, 227, 200, 201, 202, 228, 229, 230, 231, 232, 233, 234, 235, 236, 237] rfl (by decide +kernel)
set_option maxRecDepth 20000 in
theorem gX9_many_X9_spread : GoodIn wsX9_many (wsV RX9 226 RX9 yX9_spread wsX9_spread) := goodIn_app (goodIn_of _ (by decide +kernel)) ggX9_many_X9_spread
set_option maxRecDepth 20000 in
theorem ggX9_many_X3_rowsToOrder : GoodIn wsX9_many wsX3_rowsToOrder := goodIn_r _ [139, 40, 47, 53, 54, 39, 140, 43, 44, 45, 46, 36, 141, 142, 143, 34, 144, 59, 145, 37, 92, 146, 147, 148, 149, 150, 151, 152, 153, 154, 94, 95, 96, 97, 155, 156, 157, 158, 159, 160, 161, 162, 57, 58, 163, 164, 165, 166, 56, 133, 134, 135, 167, 168, 169, 170, 208, 209, 210, 211, 212, 213, 214, 215, 216, 217, 218, 219, 220, 221, 222, 223, 224, 225, 226, 227] rfl (by decide +kernel)
set_option maxRecDepth 20000 in
theorem gX9_many_X3_rowsToOrder : GoodIn wsX9_many (wsV RX9 237 RX3 yX3_rowsToOrder wsX3_rowsToOrder) := goodIn_app (goodIn_of _ (by decide +kernel)) ggX9_many_X3_rowsToOrder
theorem da9_dX9_many_0 : (decode cX9_many 0 = .ok (.aload_n 0, 1)) ∧ (decode cX9_many 1 = .ok (.aload_n 0, 1)) ∧ (decode cX9_many 2 = .ok (.invokevirtual 144, 3)) ∧ (decode cX9_many 5 = .ok (.invokevirtual 226, 3)) ∧ (decode cX9_many 8 = .ok (.aload_n 0, 1)) ∧ (decode cX9_many 9 = .ok (.getfield 80, 3)) ∧ (decode cX9_many 12 = .ok (.invokevirtual 237, 3)) ∧ (decode cX9_many 15 = .ok (.ireturn, 1)) := by decide +kernel
theorem dX9_many_0 : decode cX9_many 0 = .ok (.aload_n 0, 1) := da9_dX9_many_0.1
theorem dX9_many_1 : decode cX9_many 1 = .ok (.aload_n 0, 1) := da9_dX9_many_0.2.1
theorem dX9_many_2 : decode cX9_many 2 = .ok (.invokevirtual 144, 3) := da9_dX9_many_0.2.2.1
theorem dX9_many_5 : decode cX9_many 5 = .ok (.invokevirtual 226, 3) := da9_dX9_many_0.2.2.2.1
theorem dX9_many_8 : decode cX9_many 8 = .ok (.aload_n 0, 1) := da9_dX9_many_0.2.2.2.2.1
theorem dX9_many_9 : decode cX9_many 9 = .ok (.getfield 80, 3) := da9_dX9_many_0.2.2.2.2.2.1
theorem dX9_many_12 : decode cX9_many 12 = .ok (.invokevirtual 237, 3) := da9_dX9_many_0.2.2.2.2.2.2.1
theorem dX9_many_15 : decode cX9_many 15 = .ok (.ireturn, 1) := da9_dX9_many_0.2.2.2.2.2.2.2
