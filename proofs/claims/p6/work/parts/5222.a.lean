set_option maxRecDepth 20000 in
theorem ggX3_towersReached_X3_nearest : GoodIn wsX3_towersReached wsX3_nearest := goodIn_r _ [6, 7, 8, 9, 1, 10, 11, 12, 13, 14, 15, 16, 17, 18, 19, 5, 20, 21, 22, 23, 24, 25, 26, 27, 28, 29, 30, 31, 32, 33, 34, 35, 36, 37, 38, 39, 40, 41, 42, 43, 44, 45, 46, 47, 48, 49, 50, 51, 52, 53, 54] rfl (by decide +kernel)
set_option maxRecDepth 20000 in
theorem gX3_towersReached_X3_nearest : GoodIn wsX3_towersReached (wsV RX3 137 RX3 yX3_nearest wsX3_nearest) := goodIn_app (goodIn_of _ (by decide +kernel)) ggX3_towersReached_X3_nearest
theorem da9_dX3_towersReached_0 : (decode cX3_towersReached 0 = .ok (.aload_n 0, 1)) ∧ (decode cX3_towersReached 1 = .ok (.iconst 0, 1)) ∧ (decode cX3_towersReached 2 = .ok (.iconst 0, 1)) ∧ (decode cX3_towersReached 3 = .ok (.invokevirtual 137, 3)) ∧ (decode cX3_towersReached 6 = .ok (.pop, 1)) ∧ (decode cX3_towersReached 7 = .ok (.aload_n 0, 1)) ∧ (decode cX3_towersReached 8 = .ok (.getfield 70, 3)) ∧ (decode cX3_towersReached 11 = .ok (.ireturn, 1)) := by decide +kernel
theorem dX3_towersReached_0 : decode cX3_towersReached 0 = .ok (.aload_n 0, 1) := da9_dX3_towersReached_0.1
theorem dX3_towersReached_1 : decode cX3_towersReached 1 = .ok (.iconst 0, 1) := da9_dX3_towersReached_0.2.1
theorem dX3_towersReached_2 : decode cX3_towersReached 2 = .ok (.iconst 0, 1) := da9_dX3_towersReached_0.2.2.1
theorem dX3_towersReached_3 : decode cX3_towersReached 3 = .ok (.invokevirtual 137, 3) := da9_dX3_towersReached_0.2.2.2.1
theorem dX3_towersReached_6 : decode cX3_towersReached 6 = .ok (.pop, 1) := da9_dX3_towersReached_0.2.2.2.2.1
theorem dX3_towersReached_7 : decode cX3_towersReached 7 = .ok (.aload_n 0, 1) := da9_dX3_towersReached_0.2.2.2.2.2.1
theorem dX3_towersReached_8 : decode cX3_towersReached 8 = .ok (.getfield 70, 3) := da9_dX3_towersReached_0.2.2.2.2.2.2.1
theorem dX3_towersReached_11 : decode cX3_towersReached 11 = .ok (.ireturn, 1) := da9_dX3_towersReached_0.2.2.2.2.2.2.2
set_option maxRecDepth 20000 in
theorem ggX3_turnsToTop_X3_indexOfRank : GoodIn wsX3_turnsToTop wsX3_indexOfRank := goodIn_r _ [5, 6, 7, 40, 41, 42, 43, 44, 45, 46, 47, 48, 49, 50, 51, 52, 53, 54, 55, 56, 57, 58, 59] rfl (by decide +kernel)
set_option maxRecDepth 20000 in
theorem gX3_turnsToTop_X3_indexOfRank : GoodIn wsX3_turnsToTop (wsV RX3 89 RX3 yX3_indexOfRank wsX3_indexOfRank) := goodIn_app (goodIn_of _ (by decide +kernel)) ggX3_turnsToTop_X3_indexOfRank
set_option maxRecDepth 20000 in
theorem ggX3_turnsToTop_X3_nearest : GoodIn wsX3_turnsToTop wsX3_nearest := goodIn_r _ [11, 12, 13, 14, 15, 16, 6, 17, 18, 19, 20, 21, 22, 23, 24, 4, 25, 26, 27, 28, 29, 30, 31, 32, 33, 34, 35, 36, 37, 38, 39, 40, 41, 42, 43, 44, 45, 46, 47, 48, 49, 50, 51, 52, 53, 54, 55, 56, 57, 58, 59] rfl (by decide +kernel)
set_option maxRecDepth 20000 in
theorem gX3_turnsToTop_X3_nearest : GoodIn wsX3_turnsToTop (wsV RX3 137 RX3 yX3_nearest wsX3_nearest) := goodIn_app (goodIn_of _ (by decide +kernel)) ggX3_turnsToTop_X3_nearest
theorem da9_dX3_turnsToTop_0 : (decode cX3_turnsToTop 0 = .ok (.aload_n 0, 1)) ∧ (decode cX3_turnsToTop 1 = .ok (.iconst 2, 1)) ∧ (decode cX3_turnsToTop 2 = .ok (.aload_n 0, 1)) ∧ (decode cX3_turnsToTop 3 = .ok (.iload_n 1, 1)) ∧ (decode cX3_turnsToTop 4 = .ok (.invokevirtual 89, 3)) ∧ (decode cX3_turnsToTop 7 = .ok (.invokevirtual 137, 3)) ∧ (decode cX3_turnsToTop 10 = .ok (.ireturn, 1)) := by decide +kernel
theorem dX3_turnsToTop_0 : decode cX3_turnsToTop 0 = .ok (.aload_n 0, 1) := da9_dX3_turnsToTop_0.1
theorem dX3_turnsToTop_1 : decode cX3_turnsToTop 1 = .ok (.iconst 2, 1) := da9_dX3_turnsToTop_0.2.1
theorem dX3_turnsToTop_2 : decode cX3_turnsToTop 2 = .ok (.aload_n 0, 1) := da9_dX3_turnsToTop_0.2.2.1
theorem dX3_turnsToTop_3 : decode cX3_turnsToTop 3 = .ok (.iload_n 1, 1) := da9_dX3_turnsToTop_0.2.2.2.1
theorem dX3_turnsToTop_4 : decode cX3_turnsToTop 4 = .ok (.invokevirtual 89, 3) := da9_dX3_turnsToTop_0.2.2.2.2.1
theorem dX3_turnsToTop_7 : decode cX3_turnsToTop 7 = .ok (.invokevirtual 137, 3) := da9_dX3_turnsToTop_0.2.2.2.2.2.1
theorem dX3_turnsToTop_10 : decode cX3_turnsToTop 10 = .ok (.ireturn, 1) := da9_dX3_turnsToTop_0.2.2.2.2.2.2
set_option maxRecDepth 20000 in
theorem ggX3_turnsToNumber_X3_indexOfRank : GoodIn wsX3_turnsToNumber wsX3_indexOfRank := goodIn_r _ [7, 2, 8, 49, 50, 51, 52, 53, 54, 55, 56, 57, 58, 59, 60, 61, 62, 63, 64, 65, 66, 67, 68] rfl (by decide +kernel)
set_option maxRecDepth 20000 in
theorem gX3_turnsToNumber_X3_indexOfRank : GoodIn wsX3_turnsToNumber (wsV RX3 89 RX3 yX3_indexOfRank wsX3_indexOfRank) := goodIn_app (goodIn_of _ (by decide +kernel)) ggX3_turnsToNumber_X3_indexOfRank
set_option maxRecDepth 20000 in
theorem ggX3_turnsToNumber_X3_numberOfOrder : GoodIn wsX3_turnsToNumber wsX3_numberOfOrder := goodIn_r _ [12, 1, 13, 14, 15, 16, 49, 50, 51, 52, 53, 54, 55, 56, 57, 58, 59, 60, 61, 62, 63, 64, 65, 66, 67, 68] rfl (by decide +kernel)
set_option maxRecDepth 20000 in
theorem gX3_turnsToNumber_X3_numberOfOrder : GoodIn wsX3_turnsToNumber (wsV RX3 96 RX3 yX3_numberOfOrder wsX3_numberOfOrder) := goodIn_app (goodIn_of _ (by decide +kernel)) ggX3_turnsToNumber_X3_numberOfOrder
set_option maxRecDepth 20000 in
theorem ggX3_turnsToNumber_X3_nearest : GoodIn wsX3_turnsToNumber wsX3_nearest := goodIn_r _ [20, 21, 22, 23, 24, 25, 2, 26, 27, 28, 29, 30, 31, 32, 33, 6, 34, 35, 36, 37, 38, 39, 40, 41, 42, 43, 44, 45, 46, 47, 48, 49, 50, 51, 52, 53, 54, 55, 56, 57, 58, 59, 60, 61, 62, 63, 64, 65, 66, 67, 68] rfl (by decide +kernel)
set_option maxRecDepth 20000 in
theorem gX3_turnsToNumber_X3_nearest : GoodIn wsX3_turnsToNumber (wsV RX3 137 RX3 yX3_nearest wsX3_nearest) := goodIn_app (goodIn_of _ (by decide +kernel)) ggX3_turnsToNumber_X3_nearest
theorem da9_dX3_turnsToNumber_0 : (decode cX3_turnsToNumber 0 = .ok (.iload_n 1, 1)) ∧ (decode cX3_turnsToNumber 1 = .ok (.ifCond .ge 5, 3)) ∧ (decode cX3_turnsToNumber 4 = .ok (.iconst (-1), 1)) ∧ (decode cX3_turnsToNumber 5 = .ok (.ireturn, 1)) ∧ (decode cX3_turnsToNumber 6 = .ok (.iload_n 1, 1)) ∧ (decode cX3_turnsToNumber 7 = .ok (.istore_n 2, 1)) ∧ (decode cX3_turnsToNumber 8 = .ok (.iconst 0, 1)) ∧ (decode cX3_turnsToNumber 9 = .ok (.istore_n 3, 1)) ∧ (decode cX3_turnsToNumber 10 = .ok (.iconst 5, 1)) ∧ (decode cX3_turnsToNumber 11 = .ok (.istore 4, 2)) ∧ (decode cX3_turnsToNumber 13 = .ok (.iload 4, 2)) ∧ (decode cX3_turnsToNumber 15 = .ok (.ifCond .lt 74, 3)) ∧ (decode cX3_turnsToNumber 18 = .ok (.aload_n 0, 1)) ∧ (decode cX3_turnsToNumber 19 = .ok (.getfield 15, 3)) ∧ (decode cX3_turnsToNumber 22 = .ok (.iload 4, 2)) ∧ (decode cX3_turnsToNumber 24 = .ok (.iload 4, 2)) := by decide +kernel
theorem dX3_turnsToNumber_0 : decode cX3_turnsToNumber 0 = .ok (.iload_n 1, 1) := da9_dX3_turnsToNumber_0.1
theorem dX3_turnsToNumber_1 : decode cX3_turnsToNumber 1 = .ok (.ifCond .ge 5, 3) := da9_dX3_turnsToNumber_0.2.1
theorem dX3_turnsToNumber_4 : decode cX3_turnsToNumber 4 = .ok (.iconst (-1), 1) := da9_dX3_turnsToNumber_0.2.2.1
theorem dX3_turnsToNumber_5 : decode cX3_turnsToNumber 5 = .ok (.ireturn, 1) := da9_dX3_turnsToNumber_0.2.2.2.1
theorem dX3_turnsToNumber_6 : decode cX3_turnsToNumber 6 = .ok (.iload_n 1, 1) := da9_dX3_turnsToNumber_0.2.2.2.2.1
theorem dX3_turnsToNumber_7 : decode cX3_turnsToNumber 7 = .ok (.istore_n 2, 1) := da9_dX3_turnsToNumber_0.2.2.2.2.2.1
theorem dX3_turnsToNumber_8 : decode cX3_turnsToNumber 8 = .ok (.iconst 0, 1) := da9_dX3_turnsToNumber_0.2.2.2.2.2.2.1
theorem dX3_turnsToNumber_9 : decode cX3_turnsToNumber 9 = .ok (.istore_n 3, 1) := da9_dX3_turnsToNumber_0.2.2.2.2.2.2.2.1
theorem dX3_turnsToNumber_10 : decode cX3_turnsToNumber 10 = .ok (.iconst 5, 1) := da9_dX3_turnsToNumber_0.2.2.2.2.2.2.2.2.1
theorem dX3_turnsToNumber_11 : decode cX3_turnsToNumber 11 = .ok (.istore 4, 2) := da9_dX3_turnsToNumber_0.2.2.2.2.2.2.2.2.2.1
theorem dX3_turnsToNumber_13 : decode cX3_turnsToNumber 13 = .ok (.iload 4, 2) := da9_dX3_turnsToNumber_0.2.2.2.2.2.2.2.2.2.2.1
theorem dX3_turnsToNumber_15 : decode cX3_turnsToNumber 15 = .ok (.ifCond .lt 74, 3) := da9_dX3_turnsToNumber_0.2.2.2.2.2.2.2.2.2.2.2.1
theorem dX3_turnsToNumber_18 : decode cX3_turnsToNumber 18 = .ok (.aload_n 0, 1) := da9_dX3_turnsToNumber_0.2.2.2.2.2.2.2.2.2.2.2.2.1
theorem dX3_turnsToNumber_19 : decode cX3_turnsToNumber 19 = .ok (.getfield 15, 3) := da9_dX3_turnsToNumber_0.2.2.2.2.2.2.2.2.2.2.2.2.2.1
theorem dX3_turnsToNumber_22 : decode cX3_turnsToNumber 22 = .ok (.iload 4, 2) := da9_dX3_turnsToNumber_0.2.2.2.2.2.2.2.2.2.2.2.2.2.2.1
theorem dX3_turnsToNumber_24 : decode cX3_turnsToNumber 24 = .ok (.iload 4, 2) := da9_dX3_turnsToNumber_0.2.2.2.2.2.2.2.2.2.2.2.2.2.2.2
theorem da9_dX3_turnsToNumber_26 : (decode cX3_turnsToNumber 26 = .ok (.iastore, 1)) ∧ (decode cX3_turnsToNumber 27 = .ok (.iload 4, 2)) ∧ (decode cX3_turnsToNumber 29 = .ok (.aload_n 0, 1)) ∧ (decode cX3_turnsToNumber 30 = .ok (.getfield 51, 3)) ∧ (decode cX3_turnsToNumber 33 = .ok (.if_icmp .ge 50, 3)) ∧ (decode cX3_turnsToNumber 36 = .ok (.aload_n 0, 1)) ∧ (decode cX3_turnsToNumber 37 = .ok (.getfield 15, 3)) ∧ (decode cX3_turnsToNumber 40 = .ok (.iload 4, 2)) ∧ (decode cX3_turnsToNumber 42 = .ok (.aload_n 0, 1)) ∧ (decode cX3_turnsToNumber 43 = .ok (.iload_n 2, 1)) ∧ (decode cX3_turnsToNumber 44 = .ok (.bipush 10, 2)) ∧ (decode cX3_turnsToNumber 46 = .ok (.irem, 1)) ∧ (decode cX3_turnsToNumber 47 = .ok (.invokevirtual 89, 3)) ∧ (decode cX3_turnsToNumber 50 = .ok (.iastore, 1)) ∧ (decode cX3_turnsToNumber 51 = .ok (.iload_n 2, 1)) ∧ (decode cX3_turnsToNumber 52 = .ok (.bipush 10, 2)) := by decide +kernel
theorem dX3_turnsToNumber_26 : decode cX3_turnsToNumber 26 = .ok (.iastore, 1) := da9_dX3_turnsToNumber_26.1
theorem dX3_turnsToNumber_27 : decode cX3_turnsToNumber 27 = .ok (.iload 4, 2) := da9_dX3_turnsToNumber_26.2.1
theorem dX3_turnsToNumber_29 : decode cX3_turnsToNumber 29 = .ok (.aload_n 0, 1) := da9_dX3_turnsToNumber_26.2.2.1
theorem dX3_turnsToNumber_30 : decode cX3_turnsToNumber 30 = .ok (.getfield 51, 3) := da9_dX3_turnsToNumber_26.2.2.2.1
theorem dX3_turnsToNumber_33 : decode cX3_turnsToNumber 33 = .ok (.if_icmp .ge 50, 3) := da9_dX3_turnsToNumber_26.2.2.2.2.1
theorem dX3_turnsToNumber_36 : decode cX3_turnsToNumber 36 = .ok (.aload_n 0, 1) := da9_dX3_turnsToNumber_26.2.2.2.2.2.1
theorem dX3_turnsToNumber_37 : decode cX3_turnsToNumber 37 = .ok (.getfield 15, 3) := da9_dX3_turnsToNumber_26.2.2.2.2.2.2.1
theorem dX3_turnsToNumber_40 : decode cX3_turnsToNumber 40 = .ok (.iload 4, 2) := da9_dX3_turnsToNumber_26.2.2.2.2.2.2.2.1
theorem dX3_turnsToNumber_42 : decode cX3_turnsToNumber 42 = .ok (.aload_n 0, 1) := da9_dX3_turnsToNumber_26.2.2.2.2.2.2.2.2.1
theorem dX3_turnsToNumber_43 : decode cX3_turnsToNumber 43 = .ok (.iload_n 2, 1) := da9_dX3_turnsToNumber_26.2.2.2.2.2.2.2.2.2.1
theorem dX3_turnsToNumber_44 : decode cX3_turnsToNumber 44 = .ok (.bipush 10, 2) := da9_dX3_turnsToNumber_26.2.2.2.2.2.2.2.2.2.2.1
theorem dX3_turnsToNumber_46 : decode cX3_turnsToNumber 46 = .ok (.irem, 1) := da9_dX3_turnsToNumber_26.2.2.2.2.2.2.2.2.2.2.2.1
theorem dX3_turnsToNumber_47 : decode cX3_turnsToNumber 47 = .ok (.invokevirtual 89, 3) := da9_dX3_turnsToNumber_26.2.2.2.2.2.2.2.2.2.2.2.2.1
theorem dX3_turnsToNumber_50 : decode cX3_turnsToNumber 50 = .ok (.iastore, 1) := da9_dX3_turnsToNumber_26.2.2.2.2.2.2.2.2.2.2.2.2.2.1
theorem dX3_turnsToNumber_51 : decode cX3_turnsToNumber 51 = .ok (.iload_n 2, 1) := da9_dX3_turnsToNumber_26.2.2.2.2.2.2.2.2.2.2.2.2.2.2.1
theorem dX3_turnsToNumber_52 : decode cX3_turnsToNumber 52 = .ok (.bipush 10, 2) := da9_dX3_turnsToNumber_26.2.2.2.2.2.2.2.2.2.2.2.2.2.2.2
theorem da9_dX3_turnsToNumber_54 : (decode cX3_turnsToNumber 54 = .ok (.idiv, 1)) ∧ (decode cX3_turnsToNumber 55 = .ok (.istore_n 2, 1)) ∧ (decode cX3_turnsToNumber 56 = .ok (.iload_n 3, 1)) ∧ (decode cX3_turnsToNumber 57 = .ok (.aload_n 0, 1)) ∧ (decode cX3_turnsToNumber 58 = .ok (.getfield 15, 3)) ∧ (decode cX3_turnsToNumber 61 = .ok (.iload 4, 2)) ∧ (decode cX3_turnsToNumber 63 = .ok (.iaload, 1)) ∧ (decode cX3_turnsToNumber 64 = .ok (.iconst (-1), 1)) ∧ (decode cX3_turnsToNumber 65 = .ok (.if_icmp .ne 7, 3)) ∧ (decode cX3_turnsToNumber 68 = .ok (.iconst 0, 1)) ∧ (decode cX3_turnsToNumber 69 = .ok (.goto 12, 3)) ∧ (decode cX3_turnsToNumber 72 = .ok (.iconst 1, 1)) ∧ (decode cX3_turnsToNumber 73 = .ok (.aload_n 0, 1)) ∧ (decode cX3_turnsToNumber 74 = .ok (.getfield 15, 3)) ∧ (decode cX3_turnsToNumber 77 = .ok (.iload 4, 2)) ∧ (decode cX3_turnsToNumber 79 = .ok (.iaload, 1)) := by decide +kernel
theorem dX3_turnsToNumber_54 : decode cX3_turnsToNumber 54 = .ok (.idiv, 1) := da9_dX3_turnsToNumber_54.1
theorem dX3_turnsToNumber_55 : decode cX3_turnsToNumber 55 = .ok (.istore_n 2, 1) := da9_dX3_turnsToNumber_54.2.1
theorem dX3_turnsToNumber_56 : decode cX3_turnsToNumber 56 = .ok (.iload_n 3, 1) := da9_dX3_turnsToNumber_54.2.2.1
theorem dX3_turnsToNumber_57 : decode cX3_turnsToNumber 57 = .ok (.aload_n 0, 1) := da9_dX3_turnsToNumber_54.2.2.2.1
theorem dX3_turnsToNumber_58 : decode cX3_turnsToNumber 58 = .ok (.getfield 15, 3) := da9_dX3_turnsToNumber_54.2.2.2.2.1
theorem dX3_turnsToNumber_61 : decode cX3_turnsToNumber 61 = .ok (.iload 4, 2) := da9_dX3_turnsToNumber_54.2.2.2.2.2.1
theorem dX3_turnsToNumber_63 : decode cX3_turnsToNumber 63 = .ok (.iaload, 1) := da9_dX3_turnsToNumber_54.2.2.2.2.2.2.1
theorem dX3_turnsToNumber_64 : decode cX3_turnsToNumber 64 = .ok (.iconst (-1), 1) := da9_dX3_turnsToNumber_54.2.2.2.2.2.2.2.1
theorem dX3_turnsToNumber_65 : decode cX3_turnsToNumber 65 = .ok (.if_icmp .ne 7, 3) := da9_dX3_turnsToNumber_54.2.2.2.2.2.2.2.2.1
theorem dX3_turnsToNumber_68 : decode cX3_turnsToNumber 68 = .ok (.iconst 0, 1) := da9_dX3_turnsToNumber_54.2.2.2.2.2.2.2.2.2.1
theorem dX3_turnsToNumber_69 : decode cX3_turnsToNumber 69 = .ok (.goto 12, 3) := da9_dX3_turnsToNumber_54.2.2.2.2.2.2.2.2.2.2.1
theorem dX3_turnsToNumber_72 : decode cX3_turnsToNumber 72 = .ok (.iconst 1, 1) := da9_dX3_turnsToNumber_54.2.2.2.2.2.2.2.2.2.2.2.1
theorem dX3_turnsToNumber_73 : decode cX3_turnsToNumber 73 = .ok (.aload_n 0, 1) := da9_dX3_turnsToNumber_54.2.2.2.2.2.2.2.2.2.2.2.2.1
theorem dX3_turnsToNumber_74 : decode cX3_turnsToNumber 74 = .ok (.getfield 15, 3) := da9_dX3_turnsToNumber_54.2.2.2.2.2.2.2.2.2.2.2.2.2.1
theorem dX3_turnsToNumber_77 : decode cX3_turnsToNumber 77 = .ok (.iload 4, 2) := da9_dX3_turnsToNumber_54.2.2.2.2.2.2.2.2.2.2.2.2.2.2.1
theorem dX3_turnsToNumber_79 : decode cX3_turnsToNumber 79 = .ok (.iaload, 1) := da9_dX3_turnsToNumber_54.2.2.2.2.2.2.2.2.2.2.2.2.2.2.2
theorem da9_dX3_turnsToNumber_80 : (decode cX3_turnsToNumber 80 = .ok (.ishl, 1)) ∧ (decode cX3_turnsToNumber 81 = .ok (.ior, 1)) ∧ (decode cX3_turnsToNumber 82 = .ok (.istore_n 3, 1)) ∧ (decode cX3_turnsToNumber 83 = .ok (.iinc 4 (-1), 3)) ∧ (decode cX3_turnsToNumber 86 = .ok (.goto (-73), 3)) ∧ (decode cX3_turnsToNumber 89 = .ok (.iload_n 2, 1)) ∧ (decode cX3_turnsToNumber 90 = .ok (.ifCond .ne 15, 3)) ∧ (decode cX3_turnsToNumber 93 = .ok (.iload_n 3, 1)) ∧ (decode cX3_turnsToNumber 94 = .ok (.iconst 1, 1)) ∧ (decode cX3_turnsToNumber 95 = .ok (.aload_n 0, 1)) ∧ (decode cX3_turnsToNumber 96 = .ok (.getfield 51, 3)) ∧ (decode cX3_turnsToNumber 99 = .ok (.ishl, 1)) ∧ (decode cX3_turnsToNumber 100 = .ok (.iconst 1, 1)) ∧ (decode cX3_turnsToNumber 101 = .ok (.isub, 1)) ∧ (decode cX3_turnsToNumber 102 = .ok (.if_icmp .eq 5, 3)) ∧ (decode cX3_turnsToNumber 105 = .ok (.iconst (-1), 1)) := by decide +kernel
theorem dX3_turnsToNumber_80 : decode cX3_turnsToNumber 80 = .ok (.ishl, 1) := da9_dX3_turnsToNumber_80.1
theorem dX3_turnsToNumber_81 : decode cX3_turnsToNumber 81 = .ok (.ior, 1) := da9_dX3_turnsToNumber_80.2.1
theorem dX3_turnsToNumber_82 : decode cX3_turnsToNumber 82 = .ok (.istore_n 3, 1) := da9_dX3_turnsToNumber_80.2.2.1
theorem dX3_turnsToNumber_83 : decode cX3_turnsToNumber 83 = .ok (.iinc 4 (-1), 3) := da9_dX3_turnsToNumber_80.2.2.2.1
theorem dX3_turnsToNumber_86 : decode cX3_turnsToNumber 86 = .ok (.goto (-73), 3) := da9_dX3_turnsToNumber_80.2.2.2.2.1
theorem dX3_turnsToNumber_89 : decode cX3_turnsToNumber 89 = .ok (.iload_n 2, 1) := da9_dX3_turnsToNumber_80.2.2.2.2.2.1
theorem dX3_turnsToNumber_90 : decode cX3_turnsToNumber 90 = .ok (.ifCond .ne 15, 3) := da9_dX3_turnsToNumber_80.2.2.2.2.2.2.1
theorem dX3_turnsToNumber_93 : decode cX3_turnsToNumber 93 = .ok (.iload_n 3, 1) := da9_dX3_turnsToNumber_80.2.2.2.2.2.2.2.1
theorem dX3_turnsToNumber_94 : decode cX3_turnsToNumber 94 = .ok (.iconst 1, 1) := da9_dX3_turnsToNumber_80.2.2.2.2.2.2.2.2.1
theorem dX3_turnsToNumber_95 : decode cX3_turnsToNumber 95 = .ok (.aload_n 0, 1) := da9_dX3_turnsToNumber_80.2.2.2.2.2.2.2.2.2.1
theorem dX3_turnsToNumber_96 : decode cX3_turnsToNumber 96 = .ok (.getfield 51, 3) := da9_dX3_turnsToNumber_80.2.2.2.2.2.2.2.2.2.2.1
theorem dX3_turnsToNumber_99 : decode cX3_turnsToNumber 99 = .ok (.ishl, 1) := da9_dX3_turnsToNumber_80.2.2.2.2.2.2.2.2.2.2.2.1
theorem dX3_turnsToNumber_100 : decode cX3_turnsToNumber 100 = .ok (.iconst 1, 1) := da9_dX3_turnsToNumber_80.2.2.2.2.2.2.2.2.2.2.2.2.1
theorem dX3_turnsToNumber_101 : decode cX3_turnsToNumber 101 = .ok (.isub, 1) := da9_dX3_turnsToNumber_80.2.2.2.2.2.2.2.2.2.2.2.2.2.1
theorem dX3_turnsToNumber_102 : decode cX3_turnsToNumber 102 = .ok (.if_icmp .eq 5, 3) := da9_dX3_turnsToNumber_80.2.2.2.2.2.2.2.2.2.2.2.2.2.2.1
theorem dX3_turnsToNumber_105 : decode cX3_turnsToNumber 105 = .ok (.iconst (-1), 1) := da9_dX3_turnsToNumber_80.2.2.2.2.2.2.2.2.2.2.2.2.2.2.2
theorem da9_dX3_turnsToNumber_106 : (decode cX3_turnsToNumber 106 = .ok (.ireturn, 1)) ∧ (decode cX3_turnsToNumber 107 = .ok (.aload_n 0, 1)) ∧ (decode cX3_turnsToNumber 108 = .ok (.iconst 1, 1)) ∧ (decode cX3_turnsToNumber 109 = .ok (.aload_n 0, 1)) ∧ (decode cX3_turnsToNumber 110 = .ok (.invokevirtual 96, 3)) ∧ (decode cX3_turnsToNumber 113 = .ok (.invokevirtual 137, 3)) ∧ (decode cX3_turnsToNumber 116 = .ok (.ireturn, 1)) := by decide +kernel
theorem dX3_turnsToNumber_106 : decode cX3_turnsToNumber 106 = .ok (.ireturn, 1) := da9_dX3_turnsToNumber_106.1
theorem dX3_turnsToNumber_107 : decode cX3_turnsToNumber 107 = .ok (.aload_n 0, 1) := da9_dX3_turnsToNumber_106.2.1
theorem dX3_turnsToNumber_108 : decode cX3_turnsToNumber 108 = .ok (.iconst 1, 1) := da9_dX3_turnsToNumber_106.2.2.1
theorem dX3_turnsToNumber_109 : decode cX3_turnsToNumber 109 = .ok (.aload_n 0, 1) := da9_dX3_turnsToNumber_106.2.2.2.1
theorem dX3_turnsToNumber_110 : decode cX3_turnsToNumber 110 = .ok (.invokevirtual 96, 3) := da9_dX3_turnsToNumber_106.2.2.2.2.1
theorem dX3_turnsToNumber_113 : decode cX3_turnsToNumber 113 = .ok (.invokevirtual 137, 3) := da9_dX3_turnsToNumber_106.2.2.2.2.2.1
theorem dX3_turnsToNumber_116 : decode cX3_turnsToNumber 116 = .ok (.ireturn, 1) := da9_dX3_turnsToNumber_106.2.2.2.2.2.2
set_option maxRecDepth 20000 in
theorem ggX3_nearest_J7_fill_53178 : GoodIn wsX3_nearest wsJ7_fill_53178 := goodIn_r _ [11] rfl (by decide +kernel)
set_option maxRecDepth 20000 in
theorem gX3_nearest_J7_fill_53178 : GoodIn wsX3_nearest (va_wsS RX3 122 yJ7_fill_53178 wsJ7_fill_53178) := goodIn_app (goodIn_of _ (by decide +kernel)) ggX3_nearest_J7_fill_53178
set_option maxRecDepth 20000 in
theorem ggX3_nearest_X3_fits : GoodIn wsX3_nearest wsX3_fits := goodIn_r _ [16, 6, 17, 31, 32, 33, 34, 35, 36, 37, 38, 39, 40, 41, 42, 43, 44, 45, 46, 47, 48, 49, 50] rfl (by decide +kernel)
set_option maxRecDepth 20000 in
theorem gX3_nearest_X3_fits : GoodIn wsX3_nearest (wsV RX3 157 RX3 yX3_fits wsX3_fits) := goodIn_app (goodIn_of _ (by decide +kernel)) ggX3_nearest_X3_fits
set_option maxRecDepth 20000 in
theorem ggX3_nearest_X3_turned : GoodIn wsX3_nearest wsX3_turned := goodIn_r _ [21, 6, 22, 23, 5, 31, 32, 33, 34, 35, 36, 37, 38, 39, 40, 41, 42, 43, 44, 45, 46, 47, 48, 49, 50] rfl (by decide +kernel)
set_option maxRecDepth 20000 in
theorem gX3_nearest_X3_turned : GoodIn wsX3_nearest (wsV RX3 119 RX3 yX3_turned wsX3_turned) := goodIn_app (goodIn_of _ (by decide +kernel)) ggX3_nearest_X3_turned
set_option maxRecDepth 20000 in
theorem ggX3_nearest_X3_caseOf : GoodIn wsX3_nearest wsX3_caseOf := goodIn_r _ [27, 17, 6, 28, 29, 15, 30, 31, 32, 33, 34, 35, 36, 37, 38, 39, 40, 41, 42, 43, 44, 45, 46, 47, 48, 49, 50] rfl (by decide +kernel)
set_option maxRecDepth 20000 in
theorem gX3_nearest_X3_caseOf : GoodIn wsX3_nearest (wsV RX3 154 RX3 yX3_caseOf wsX3_caseOf) := goodIn_app (goodIn_of _ (by decide +kernel)) ggX3_nearest_X3_caseOf
theorem da9_dX3_nearest_0 : (decode cX3_nearest 0 = .ok (.aload_n 0, 1)) ∧ (decode cX3_nearest 1 = .ok (.getfield 42, 3)) ∧ (decode cX3_nearest 4 = .ok (.iconst (-1), 1)) ∧ (decode cX3_nearest 5 = .ok (.invokestatic 122, 3)) ∧ (decode cX3_nearest 8 = .ok (.aload_n 0, 1)) ∧ (decode cX3_nearest 9 = .ok (.getfield 42, 3)) ∧ (decode cX3_nearest 12 = .ok (.aload_n 0, 1)) ∧ (decode cX3_nearest 13 = .ok (.getfield 58, 3)) ∧ (decode cX3_nearest 16 = .ok (.iconst 0, 1)) ∧ (decode cX3_nearest 17 = .ok (.iastore, 1)) ∧ (decode cX3_nearest 18 = .ok (.aload_n 0, 1)) ∧ (decode cX3_nearest 19 = .ok (.getfield 45, 3)) ∧ (decode cX3_nearest 22 = .ok (.iconst 0, 1)) ∧ (decode cX3_nearest 23 = .ok (.aload_n 0, 1)) ∧ (decode cX3_nearest 24 = .ok (.getfield 58, 3)) ∧ (decode cX3_nearest 27 = .ok (.iastore, 1)) := by decide +kernel
theorem dX3_nearest_0 : decode cX3_nearest 0 = .ok (.aload_n 0, 1) := da9_dX3_nearest_0.1
theorem dX3_nearest_1 : decode cX3_nearest 1 = .ok (.getfield 42, 3) := da9_dX3_nearest_0.2.1
theorem dX3_nearest_4 : decode cX3_nearest 4 = .ok (.iconst (-1), 1) := da9_dX3_nearest_0.2.2.1
theorem dX3_nearest_5 : decode cX3_nearest 5 = .ok (.invokestatic 122, 3) := da9_dX3_nearest_0.2.2.2.1
theorem dX3_nearest_8 : decode cX3_nearest 8 = .ok (.aload_n 0, 1) := da9_dX3_nearest_0.2.2.2.2.1
theorem dX3_nearest_9 : decode cX3_nearest 9 = .ok (.getfield 42, 3) := da9_dX3_nearest_0.2.2.2.2.2.1
theorem dX3_nearest_12 : decode cX3_nearest 12 = .ok (.aload_n 0, 1) := da9_dX3_nearest_0.2.2.2.2.2.2.1
theorem dX3_nearest_13 : decode cX3_nearest 13 = .ok (.getfield 58, 3) := da9_dX3_nearest_0.2.2.2.2.2.2.2.1
theorem dX3_nearest_16 : decode cX3_nearest 16 = .ok (.iconst 0, 1) := da9_dX3_nearest_0.2.2.2.2.2.2.2.2.1
theorem dX3_nearest_17 : decode cX3_nearest 17 = .ok (.iastore, 1) := da9_dX3_nearest_0.2.2.2.2.2.2.2.2.2.1
theorem dX3_nearest_18 : decode cX3_nearest 18 = .ok (.aload_n 0, 1) := da9_dX3_nearest_0.2.2.2.2.2.2.2.2.2.2.1
theorem dX3_nearest_19 : decode cX3_nearest 19 = .ok (.getfield 45, 3) := da9_dX3_nearest_0.2.2.2.2.2.2.2.2.2.2.2.1
theorem dX3_nearest_22 : decode cX3_nearest 22 = .ok (.iconst 0, 1) := da9_dX3_nearest_0.2.2.2.2.2.2.2.2.2.2.2.2.1
theorem dX3_nearest_23 : decode cX3_nearest 23 = .ok (.aload_n 0, 1) := da9_dX3_nearest_0.2.2.2.2.2.2.2.2.2.2.2.2.2.1
theorem dX3_nearest_24 : decode cX3_nearest 24 = .ok (.getfield 58, 3) := da9_dX3_nearest_0.2.2.2.2.2.2.2.2.2.2.2.2.2.2.1
theorem dX3_nearest_27 : decode cX3_nearest 27 = .ok (.iastore, 1) := da9_dX3_nearest_0.2.2.2.2.2.2.2.2.2.2.2.2.2.2.2
theorem da9_dX3_nearest_28 : (decode cX3_nearest 28 = .ok (.aload_n 0, 1)) ∧ (decode cX3_nearest 29 = .ok (.iconst 1, 1)) ∧ (decode cX3_nearest 30 = .ok (.putfield 70, 3)) ∧ (decode cX3_nearest 33 = .ok (.iconst 0, 1)) ∧ (decode cX3_nearest 34 = .ok (.istore_n 3, 1)) ∧ (decode cX3_nearest 35 = .ok (.iload_n 3, 1)) ∧ (decode cX3_nearest 36 = .ok (.aload_n 0, 1)) ∧ (decode cX3_nearest 37 = .ok (.getfield 55, 3)) ∧ (decode cX3_nearest 40 = .ok (.if_icmp .ge 147, 3)) ∧ (decode cX3_nearest 43 = .ok (.iload_n 3, 1)) ∧ (decode cX3_nearest 44 = .ok (.aload_n 0, 1)) ∧ (decode cX3_nearest 45 = .ok (.getfield 70, 3)) ∧ (decode cX3_nearest 48 = .ok (.if_icmp .ge 139, 3)) ∧ (decode cX3_nearest 51 = .ok (.aload_n 0, 1)) ∧ (decode cX3_nearest 52 = .ok (.getfield 45, 3)) ∧ (decode cX3_nearest 55 = .ok (.iload_n 3, 1)) := by decide +kernel
theorem dX3_nearest_28 : decode cX3_nearest 28 = .ok (.aload_n 0, 1) := da9_dX3_nearest_28.1
theorem dX3_nearest_29 : decode cX3_nearest 29 = .ok (.iconst 1, 1) := da9_dX3_nearest_28.2.1
theorem dX3_nearest_30 : decode cX3_nearest 30 = .ok (.putfield 70, 3) := da9_dX3_nearest_28.2.2.1
theorem dX3_nearest_33 : decode cX3_nearest 33 = .ok (.iconst 0, 1) := da9_dX3_nearest_28.2.2.2.1
theorem dX3_nearest_34 : decode cX3_nearest 34 = .ok (.istore_n 3, 1) := da9_dX3_nearest_28.2.2.2.2.1
theorem dX3_nearest_35 : decode cX3_nearest 35 = .ok (.iload_n 3, 1) := da9_dX3_nearest_28.2.2.2.2.2.1
theorem dX3_nearest_36 : decode cX3_nearest 36 = .ok (.aload_n 0, 1) := da9_dX3_nearest_28.2.2.2.2.2.2.1
theorem dX3_nearest_37 : decode cX3_nearest 37 = .ok (.getfield 55, 3) := da9_dX3_nearest_28.2.2.2.2.2.2.2.1
theorem dX3_nearest_40 : decode cX3_nearest 40 = .ok (.if_icmp .ge 147, 3) := da9_dX3_nearest_28.2.2.2.2.2.2.2.2.1
theorem dX3_nearest_43 : decode cX3_nearest 43 = .ok (.iload_n 3, 1) := da9_dX3_nearest_28.2.2.2.2.2.2.2.2.2.1
theorem dX3_nearest_44 : decode cX3_nearest 44 = .ok (.aload_n 0, 1) := da9_dX3_nearest_28.2.2.2.2.2.2.2.2.2.2.1
theorem dX3_nearest_45 : decode cX3_nearest 45 = .ok (.getfield 70, 3) := da9_dX3_nearest_28.2.2.2.2.2.2.2.2.2.2.2.1
theorem dX3_nearest_48 : decode cX3_nearest 48 = .ok (.if_icmp .ge 139, 3) := da9_dX3_nearest_28.2.2.2.2.2.2.2.2.2.2.2.2.1
theorem dX3_nearest_51 : decode cX3_nearest 51 = .ok (.aload_n 0, 1) := da9_dX3_nearest_28.2.2.2.2.2.2.2.2.2.2.2.2.2.1
theorem dX3_nearest_52 : decode cX3_nearest 52 = .ok (.getfield 45, 3) := da9_dX3_nearest_28.2.2.2.2.2.2.2.2.2.2.2.2.2.2.1
theorem dX3_nearest_55 : decode cX3_nearest 55 = .ok (.iload_n 3, 1) := da9_dX3_nearest_28.2.2.2.2.2.2.2.2.2.2.2.2.2.2.2
theorem da9_dX3_nearest_56 : (decode cX3_nearest 56 = .ok (.iaload, 1)) ∧ (decode cX3_nearest 57 = .ok (.istore 4, 2)) ∧ (decode cX3_nearest 59 = .ok (.aload_n 0, 1)) ∧ (decode cX3_nearest 60 = .ok (.iload 4, 2)) ∧ (decode cX3_nearest 62 = .ok (.iload_n 1, 1)) ∧ (decode cX3_nearest 63 = .ok (.iload_n 2, 1)) ∧ (decode cX3_nearest 64 = .ok (.invokevirtual 157, 3)) ∧ (decode cX3_nearest 67 = .ok (.ifCond .eq 11, 3)) ∧ (decode cX3_nearest 70 = .ok (.aload_n 0, 1)) ∧ (decode cX3_nearest 71 = .ok (.getfield 42, 3)) ∧ (decode cX3_nearest 74 = .ok (.iload 4, 2)) ∧ (decode cX3_nearest 76 = .ok (.iaload, 1)) ∧ (decode cX3_nearest 77 = .ok (.ireturn, 1)) ∧ (decode cX3_nearest 78 = .ok (.iconst 1, 1)) ∧ (decode cX3_nearest 79 = .ok (.istore 5, 2)) ∧ (decode cX3_nearest 81 = .ok (.iload 5, 2)) := by decide +kernel
theorem dX3_nearest_56 : decode cX3_nearest 56 = .ok (.iaload, 1) := da9_dX3_nearest_56.1
theorem dX3_nearest_57 : decode cX3_nearest 57 = .ok (.istore 4, 2) := da9_dX3_nearest_56.2.1
theorem dX3_nearest_59 : decode cX3_nearest 59 = .ok (.aload_n 0, 1) := da9_dX3_nearest_56.2.2.1
theorem dX3_nearest_60 : decode cX3_nearest 60 = .ok (.iload 4, 2) := da9_dX3_nearest_56.2.2.2.1
theorem dX3_nearest_62 : decode cX3_nearest 62 = .ok (.iload_n 1, 1) := da9_dX3_nearest_56.2.2.2.2.1
theorem dX3_nearest_63 : decode cX3_nearest 63 = .ok (.iload_n 2, 1) := da9_dX3_nearest_56.2.2.2.2.2.1
theorem dX3_nearest_64 : decode cX3_nearest 64 = .ok (.invokevirtual 157, 3) := da9_dX3_nearest_56.2.2.2.2.2.2.1
theorem dX3_nearest_67 : decode cX3_nearest 67 = .ok (.ifCond .eq 11, 3) := da9_dX3_nearest_56.2.2.2.2.2.2.2.1
theorem dX3_nearest_70 : decode cX3_nearest 70 = .ok (.aload_n 0, 1) := da9_dX3_nearest_56.2.2.2.2.2.2.2.2.1
theorem dX3_nearest_71 : decode cX3_nearest 71 = .ok (.getfield 42, 3) := da9_dX3_nearest_56.2.2.2.2.2.2.2.2.2.1
theorem dX3_nearest_74 : decode cX3_nearest 74 = .ok (.iload 4, 2) := da9_dX3_nearest_56.2.2.2.2.2.2.2.2.2.2.1
theorem dX3_nearest_76 : decode cX3_nearest 76 = .ok (.iaload, 1) := da9_dX3_nearest_56.2.2.2.2.2.2.2.2.2.2.2.1
theorem dX3_nearest_77 : decode cX3_nearest 77 = .ok (.ireturn, 1) := da9_dX3_nearest_56.2.2.2.2.2.2.2.2.2.2.2.2.1
theorem dX3_nearest_78 : decode cX3_nearest 78 = .ok (.iconst 1, 1) := da9_dX3_nearest_56.2.2.2.2.2.2.2.2.2.2.2.2.2.1
theorem dX3_nearest_79 : decode cX3_nearest 79 = .ok (.istore 5, 2) := da9_dX3_nearest_56.2.2.2.2.2.2.2.2.2.2.2.2.2.2.1
theorem dX3_nearest_81 : decode cX3_nearest 81 = .ok (.iload 5, 2) := da9_dX3_nearest_56.2.2.2.2.2.2.2.2.2.2.2.2.2.2.2
theorem da9_dX3_nearest_83 : (decode cX3_nearest 83 = .ok (.aload_n 0, 1)) ∧ (decode cX3_nearest 84 = .ok (.getfield 51, 3)) ∧ (decode cX3_nearest 87 = .ok (.if_icmp .gt 94, 3)) ∧ (decode cX3_nearest 90 = .ok (.aload_n 0, 1)) ∧ (decode cX3_nearest 91 = .ok (.iload 4, 2)) ∧ (decode cX3_nearest 93 = .ok (.iload 5, 2)) ∧ (decode cX3_nearest 95 = .ok (.invokevirtual 119, 3)) ∧ (decode cX3_nearest 98 = .ok (.istore 6, 2)) ∧ (decode cX3_nearest 100 = .ok (.aload_n 0, 1)) ∧ (decode cX3_nearest 101 = .ok (.getfield 42, 3)) ∧ (decode cX3_nearest 104 = .ok (.iload 6, 2)) ∧ (decode cX3_nearest 106 = .ok (.iaload, 1)) ∧ (decode cX3_nearest 107 = .ok (.iconst (-1), 1)) ∧ (decode cX3_nearest 108 = .ok (.if_icmp .ne 67, 3)) ∧ (decode cX3_nearest 111 = .ok (.aload_n 0, 1)) ∧ (decode cX3_nearest 112 = .ok (.getfield 18, 3)) := by decide +kernel
theorem dX3_nearest_83 : decode cX3_nearest 83 = .ok (.aload_n 0, 1) := da9_dX3_nearest_83.1
theorem dX3_nearest_84 : decode cX3_nearest 84 = .ok (.getfield 51, 3) := da9_dX3_nearest_83.2.1
theorem dX3_nearest_87 : decode cX3_nearest 87 = .ok (.if_icmp .gt 94, 3) := da9_dX3_nearest_83.2.2.1
theorem dX3_nearest_90 : decode cX3_nearest 90 = .ok (.aload_n 0, 1) := da9_dX3_nearest_83.2.2.2.1
theorem dX3_nearest_91 : decode cX3_nearest 91 = .ok (.iload 4, 2) := da9_dX3_nearest_83.2.2.2.2.1
theorem dX3_nearest_93 : decode cX3_nearest 93 = .ok (.iload 5, 2) := da9_dX3_nearest_83.2.2.2.2.2.1
theorem dX3_nearest_95 : decode cX3_nearest 95 = .ok (.invokevirtual 119, 3) := da9_dX3_nearest_83.2.2.2.2.2.2.1
theorem dX3_nearest_98 : decode cX3_nearest 98 = .ok (.istore 6, 2) := da9_dX3_nearest_83.2.2.2.2.2.2.2.1
theorem dX3_nearest_100 : decode cX3_nearest 100 = .ok (.aload_n 0, 1) := da9_dX3_nearest_83.2.2.2.2.2.2.2.2.1
theorem dX3_nearest_101 : decode cX3_nearest 101 = .ok (.getfield 42, 3) := da9_dX3_nearest_83.2.2.2.2.2.2.2.2.2.1
theorem dX3_nearest_104 : decode cX3_nearest 104 = .ok (.iload 6, 2) := da9_dX3_nearest_83.2.2.2.2.2.2.2.2.2.2.1
theorem dX3_nearest_106 : decode cX3_nearest 106 = .ok (.iaload, 1) := da9_dX3_nearest_83.2.2.2.2.2.2.2.2.2.2.2.1
theorem dX3_nearest_107 : decode cX3_nearest 107 = .ok (.iconst (-1), 1) := da9_dX3_nearest_83.2.2.2.2.2.2.2.2.2.2.2.2.1
theorem dX3_nearest_108 : decode cX3_nearest 108 = .ok (.if_icmp .ne 67, 3) := da9_dX3_nearest_83.2.2.2.2.2.2.2.2.2.2.2.2.2.1
theorem dX3_nearest_111 : decode cX3_nearest 111 = .ok (.aload_n 0, 1) := da9_dX3_nearest_83.2.2.2.2.2.2.2.2.2.2.2.2.2.2.1
theorem dX3_nearest_112 : decode cX3_nearest 112 = .ok (.getfield 18, 3) := da9_dX3_nearest_83.2.2.2.2.2.2.2.2.2.2.2.2.2.2.2
theorem da9_dX3_nearest_115 : (decode cX3_nearest 115 = .ok (.aload_n 0, 1)) ∧ (decode cX3_nearest 116 = .ok (.iload 4, 2)) ∧ (decode cX3_nearest 118 = .ok (.iload 5, 2)) ∧ (decode cX3_nearest 120 = .ok (.invokevirtual 154, 3)) ∧ (decode cX3_nearest 123 = .ok (.iaload, 1)) ∧ (decode cX3_nearest 124 = .ok (.ifCond .ne 51, 3)) ∧ (decode cX3_nearest 127 = .ok (.aload_n 0, 1)) ∧ (decode cX3_nearest 128 = .ok (.getfield 70, 3)) ∧ (decode cX3_nearest 131 = .ok (.aload_n 0, 1)) ∧ (decode cX3_nearest 132 = .ok (.getfield 55, 3)) ∧ (decode cX3_nearest 135 = .ok (.if_icmp .ge 40, 3)) ∧ (decode cX3_nearest 138 = .ok (.aload_n 0, 1)) ∧ (decode cX3_nearest 139 = .ok (.getfield 42, 3)) ∧ (decode cX3_nearest 142 = .ok (.iload 6, 2)) ∧ (decode cX3_nearest 144 = .ok (.aload_n 0, 1)) ∧ (decode cX3_nearest 145 = .ok (.getfield 42, 3)) := by decide +kernel
theorem dX3_nearest_115 : decode cX3_nearest 115 = .ok (.aload_n 0, 1) := da9_dX3_nearest_115.1
theorem dX3_nearest_116 : decode cX3_nearest 116 = .ok (.iload 4, 2) := da9_dX3_nearest_115.2.1
theorem dX3_nearest_118 : decode cX3_nearest 118 = .ok (.iload 5, 2) := da9_dX3_nearest_115.2.2.1
theorem dX3_nearest_120 : decode cX3_nearest 120 = .ok (.invokevirtual 154, 3) := da9_dX3_nearest_115.2.2.2.1
theorem dX3_nearest_123 : decode cX3_nearest 123 = .ok (.iaload, 1) := da9_dX3_nearest_115.2.2.2.2.1
theorem dX3_nearest_124 : decode cX3_nearest 124 = .ok (.ifCond .ne 51, 3) := da9_dX3_nearest_115.2.2.2.2.2.1
theorem dX3_nearest_127 : decode cX3_nearest 127 = .ok (.aload_n 0, 1) := da9_dX3_nearest_115.2.2.2.2.2.2.1
theorem dX3_nearest_128 : decode cX3_nearest 128 = .ok (.getfield 70, 3) := da9_dX3_nearest_115.2.2.2.2.2.2.2.1
theorem dX3_nearest_131 : decode cX3_nearest 131 = .ok (.aload_n 0, 1) := da9_dX3_nearest_115.2.2.2.2.2.2.2.2.1
theorem dX3_nearest_132 : decode cX3_nearest 132 = .ok (.getfield 55, 3) := da9_dX3_nearest_115.2.2.2.2.2.2.2.2.2.1
theorem dX3_nearest_135 : decode cX3_nearest 135 = .ok (.if_icmp .ge 40, 3) := da9_dX3_nearest_115.2.2.2.2.2.2.2.2.2.2.1
theorem dX3_nearest_138 : decode cX3_nearest 138 = .ok (.aload_n 0, 1) := da9_dX3_nearest_115.2.2.2.2.2.2.2.2.2.2.2.1
theorem dX3_nearest_139 : decode cX3_nearest 139 = .ok (.getfield 42, 3) := da9_dX3_nearest_115.2.2.2.2.2.2.2.2.2.2.2.2.1
theorem dX3_nearest_142 : decode cX3_nearest 142 = .ok (.iload 6, 2) := da9_dX3_nearest_115.2.2.2.2.2.2.2.2.2.2.2.2.2.1
theorem dX3_nearest_144 : decode cX3_nearest 144 = .ok (.aload_n 0, 1) := da9_dX3_nearest_115.2.2.2.2.2.2.2.2.2.2.2.2.2.2.1
theorem dX3_nearest_145 : decode cX3_nearest 145 = .ok (.getfield 42, 3) := da9_dX3_nearest_115.2.2.2.2.2.2.2.2.2.2.2.2.2.2.2
theorem da9_dX3_nearest_148 : (decode cX3_nearest 148 = .ok (.iload 4, 2)) ∧ (decode cX3_nearest 150 = .ok (.iaload, 1)) ∧ (decode cX3_nearest 151 = .ok (.iconst 1, 1)) ∧ (decode cX3_nearest 152 = .ok (.iadd, 1)) ∧ (decode cX3_nearest 153 = .ok (.iastore, 1)) ∧ (decode cX3_nearest 154 = .ok (.aload_n 0, 1)) ∧ (decode cX3_nearest 155 = .ok (.getfield 45, 3)) ∧ (decode cX3_nearest 158 = .ok (.aload_n 0, 1)) ∧ (decode cX3_nearest 159 = .ok (.getfield 70, 3)) ∧ (decode cX3_nearest 162 = .ok (.iload 6, 2)) ∧ (decode cX3_nearest 164 = .ok (.iastore, 1)) ∧ (decode cX3_nearest 165 = .ok (.aload_n 0, 1)) ∧ (decode cX3_nearest 166 = .ok (.dup, 1)) ∧ (decode cX3_nearest 167 = .ok (.getfield 70, 3)) ∧ (decode cX3_nearest 170 = .ok (.iconst 1, 1)) ∧ (decode cX3_nearest 171 = .ok (.iadd, 1)) := by decide +kernel
theorem dX3_nearest_148 : decode cX3_nearest 148 = .ok (.iload 4, 2) := da9_dX3_nearest_148.1
theorem dX3_nearest_150 : decode cX3_nearest 150 = .ok (.iaload, 1) := da9_dX3_nearest_148.2.1
theorem dX3_nearest_151 : decode cX3_nearest 151 = .ok (.iconst 1, 1) := da9_dX3_nearest_148.2.2.1
theorem dX3_nearest_152 : decode cX3_nearest 152 = .ok (.iadd, 1) := da9_dX3_nearest_148.2.2.2.1
theorem dX3_nearest_153 : decode cX3_nearest 153 = .ok (.iastore, 1) := da9_dX3_nearest_148.2.2.2.2.1
theorem dX3_nearest_154 : decode cX3_nearest 154 = .ok (.aload_n 0, 1) := da9_dX3_nearest_148.2.2.2.2.2.1
theorem dX3_nearest_155 : decode cX3_nearest 155 = .ok (.getfield 45, 3) := da9_dX3_nearest_148.2.2.2.2.2.2.1
theorem dX3_nearest_158 : decode cX3_nearest 158 = .ok (.aload_n 0, 1) := da9_dX3_nearest_148.2.2.2.2.2.2.2.1
theorem dX3_nearest_159 : decode cX3_nearest 159 = .ok (.getfield 70, 3) := da9_dX3_nearest_148.2.2.2.2.2.2.2.2.1
theorem dX3_nearest_162 : decode cX3_nearest 162 = .ok (.iload 6, 2) := da9_dX3_nearest_148.2.2.2.2.2.2.2.2.2.1
theorem dX3_nearest_164 : decode cX3_nearest 164 = .ok (.iastore, 1) := da9_dX3_nearest_148.2.2.2.2.2.2.2.2.2.2.1
theorem dX3_nearest_165 : decode cX3_nearest 165 = .ok (.aload_n 0, 1) := da9_dX3_nearest_148.2.2.2.2.2.2.2.2.2.2.2.1
theorem dX3_nearest_166 : decode cX3_nearest 166 = .ok (.dup, 1) := da9_dX3_nearest_148.2.2.2.2.2.2.2.2.2.2.2.2.1
theorem dX3_nearest_167 : decode cX3_nearest 167 = .ok (.getfield 70, 3) := da9_dX3_nearest_148.2.2.2.2.2.2.2.2.2.2.2.2.2.1
theorem dX3_nearest_170 : decode cX3_nearest 170 = .ok (.iconst 1, 1) := da9_dX3_nearest_148.2.2.2.2.2.2.2.2.2.2.2.2.2.2.1
theorem dX3_nearest_171 : decode cX3_nearest 171 = .ok (.iadd, 1) := da9_dX3_nearest_148.2.2.2.2.2.2.2.2.2.2.2.2.2.2.2
theorem da9_dX3_nearest_172 : (decode cX3_nearest 172 = .ok (.putfield 70, 3)) ∧ (decode cX3_nearest 175 = .ok (.iinc 5 1, 3)) ∧ (decode cX3_nearest 178 = .ok (.goto (-97), 3)) ∧ (decode cX3_nearest 181 = .ok (.iinc 3 1, 3)) ∧ (decode cX3_nearest 184 = .ok (.goto (-149), 3)) ∧ (decode cX3_nearest 187 = .ok (.iconst (-1), 1)) ∧ (decode cX3_nearest 188 = .ok (.ireturn, 1)) := by decide +kernel
theorem dX3_nearest_172 : decode cX3_nearest 172 = .ok (.putfield 70, 3) := da9_dX3_nearest_172.1
theorem dX3_nearest_175 : decode cX3_nearest 175 = .ok (.iinc 5 1, 3) := da9_dX3_nearest_172.2.1
theorem dX3_nearest_178 : decode cX3_nearest 178 = .ok (.goto (-97), 3) := da9_dX3_nearest_172.2.2.1
theorem dX3_nearest_181 : decode cX3_nearest 181 = .ok (.iinc 3 1, 3) := da9_dX3_nearest_172.2.2.2.1
theorem dX3_nearest_184 : decode cX3_nearest 184 = .ok (.goto (-149), 3) := da9_dX3_nearest_172.2.2.2.2.1
theorem dX3_nearest_187 : decode cX3_nearest 187 = .ok (.iconst (-1), 1) := da9_dX3_nearest_172.2.2.2.2.2.1
theorem dX3_nearest_188 : decode cX3_nearest 188 = .ok (.ireturn, 1) := da9_dX3_nearest_172.2.2.2.2.2.2
set_option maxRecDepth 20000 in
theorem ggX9_reach_X9_seated : GoodIn wsX9_reach wsX9_seated := goodIn_r _ [6, 7, 8, 9, 10, 11, 12, 13, 14, 15, 16, 17, 18, 19, 20, 21, 22, 23, 24, 25, 26, 157, 158, 159, 160, 161, 162, 163, 164, 165, 166, 167, 168, 169, 170, 171, 172, 173, 174, 175, 176, 177, 178, 179, 180, 181, 182, 183, 184, 185, 186, 187, 188] rfl (by decide +kernel)
set_option maxRecDepth 20000 in
theorem gX9_reach_X9_seated : GoodIn wsX9_reach (wsV RX9 144 RX9 yX9_seated wsX9_seated) := goodIn_app (goodIn_of _ (by decide +kernel)) ggX9_reach_X9_seated
set_option maxRecDepth 20000 in
theorem ggX9_reach_X9_spread : GoodIn wsX9_reach wsX9_spread := goodIn_r _ [30, 1, 8, 31, 32, 33, 34, 35, 36, 37, 38, 39, 40, 41, 42, 43, 44, 45, 46, 47, 48, 49, 50, 51, 52, 53, 54, 55, 56, 57, 58, 59, 60, 61, 62, 63, 64, 65, 66, 67, 68, 5, 69, 70, 71, 72, 73, 74, 75, 76, 77, 78, 79, 80, 81, 82, 83, 84, 85, 86, 87, 88, 89, 90, 91, 92, 93, 94, 95, 96, 97, 98, 99, 100, 23, 101, 26, 102, 103, 104, 105, 106, 107, 108, 109, 25, 110, 111, 112, 113, 114, 115, 116, 117, 118, 119, 120, 121, 122, 123, 124, 125, 126, 127, 128, 129, 130, 131, 132, 133, 134, 135, 157, 158, 159, 160, 161, 162, 163, 164, 165, 166, 167, 168, 169, 170, 171, 172, 173, 174, 175, 176, 177, 178, 179, 180, 181, 182, 183, 184, 185, 189, 190, 191, 192, 193, 194, 195, 196, 197, 198, 199, 200, 201, 202, 203, 204, 205, 206, 207, 208, 209, 210, 211, 212, 213, 186, 187, 188, 214, 215, 216, 217, 218, 219, 220, 221, 222, 223] rfl (by decide +kernel)
set_option maxRecDepth 20000 in
theorem gX9_reach_X9_spread : GoodIn wsX9_reach (wsV RX9 226 RX9 yX9_spread wsX9_spread) := goodIn_app (goodIn_of _ (by decide +kernel)) ggX9_reach_X9_spread
set_option maxRecDepth 20000 in
theorem ggX9_reach_X3_towersReached : GoodIn wsX9_reach wsX3_towersReached := goodIn_r _ [139, 140, 141, 142, 143, 34, 144, 53, 47, 54, 39, 36, 92, 94, 95, 96, 97, 145, 146, 147, 148, 56, 149, 150, 151, 152, 57, 58, 153, 154, 155, 156, 133, 134, 135, 194, 195, 196, 197, 198, 199, 200, 201, 202, 203, 204, 205, 206, 207, 208, 209, 210, 211, 212, 213] rfl (by decide +kernel)
set_option maxRecDepth 20000 in
theorem gX9_reach_X3_towersReached : GoodIn wsX9_reach (wsV RX9 250 RX3 yX3_towersReached wsX3_towersReached) := goodIn_app (goodIn_of _ (by decide +kernel)) ggX9_reach_X3_towersReached
theorem da9_dX9_reach_0 : (decode cX9_reach 0 = .ok (.aload_n 0, 1)) ∧ (decode cX9_reach 1 = .ok (.aload_n 0, 1)) ∧ (decode cX9_reach 2 = .ok (.invokevirtual 144, 3)) ∧ (decode cX9_reach 5 = .ok (.invokevirtual 226, 3)) ∧ (decode cX9_reach 8 = .ok (.aload_n 0, 1)) ∧ (decode cX9_reach 9 = .ok (.getfield 80, 3)) ∧ (decode cX9_reach 12 = .ok (.invokevirtual 250, 3)) ∧ (decode cX9_reach 15 = .ok (.ireturn, 1)) := by decide +kernel
theorem dX9_reach_0 : decode cX9_reach 0 = .ok (.aload_n 0, 1) := da9_dX9_reach_0.1
theorem dX9_reach_1 : decode cX9_reach 1 = .ok (.aload_n 0, 1) := da9_dX9_reach_0.2.1
theorem dX9_reach_2 : decode cX9_reach 2 = .ok (.invokevirtual 144, 3) := da9_dX9_reach_0.2.2.1
theorem dX9_reach_5 : decode cX9_reach 5 = .ok (.invokevirtual 226, 3) := da9_dX9_reach_0.2.2.2.1
theorem dX9_reach_8 : decode cX9_reach 8 = .ok (.aload_n 0, 1) := da9_dX9_reach_0.2.2.2.2.1
theorem dX9_reach_9 : decode cX9_reach 9 = .ok (.getfield 80, 3) := da9_dX9_reach_0.2.2.2.2.2.1
theorem dX9_reach_12 : decode cX9_reach 12 = .ok (.invokevirtual 250, 3) := da9_dX9_reach_0.2.2.2.2.2.2.1
theorem dX9_reach_15 : decode cX9_reach 15 = .ok (.ireturn, 1) := da9_dX9_reach_0.2.2.2.2.2.2.2
set_option maxRecDepth 20000 in
theorem ggX9_gaps_X8_gapCount : GoodIn wsX9_gaps wsX8_gapCount := goodIn_r _ [6, 7, 8, 9, 10, 11, 12, 13, 14, 15, 16, 17, 18, 5, 19, 20, 21, 22, 52, 53, 54, 55, 56] rfl (by decide +kernel)
set_option maxRecDepth 20000 in
theorem gX9_gaps_X8_gapCount : GoodIn wsX9_gaps (wsV RX9 253 RX8 yX8_gapCount wsX8_gapCount) := goodIn_app (goodIn_of _ (by decide +kernel)) ggX9_gaps_X8_gapCount
theorem da9_dX9_gaps_0 : (decode cX9_gaps 0 = .ok (.aload_n 0, 1)) ∧ (decode cX9_gaps 1 = .ok (.getfield 10, 3)) ∧ (decode cX9_gaps 4 = .ok (.getfield 122, 3)) ∧ (decode cX9_gaps 7 = .ok (.invokevirtual 253, 3)) ∧ (decode cX9_gaps 10 = .ok (.ireturn, 1)) := by decide +kernel
theorem dX9_gaps_0 : decode cX9_gaps 0 = .ok (.aload_n 0, 1) := da9_dX9_gaps_0.1
theorem dX9_gaps_1 : decode cX9_gaps 1 = .ok (.getfield 10, 3) := da9_dX9_gaps_0.2.1
theorem dX9_gaps_4 : decode cX9_gaps 4 = .ok (.getfield 122, 3) := da9_dX9_gaps_0.2.2.1
theorem dX9_gaps_7 : decode cX9_gaps 7 = .ok (.invokevirtual 253, 3) := da9_dX9_gaps_0.2.2.2.1
theorem dX9_gaps_10 : decode cX9_gaps 10 = .ok (.ireturn, 1) := da9_dX9_gaps_0.2.2.2.2
set_option maxRecDepth 20000 in
theorem ggX9_comes_X9_seated : GoodIn wsX9_comes wsX9_seated := goodIn_r _ [6, 7, 8, 9, 10, 11, 12, 13, 14, 15, 16, 17, 18, 19, 20, 21, 22, 23, 24, 25, 26, 157, 158, 159, 160, 161, 162, 163, 164, 165, 166, 167, 168, 169, 170, 171, 172, 173, 174, 175, 176, 177, 178, 179, 180, 181, 182, 183, 184, 185, 186, 187, 188] rfl (by decide +kernel)
set_option maxRecDepth 20000 in
theorem gX9_comes_X9_seated : GoodIn wsX9_comes (wsV RX9 144 RX9 yX9_seated wsX9_seated) := goodIn_app (goodIn_of _ (by decide +kernel)) ggX9_comes_X9_seated
set_option maxRecDepth 20000 in
theorem ggX9_comes_X9_spread : GoodIn wsX9_comes wsX9_spread := goodIn_r _ [30, 1, 8, 31, 32, 33, 34, 35, 36, 37, 38, 39, 40, 41, 42, 43, 44, 45, 46, 47, 48, 49, 50, 51, 52, 53, 54, 55, 56, 57, 58, 59, 60, 61, 62, 63, 64, 65, 66, 67, 68, 5, 69, 70, 71, 72, 73, 74, 75, 76, 77, 78, 79, 80, 81, 82, 83, 84, 85, 86, 87, 88, 89, 90, 91, 92, 93, 94, 95, 96, 97, 98, 99, 100, 23, 101, 26, 102, 103, 104, 105, 106, 107, 108, 109, 25, 110, 111, 112, 113, 114, 115, 116, 117, 118, 119, 120, 121, 122, 123, 124, 125, 126, 127, 128, 129, 130, 131, 132, 133, 134, 135, 157, 158, 159, 160, 161, 162, 163, 164, 165, 166, 167, 168, 169, 170, 171, 172, 173, 174, 175, 176, 177, 178, 179, 180, 181, 182, 183, 184, 185, 189, 190, 191, 192, 193, 194, 195, 196, 197, 198, 199, 200, 201, 202, 203, 204, 205, 206, 207, 208, 209, 210, 211, 212, 213, 186, 187, 188, 214, 215, 216, 217, 218, 219, 220, 221, 222, 223] rfl (by decide +kernel)
set_option maxRecDepth 20000 in
theorem gX9_comes_X9_spread : GoodIn wsX9_comes (wsV RX9 226 RX9 yX9_spread wsX9_spread) := goodIn_app (goodIn_of _ (by decide +kernel)) ggX9_comes_X9_spread
set_option maxRecDepth 20000 in
theorem ggX9_comes_X3_turnsToNumber : GoodIn wsX9_comes wsX3_turnsToNumber := goodIn_r _ [139, 42, 36, 84, 85, 86, 34, 87, 41, 70, 71, 72, 73, 38, 68, 5, 69, 140, 141, 142, 143, 53, 47, 54, 144, 39, 92, 94, 95, 96, 97, 145, 146, 147, 148, 56, 149, 150, 151, 152, 57, 58, 153, 154, 155, 156, 133, 134, 135, 194, 195, 196, 197, 198, 199, 200, 201, 202, 203, 204, 205, 206, 207, 208, 209, 210, 211, 212, 213] rfl (by decide +kernel)
set_option maxRecDepth 20000 in
theorem gX9_comes_X3_turnsToNumber : GoodIn wsX9_comes (wsV RX9 256 RX3 yX3_turnsToNumber wsX3_turnsToNumber) := goodIn_app (goodIn_of _ (by decide +kernel)) ggX9_comes_X3_turnsToNumber
theorem da9_dX9_comes_0 : (decode cX9_comes 0 = .ok (.aload_n 0, 1)) ∧ (decode cX9_comes 1 = .ok (.aload_n 0, 1)) ∧ (decode cX9_comes 2 = .ok (.invokevirtual 144, 3)) ∧ (decode cX9_comes 5 = .ok (.invokevirtual 226, 3)) ∧ (decode cX9_comes 8 = .ok (.aload_n 0, 1)) ∧ (decode cX9_comes 9 = .ok (.getfield 80, 3)) ∧ (decode cX9_comes 12 = .ok (.iload_n 1, 1)) ∧ (decode cX9_comes 13 = .ok (.invokevirtual 256, 3)) ∧ (decode cX9_comes 16 = .ok (.ireturn, 1)) := by decide +kernel
theorem dX9_comes_0 : decode cX9_comes 0 = .ok (.aload_n 0, 1) := da9_dX9_comes_0.1
theorem dX9_comes_1 : decode cX9_comes 1 = .ok (.aload_n 0, 1) := da9_dX9_comes_0.2.1
theorem dX9_comes_2 : decode cX9_comes 2 = .ok (.invokevirtual 144, 3) := da9_dX9_comes_0.2.2.1
theorem dX9_comes_5 : decode cX9_comes 5 = .ok (.invokevirtual 226, 3) := da9_dX9_comes_0.2.2.2.1
theorem dX9_comes_8 : decode cX9_comes 8 = .ok (.aload_n 0, 1) := da9_dX9_comes_0.2.2.2.2.1
theorem dX9_comes_9 : decode cX9_comes 9 = .ok (.getfield 80, 3) := da9_dX9_comes_0.2.2.2.2.2.1
theorem dX9_comes_12 : decode cX9_comes 12 = .ok (.iload_n 1, 1) := da9_dX9_comes_0.2.2.2.2.2.2.1
theorem dX9_comes_13 : decode cX9_comes 13 = .ok (.invokevirtual 256, 3) := da9_dX9_comes_0.2.2.2.2.2.2.2.1
theorem dX9_comes_16 : decode cX9_comes 16 = .ok (.ireturn, 1) := da9_dX9_comes_0.2.2.2.2.2.2.2.2
set_option maxRecDepth 20000 in
theorem ggX9_view_X8_has : GoodIn wsX9_view wsX8_has := goodIn_r _ [7, 8, 9, 187, 188, 189, 190, 191] rfl (by decide +kernel)
set_option maxRecDepth 20000 in
theorem gX9_view_X8_has : GoodIn wsX9_view (wsV RX9 125 RX8 yX8_has wsX8_has) := goodIn_app (goodIn_of _ (by decide +kernel)) ggX9_view_X8_has
set_option maxRecDepth 20000 in
theorem ggX9_view_X9_seated : GoodIn wsX9_view wsX9_seated := goodIn_r _ [14, 15, 1, 16, 17, 18, 19, 20, 21, 22, 23, 24, 25, 26, 27, 28, 29, 30, 31, 32, 33, 158, 159, 160, 161, 162, 163, 164, 165, 166, 167, 168, 169, 170, 171, 172, 173, 174, 175, 176, 177, 178, 179, 180, 181, 182, 183, 184, 185, 186, 192, 193, 194] rfl (by decide +kernel)
set_option maxRecDepth 20000 in
theorem gX9_view_X9_seated : GoodIn wsX9_view (wsV RX9 144 RX9 yX9_seated wsX9_seated) := goodIn_app (goodIn_of _ (by decide +kernel)) ggX9_view_X9_seated
set_option maxRecDepth 20000 in
theorem ggX9_view_X9_spread : GoodIn wsX9_view wsX9_spread := goodIn_r _ [37, 2, 1, 38, 39, 40, 41, 42, 43, 44, 45, 46, 47, 48, 49, 50, 51, 52, 53, 54, 55, 56, 57, 58, 59, 60, 61, 62, 63, 64, 65, 66, 67, 68, 69, 70, 71, 72, 73, 74, 75, 13, 76, 77, 78, 79, 80, 81, 82, 83, 84, 4, 5, 6, 7, 8, 9, 85, 86, 87, 88, 89, 90, 91, 92, 93, 94, 95, 96, 97, 98, 99, 100, 101, 30, 102, 33, 103, 104, 105, 106, 107, 108, 109, 110, 32, 111, 112, 113, 114, 115, 116, 117, 118, 119, 120, 121, 122, 123, 124, 125, 126, 127, 128, 129, 130, 131, 132, 133, 134, 135, 136, 158, 159, 160, 161, 162, 163, 164, 165, 166, 167, 168, 169, 170, 171, 172, 173, 174, 175, 176, 177, 178, 179, 180, 181, 182, 183, 184, 185, 186, 187, 188, 189, 190, 191, 195, 196, 197, 198, 199, 200, 201, 202, 203, 204, 205, 206, 207, 208, 209, 210, 211, 212, 213, 214, 192, 193, 194, 215, 216, 217, 218, 219, 220, 221, 222, 223, 224] rfl (by decide +kernel)
set_option maxRecDepth 20000 in
theorem gX9_view_X9_spread : GoodIn wsX9_view (wsV RX9 226 RX9 yX9_spread wsX9_spread) := goodIn_app (goodIn_of _ (by decide +kernel)) ggX9_view_X9_spread
set_option maxRecDepth 20000 in
theorem ggX9_view_X3_turnsToTop : GoodIn wsX9_view wsX3_turnsToTop := goodIn_r _ [140, 85, 86, 87, 41, 88, 43, 48, 141, 142, 143, 144, 60, 54, 61, 145, 46, 93, 95, 96, 97, 98, 146, 147, 148, 149, 63, 150, 151, 152, 153, 64, 65, 154, 155, 156, 157, 134, 135, 136, 195, 196, 197, 198, 199, 200, 201, 202, 203, 204, 205, 206, 207, 208, 209, 210, 211, 212, 213, 214] rfl (by decide +kernel)
set_option maxRecDepth 20000 in
theorem gX9_view_X3_turnsToTop : GoodIn wsX9_view (wsV RX9 259 RX3 yX3_turnsToTop wsX3_turnsToTop) := goodIn_app (goodIn_of _ (by decide +kernel)) ggX9_view_X3_turnsToTop
theorem da9_dX9_view_0 : (decode cX9_view 0 = .ok (.aload_n 0, 1)) ∧ (decode cX9_view 1 = .ok (.getfield 10, 3)) ∧ (decode cX9_view 4 = .ok (.getfield 122, 3)) ∧ (decode cX9_view 7 = .ok (.iload_n 1, 1)) ∧ (decode cX9_view 8 = .ok (.invokevirtual 125, 3)) ∧ (decode cX9_view 11 = .ok (.ifCond .ne 5, 3)) ∧ (decode cX9_view 14 = .ok (.iconst (-1), 1)) ∧ (decode cX9_view 15 = .ok (.ireturn, 1)) ∧ (decode cX9_view 16 = .ok (.aload_n 0, 1)) ∧ (decode cX9_view 17 = .ok (.aload_n 0, 1)) ∧ (decode cX9_view 18 = .ok (.invokevirtual 144, 3)) ∧ (decode cX9_view 21 = .ok (.invokevirtual 226, 3)) ∧ (decode cX9_view 24 = .ok (.aload_n 0, 1)) ∧ (decode cX9_view 25 = .ok (.getfield 80, 3)) ∧ (decode cX9_view 28 = .ok (.iload_n 1, 1)) ∧ (decode cX9_view 29 = .ok (.invokevirtual 259, 3)) := by decide +kernel
theorem dX9_view_0 : decode cX9_view 0 = .ok (.aload_n 0, 1) := da9_dX9_view_0.1
theorem dX9_view_1 : decode cX9_view 1 = .ok (.getfield 10, 3) := da9_dX9_view_0.2.1
theorem dX9_view_4 : decode cX9_view 4 = .ok (.getfield 122, 3) := da9_dX9_view_0.2.2.1
theorem dX9_view_7 : decode cX9_view 7 = .ok (.iload_n 1, 1) := da9_dX9_view_0.2.2.2.1
theorem dX9_view_8 : decode cX9_view 8 = .ok (.invokevirtual 125, 3) := da9_dX9_view_0.2.2.2.2.1
theorem dX9_view_11 : decode cX9_view 11 = .ok (.ifCond .ne 5, 3) := da9_dX9_view_0.2.2.2.2.2.1
theorem dX9_view_14 : decode cX9_view 14 = .ok (.iconst (-1), 1) := da9_dX9_view_0.2.2.2.2.2.2.1
theorem dX9_view_15 : decode cX9_view 15 = .ok (.ireturn, 1) := da9_dX9_view_0.2.2.2.2.2.2.2.1
theorem dX9_view_16 : decode cX9_view 16 = .ok (.aload_n 0, 1) := da9_dX9_view_0.2.2.2.2.2.2.2.2.1
theorem dX9_view_17 : decode cX9_view 17 = .ok (.aload_n 0, 1) := da9_dX9_view_0.2.2.2.2.2.2.2.2.2.1
theorem dX9_view_18 : decode cX9_view 18 = .ok (.invokevirtual 144, 3) := da9_dX9_view_0.2.2.2.2.2.2.2.2.2.2.1
theorem dX9_view_21 : decode cX9_view 21 = .ok (.invokevirtual 226, 3) := da9_dX9_view_0.2.2.2.2.2.2.2.2.2.2.2.1
theorem dX9_view_24 : decode cX9_view 24 = .ok (.aload_n 0, 1) := da9_dX9_view_0.2.2.2.2.2.2.2.2.2.2.2.2.1
theorem dX9_view_25 : decode cX9_view 25 = .ok (.getfield 80, 3) := da9_dX9_view_0.2.2.2.2.2.2.2.2.2.2.2.2.2.1
theorem dX9_view_28 : decode cX9_view 28 = .ok (.iload_n 1, 1) := da9_dX9_view_0.2.2.2.2.2.2.2.2.2.2.2.2.2.2.1
theorem dX9_view_29 : decode cX9_view 29 = .ok (.invokevirtual 259, 3) := da9_dX9_view_0.2.2.2.2.2.2.2.2.2.2.2.2.2.2.2
theorem dX9_view_32 : decode cX9_view 32 = .ok (.ireturn, 1) := by decide +kernel
