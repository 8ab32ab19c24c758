set_option maxRecDepth 20000 in
theorem ggX10_yearPasses_X10_size : GoodIn wsX10_yearPasses wsX10_size := goodIn_r _ [7, 2, 100, 101, 102, 103, 104, 105, 106, 107, 108, 109, 110, 111, 112, 113, 114, 115, 116, 117, 118, 119, 120, 121, 122, 123, 124, 125, 126, 127, 128, 129, 130, 131, 132, 133, 134, 135, 136, 137, 138, 139, 140, 141, 142, 143, 144, 145, 146, 147, 148, 149, 150, 151, 152, 153, 154, 155] rfl (by decide +kernel)
set_option maxRecDepth 20000 in
theorem gX10_yearPasses_X10_size : GoodIn wsX10_yearPasses (wsV RX10 125 RX10 yX10_size wsX10_size) := goodIn_app (goodIn_of _ (by decide +kernel)) ggX10_yearPasses_X10_size
set_option maxRecDepth 20000 in
theorem ggX10_yearPasses_X10_tipsAt : GoodIn wsX10_yearPasses wsX10_tipsAt := goodIn_r _ [11, 12, 13, 14, 6, 15, 16, 2, 17, 18, 19, 20, 3, 4, 5, 7, 21, 22, 23, 24, 25, 26, 27, 28, 29, 30, 31, 32, 33, 34, 35, 36, 37, 38, 39, 40, 41, 42, 43, 44, 45, 46, 47, 48, 49, 50, 51, 52, 53, 54, 55, 56, 57, 58, 59, 60, 61, 62, 63, 64, 65, 66, 67, 68, 69, 70, 71, 72, 73, 74, 75, 76, 77, 78, 79, 80, 81, 82, 83, 84, 85, 86, 87, 88, 89, 90, 91, 92, 93, 94, 95, 96, 97, 98, 99, 100, 101, 102, 103, 104, 105, 106, 107, 108, 109, 110, 111, 112, 113, 114, 115, 116, 117, 118, 119, 120, 121, 122, 123, 124, 125, 126, 127, 128, 129, 130, 131, 132, 133, 134, 135, 136, 137, 138, 139, 140, 141, 142, 143, 144, 145, 146, 147, 148, 149, 150, 151, 152, 153, 154, 155] rfl (by decide +kernel)
set_option maxRecDepth 20000 in
theorem gX10_yearPasses_X10_tipsAt : GoodIn wsX10_yearPasses (wsV RX10 146 RX10 yX10_tipsAt wsX10_tipsAt) := goodIn_app (goodIn_of _ (by decide +kernel)) ggX10_yearPasses_X10_tipsAt
theorem da9_dX10_yearPasses_0 : (decode cX10_yearPasses 0 = .ok (.iconst 0, 1)) ∧ (decode cX10_yearPasses 1 = .ok (.istore_n 1, 1)) ∧ (decode cX10_yearPasses 2 = .ok (.iconst 0, 1)) ∧ (decode cX10_yearPasses 3 = .ok (.istore_n 2, 1)) ∧ (decode cX10_yearPasses 4 = .ok (.iload_n 2, 1)) ∧ (decode cX10_yearPasses 5 = .ok (.aload_n 0, 1)) ∧ (decode cX10_yearPasses 6 = .ok (.invokevirtual 125, 3)) ∧ (decode cX10_yearPasses 9 = .ok (.if_icmp .ge 20, 3)) ∧ (decode cX10_yearPasses 12 = .ok (.aload_n 0, 1)) ∧ (decode cX10_yearPasses 13 = .ok (.getfield 66, 3)) ∧ (decode cX10_yearPasses 16 = .ok (.iload_n 2, 1)) ∧ (decode cX10_yearPasses 17 = .ok (.aload_n 0, 1)) ∧ (decode cX10_yearPasses 18 = .ok (.iload_n 2, 1)) ∧ (decode cX10_yearPasses 19 = .ok (.invokevirtual 146, 3)) ∧ (decode cX10_yearPasses 22 = .ok (.bastore, 1)) ∧ (decode cX10_yearPasses 23 = .ok (.iinc 2 1, 3)) := by decide +kernel
theorem dX10_yearPasses_0 : decode cX10_yearPasses 0 = .ok (.iconst 0, 1) := da9_dX10_yearPasses_0.1
theorem dX10_yearPasses_1 : decode cX10_yearPasses 1 = .ok (.istore_n 1, 1) := da9_dX10_yearPasses_0.2.1
theorem dX10_yearPasses_2 : decode cX10_yearPasses 2 = .ok (.iconst 0, 1) := da9_dX10_yearPasses_0.2.2.1
theorem dX10_yearPasses_3 : decode cX10_yearPasses 3 = .ok (.istore_n 2, 1) := da9_dX10_yearPasses_0.2.2.2.1
theorem dX10_yearPasses_4 : decode cX10_yearPasses 4 = .ok (.iload_n 2, 1) := da9_dX10_yearPasses_0.2.2.2.2.1
theorem dX10_yearPasses_5 : decode cX10_yearPasses 5 = .ok (.aload_n 0, 1) := da9_dX10_yearPasses_0.2.2.2.2.2.1
theorem dX10_yearPasses_6 : decode cX10_yearPasses 6 = .ok (.invokevirtual 125, 3) := da9_dX10_yearPasses_0.2.2.2.2.2.2.1
theorem dX10_yearPasses_9 : decode cX10_yearPasses 9 = .ok (.if_icmp .ge 20, 3) := da9_dX10_yearPasses_0.2.2.2.2.2.2.2.1
theorem dX10_yearPasses_12 : decode cX10_yearPasses 12 = .ok (.aload_n 0, 1) := da9_dX10_yearPasses_0.2.2.2.2.2.2.2.2.1
theorem dX10_yearPasses_13 : decode cX10_yearPasses 13 = .ok (.getfield 66, 3) := da9_dX10_yearPasses_0.2.2.2.2.2.2.2.2.2.1
theorem dX10_yearPasses_16 : decode cX10_yearPasses 16 = .ok (.iload_n 2, 1) := da9_dX10_yearPasses_0.2.2.2.2.2.2.2.2.2.2.1
theorem dX10_yearPasses_17 : decode cX10_yearPasses 17 = .ok (.aload_n 0, 1) := da9_dX10_yearPasses_0.2.2.2.2.2.2.2.2.2.2.2.1
theorem dX10_yearPasses_18 : decode cX10_yearPasses 18 = .ok (.iload_n 2, 1) := da9_dX10_yearPasses_0.2.2.2.2.2.2.2.2.2.2.2.2.1
theorem dX10_yearPasses_19 : decode cX10_yearPasses 19 = .ok (.invokevirtual 146, 3) := da9_dX10_yearPasses_0.2.2.2.2.2.2.2.2.2.2.2.2.2.1
theorem dX10_yearPasses_22 : decode cX10_yearPasses 22 = .ok (.bastore, 1) := da9_dX10_yearPasses_0.2.2.2.2.2.2.2.2.2.2.2.2.2.2.1
theorem dX10_yearPasses_23 : decode cX10_yearPasses 23 = .ok (.iinc 2 1, 3) := da9_dX10_yearPasses_0.2.2.2.2.2.2.2.2.2.2.2.2.2.2.2
theorem da9_dX10_yearPasses_26 : (decode cX10_yearPasses 26 = .ok (.goto (-22), 3)) ∧ (decode cX10_yearPasses 29 = .ok (.iconst 0, 1)) ∧ (decode cX10_yearPasses 30 = .ok (.istore_n 2, 1)) ∧ (decode cX10_yearPasses 31 = .ok (.iload_n 2, 1)) ∧ (decode cX10_yearPasses 32 = .ok (.aload_n 0, 1)) ∧ (decode cX10_yearPasses 33 = .ok (.invokevirtual 125, 3)) ∧ (decode cX10_yearPasses 36 = .ok (.if_icmp .ge 67, 3)) ∧ (decode cX10_yearPasses 39 = .ok (.aload_n 0, 1)) ∧ (decode cX10_yearPasses 40 = .ok (.getfield 28, 3)) ∧ (decode cX10_yearPasses 43 = .ok (.bipush 6, 2)) ∧ (decode cX10_yearPasses 45 = .ok (.iload_n 2, 1)) ∧ (decode cX10_yearPasses 46 = .ok (.iadd, 1)) ∧ (decode cX10_yearPasses 47 = .ok (.aload_n 0, 1)) ∧ (decode cX10_yearPasses 48 = .ok (.getfield 66, 3)) ∧ (decode cX10_yearPasses 51 = .ok (.iload_n 2, 1)) ∧ (decode cX10_yearPasses 52 = .ok (.baload, 1)) := by decide +kernel
theorem dX10_yearPasses_26 : decode cX10_yearPasses 26 = .ok (.goto (-22), 3) := da9_dX10_yearPasses_26.1
theorem dX10_yearPasses_29 : decode cX10_yearPasses 29 = .ok (.iconst 0, 1) := da9_dX10_yearPasses_26.2.1
theorem dX10_yearPasses_30 : decode cX10_yearPasses 30 = .ok (.istore_n 2, 1) := da9_dX10_yearPasses_26.2.2.1
theorem dX10_yearPasses_31 : decode cX10_yearPasses 31 = .ok (.iload_n 2, 1) := da9_dX10_yearPasses_26.2.2.2.1
theorem dX10_yearPasses_32 : decode cX10_yearPasses 32 = .ok (.aload_n 0, 1) := da9_dX10_yearPasses_26.2.2.2.2.1
theorem dX10_yearPasses_33 : decode cX10_yearPasses 33 = .ok (.invokevirtual 125, 3) := da9_dX10_yearPasses_26.2.2.2.2.2.1
theorem dX10_yearPasses_36 : decode cX10_yearPasses 36 = .ok (.if_icmp .ge 67, 3) := da9_dX10_yearPasses_26.2.2.2.2.2.2.1
theorem dX10_yearPasses_39 : decode cX10_yearPasses 39 = .ok (.aload_n 0, 1) := da9_dX10_yearPasses_26.2.2.2.2.2.2.2.1
theorem dX10_yearPasses_40 : decode cX10_yearPasses 40 = .ok (.getfield 28, 3) := da9_dX10_yearPasses_26.2.2.2.2.2.2.2.2.1
theorem dX10_yearPasses_43 : decode cX10_yearPasses 43 = .ok (.bipush 6, 2) := da9_dX10_yearPasses_26.2.2.2.2.2.2.2.2.2.1
theorem dX10_yearPasses_45 : decode cX10_yearPasses 45 = .ok (.iload_n 2, 1) := da9_dX10_yearPasses_26.2.2.2.2.2.2.2.2.2.2.1
theorem dX10_yearPasses_46 : decode cX10_yearPasses 46 = .ok (.iadd, 1) := da9_dX10_yearPasses_26.2.2.2.2.2.2.2.2.2.2.2.1
theorem dX10_yearPasses_47 : decode cX10_yearPasses 47 = .ok (.aload_n 0, 1) := da9_dX10_yearPasses_26.2.2.2.2.2.2.2.2.2.2.2.2.1
theorem dX10_yearPasses_48 : decode cX10_yearPasses 48 = .ok (.getfield 66, 3) := da9_dX10_yearPasses_26.2.2.2.2.2.2.2.2.2.2.2.2.2.1
theorem dX10_yearPasses_51 : decode cX10_yearPasses 51 = .ok (.iload_n 2, 1) := da9_dX10_yearPasses_26.2.2.2.2.2.2.2.2.2.2.2.2.2.2.1
theorem dX10_yearPasses_52 : decode cX10_yearPasses 52 = .ok (.baload, 1) := da9_dX10_yearPasses_26.2.2.2.2.2.2.2.2.2.2.2.2.2.2.2
theorem da9_dX10_yearPasses_53 : (decode cX10_yearPasses 53 = .ok (.ifCond .eq 17, 3)) ∧ (decode cX10_yearPasses 56 = .ok (.iconst 1, 1)) ∧ (decode cX10_yearPasses 57 = .ok (.aload_n 0, 1)) ∧ (decode cX10_yearPasses 58 = .ok (.getfield 28, 3)) ∧ (decode cX10_yearPasses 61 = .ok (.bipush 6, 2)) ∧ (decode cX10_yearPasses 63 = .ok (.iload_n 2, 1)) ∧ (decode cX10_yearPasses 64 = .ok (.iadd, 1)) ∧ (decode cX10_yearPasses 65 = .ok (.iaload, 1)) ∧ (decode cX10_yearPasses 66 = .ok (.isub, 1)) ∧ (decode cX10_yearPasses 67 = .ok (.goto 12, 3)) ∧ (decode cX10_yearPasses 70 = .ok (.aload_n 0, 1)) ∧ (decode cX10_yearPasses 71 = .ok (.getfield 28, 3)) ∧ (decode cX10_yearPasses 74 = .ok (.bipush 6, 2)) ∧ (decode cX10_yearPasses 76 = .ok (.iload_n 2, 1)) ∧ (decode cX10_yearPasses 77 = .ok (.iadd, 1)) ∧ (decode cX10_yearPasses 78 = .ok (.iaload, 1)) := by decide +kernel
theorem dX10_yearPasses_53 : decode cX10_yearPasses 53 = .ok (.ifCond .eq 17, 3) := da9_dX10_yearPasses_53.1
theorem dX10_yearPasses_56 : decode cX10_yearPasses 56 = .ok (.iconst 1, 1) := da9_dX10_yearPasses_53.2.1
theorem dX10_yearPasses_57 : decode cX10_yearPasses 57 = .ok (.aload_n 0, 1) := da9_dX10_yearPasses_53.2.2.1
theorem dX10_yearPasses_58 : decode cX10_yearPasses 58 = .ok (.getfield 28, 3) := da9_dX10_yearPasses_53.2.2.2.1
theorem dX10_yearPasses_61 : decode cX10_yearPasses 61 = .ok (.bipush 6, 2) := da9_dX10_yearPasses_53.2.2.2.2.1
theorem dX10_yearPasses_63 : decode cX10_yearPasses 63 = .ok (.iload_n 2, 1) := da9_dX10_yearPasses_53.2.2.2.2.2.1
theorem dX10_yearPasses_64 : decode cX10_yearPasses 64 = .ok (.iadd, 1) := da9_dX10_yearPasses_53.2.2.2.2.2.2.1
theorem dX10_yearPasses_65 : decode cX10_yearPasses 65 = .ok (.iaload, 1) := da9_dX10_yearPasses_53.2.2.2.2.2.2.2.1
theorem dX10_yearPasses_66 : decode cX10_yearPasses 66 = .ok (.isub, 1) := da9_dX10_yearPasses_53.2.2.2.2.2.2.2.2.1
theorem dX10_yearPasses_67 : decode cX10_yearPasses 67 = .ok (.goto 12, 3) := da9_dX10_yearPasses_53.2.2.2.2.2.2.2.2.2.1
theorem dX10_yearPasses_70 : decode cX10_yearPasses 70 = .ok (.aload_n 0, 1) := da9_dX10_yearPasses_53.2.2.2.2.2.2.2.2.2.2.1
theorem dX10_yearPasses_71 : decode cX10_yearPasses 71 = .ok (.getfield 28, 3) := da9_dX10_yearPasses_53.2.2.2.2.2.2.2.2.2.2.2.1
theorem dX10_yearPasses_74 : decode cX10_yearPasses 74 = .ok (.bipush 6, 2) := da9_dX10_yearPasses_53.2.2.2.2.2.2.2.2.2.2.2.2.1
theorem dX10_yearPasses_76 : decode cX10_yearPasses 76 = .ok (.iload_n 2, 1) := da9_dX10_yearPasses_53.2.2.2.2.2.2.2.2.2.2.2.2.2.1
theorem dX10_yearPasses_77 : decode cX10_yearPasses 77 = .ok (.iadd, 1) := da9_dX10_yearPasses_53.2.2.2.2.2.2.2.2.2.2.2.2.2.2.1
theorem dX10_yearPasses_78 : decode cX10_yearPasses 78 = .ok (.iaload, 1) := da9_dX10_yearPasses_53.2.2.2.2.2.2.2.2.2.2.2.2.2.2.2
theorem da9_dX10_yearPasses_79 : (decode cX10_yearPasses 79 = .ok (.iastore, 1)) ∧ (decode cX10_yearPasses 80 = .ok (.iload_n 1, 1)) ∧ (decode cX10_yearPasses 81 = .ok (.aload_n 0, 1)) ∧ (decode cX10_yearPasses 82 = .ok (.getfield 66, 3)) ∧ (decode cX10_yearPasses 85 = .ok (.iload_n 2, 1)) ∧ (decode cX10_yearPasses 86 = .ok (.baload, 1)) ∧ (decode cX10_yearPasses 87 = .ok (.ifCond .eq 7, 3)) ∧ (decode cX10_yearPasses 90 = .ok (.iconst 1, 1)) ∧ (decode cX10_yearPasses 91 = .ok (.goto 4, 3)) ∧ (decode cX10_yearPasses 94 = .ok (.iconst 0, 1)) ∧ (decode cX10_yearPasses 95 = .ok (.iadd, 1)) ∧ (decode cX10_yearPasses 96 = .ok (.istore_n 1, 1)) ∧ (decode cX10_yearPasses 97 = .ok (.iinc 2 1, 3)) ∧ (decode cX10_yearPasses 100 = .ok (.goto (-69), 3)) ∧ (decode cX10_yearPasses 103 = .ok (.aload_n 0, 1)) ∧ (decode cX10_yearPasses 104 = .ok (.getfield 28, 3)) := by decide +kernel
theorem dX10_yearPasses_79 : decode cX10_yearPasses 79 = .ok (.iastore, 1) := da9_dX10_yearPasses_79.1
theorem dX10_yearPasses_80 : decode cX10_yearPasses 80 = .ok (.iload_n 1, 1) := da9_dX10_yearPasses_79.2.1
theorem dX10_yearPasses_81 : decode cX10_yearPasses 81 = .ok (.aload_n 0, 1) := da9_dX10_yearPasses_79.2.2.1
theorem dX10_yearPasses_82 : decode cX10_yearPasses 82 = .ok (.getfield 66, 3) := da9_dX10_yearPasses_79.2.2.2.1
theorem dX10_yearPasses_85 : decode cX10_yearPasses 85 = .ok (.iload_n 2, 1) := da9_dX10_yearPasses_79.2.2.2.2.1
theorem dX10_yearPasses_86 : decode cX10_yearPasses 86 = .ok (.baload, 1) := da9_dX10_yearPasses_79.2.2.2.2.2.1
theorem dX10_yearPasses_87 : decode cX10_yearPasses 87 = .ok (.ifCond .eq 7, 3) := da9_dX10_yearPasses_79.2.2.2.2.2.2.1
theorem dX10_yearPasses_90 : decode cX10_yearPasses 90 = .ok (.iconst 1, 1) := da9_dX10_yearPasses_79.2.2.2.2.2.2.2.1
theorem dX10_yearPasses_91 : decode cX10_yearPasses 91 = .ok (.goto 4, 3) := da9_dX10_yearPasses_79.2.2.2.2.2.2.2.2.1
theorem dX10_yearPasses_94 : decode cX10_yearPasses 94 = .ok (.iconst 0, 1) := da9_dX10_yearPasses_79.2.2.2.2.2.2.2.2.2.1
theorem dX10_yearPasses_95 : decode cX10_yearPasses 95 = .ok (.iadd, 1) := da9_dX10_yearPasses_79.2.2.2.2.2.2.2.2.2.2.1
theorem dX10_yearPasses_96 : decode cX10_yearPasses 96 = .ok (.istore_n 1, 1) := da9_dX10_yearPasses_79.2.2.2.2.2.2.2.2.2.2.2.1
theorem dX10_yearPasses_97 : decode cX10_yearPasses 97 = .ok (.iinc 2 1, 3) := da9_dX10_yearPasses_79.2.2.2.2.2.2.2.2.2.2.2.2.1
theorem dX10_yearPasses_100 : decode cX10_yearPasses 100 = .ok (.goto (-69), 3) := da9_dX10_yearPasses_79.2.2.2.2.2.2.2.2.2.2.2.2.2.1
theorem dX10_yearPasses_103 : decode cX10_yearPasses 103 = .ok (.aload_n 0, 1) := da9_dX10_yearPasses_79.2.2.2.2.2.2.2.2.2.2.2.2.2.2.1
theorem dX10_yearPasses_104 : decode cX10_yearPasses 104 = .ok (.getfield 28, 3) := da9_dX10_yearPasses_79.2.2.2.2.2.2.2.2.2.2.2.2.2.2.2
theorem da9_dX10_yearPasses_107 : (decode cX10_yearPasses 107 = .ok (.bipush 13, 2)) ∧ (decode cX10_yearPasses 109 = .ok (.dup2, 1)) ∧ (decode cX10_yearPasses 110 = .ok (.iaload, 1)) ∧ (decode cX10_yearPasses 111 = .ok (.iconst 1, 1)) ∧ (decode cX10_yearPasses 112 = .ok (.iadd, 1)) ∧ (decode cX10_yearPasses 113 = .ok (.iastore, 1)) ∧ (decode cX10_yearPasses 114 = .ok (.iload_n 1, 1)) ∧ (decode cX10_yearPasses 115 = .ok (.ireturn, 1)) := by decide +kernel
theorem dX10_yearPasses_107 : decode cX10_yearPasses 107 = .ok (.bipush 13, 2) := da9_dX10_yearPasses_107.1
theorem dX10_yearPasses_109 : decode cX10_yearPasses 109 = .ok (.dup2, 1) := da9_dX10_yearPasses_107.2.1
theorem dX10_yearPasses_110 : decode cX10_yearPasses 110 = .ok (.iaload, 1) := da9_dX10_yearPasses_107.2.2.1
theorem dX10_yearPasses_111 : decode cX10_yearPasses 111 = .ok (.iconst 1, 1) := da9_dX10_yearPasses_107.2.2.2.1
theorem dX10_yearPasses_112 : decode cX10_yearPasses 112 = .ok (.iadd, 1) := da9_dX10_yearPasses_107.2.2.2.2.1
theorem dX10_yearPasses_113 : decode cX10_yearPasses 113 = .ok (.iastore, 1) := da9_dX10_yearPasses_107.2.2.2.2.2.1
theorem dX10_yearPasses_114 : decode cX10_yearPasses 114 = .ok (.iload_n 1, 1) := da9_dX10_yearPasses_107.2.2.2.2.2.2.1
theorem dX10_yearPasses_115 : decode cX10_yearPasses 115 = .ok (.ireturn, 1) := da9_dX10_yearPasses_107.2.2.2.2.2.2.2
theorem da9_dX10_keeps_0 : (decode cX10_keeps 0 = .ok (.bipush 15, 2)) ∧ (decode cX10_keeps 2 = .ok (.istore_n 2, 1)) ∧ (decode cX10_keeps 3 = .ok (.aload_n 0, 1)) ∧ (decode cX10_keeps 4 = .ok (.getfield 11, 3)) ∧ (decode cX10_keeps 7 = .ok (.bipush 16, 2)) ∧ (decode cX10_keeps 9 = .ok (.if_icmp .ne 43, 3)) ∧ (decode cX10_keeps 12 = .ok (.iconst 0, 1)) ∧ (decode cX10_keeps 13 = .ok (.istore_n 3, 1)) ∧ (decode cX10_keeps 14 = .ok (.iload_n 3, 1)) ∧ (decode cX10_keeps 15 = .ok (.bipush 15, 2)) ∧ (decode cX10_keeps 17 = .ok (.iload_n 2, 1)) ∧ (decode cX10_keeps 18 = .ok (.imul, 1)) ∧ (decode cX10_keeps 19 = .ok (.if_icmp .ge 23, 3)) ∧ (decode cX10_keeps 22 = .ok (.aload_n 0, 1)) ∧ (decode cX10_keeps 23 = .ok (.getfield 69, 3)) ∧ (decode cX10_keeps 26 = .ok (.iload_n 3, 1)) := by decide +kernel
theorem dX10_keeps_0 : decode cX10_keeps 0 = .ok (.bipush 15, 2) := da9_dX10_keeps_0.1
theorem dX10_keeps_2 : decode cX10_keeps 2 = .ok (.istore_n 2, 1) := da9_dX10_keeps_0.2.1
theorem dX10_keeps_3 : decode cX10_keeps 3 = .ok (.aload_n 0, 1) := da9_dX10_keeps_0.2.2.1
theorem dX10_keeps_4 : decode cX10_keeps 4 = .ok (.getfield 11, 3) := da9_dX10_keeps_0.2.2.2.1
theorem dX10_keeps_7 : decode cX10_keeps 7 = .ok (.bipush 16, 2) := da9_dX10_keeps_0.2.2.2.2.1
theorem dX10_keeps_9 : decode cX10_keeps 9 = .ok (.if_icmp .ne 43, 3) := da9_dX10_keeps_0.2.2.2.2.2.1
theorem dX10_keeps_12 : decode cX10_keeps 12 = .ok (.iconst 0, 1) := da9_dX10_keeps_0.2.2.2.2.2.2.1
theorem dX10_keeps_13 : decode cX10_keeps 13 = .ok (.istore_n 3, 1) := da9_dX10_keeps_0.2.2.2.2.2.2.2.1
theorem dX10_keeps_14 : decode cX10_keeps 14 = .ok (.iload_n 3, 1) := da9_dX10_keeps_0.2.2.2.2.2.2.2.2.1
theorem dX10_keeps_15 : decode cX10_keeps 15 = .ok (.bipush 15, 2) := da9_dX10_keeps_0.2.2.2.2.2.2.2.2.2.1
theorem dX10_keeps_17 : decode cX10_keeps 17 = .ok (.iload_n 2, 1) := da9_dX10_keeps_0.2.2.2.2.2.2.2.2.2.2.1
theorem dX10_keeps_18 : decode cX10_keeps 18 = .ok (.imul, 1) := da9_dX10_keeps_0.2.2.2.2.2.2.2.2.2.2.2.1
theorem dX10_keeps_19 : decode cX10_keeps 19 = .ok (.if_icmp .ge 23, 3) := da9_dX10_keeps_0.2.2.2.2.2.2.2.2.2.2.2.2.1
theorem dX10_keeps_22 : decode cX10_keeps 22 = .ok (.aload_n 0, 1) := da9_dX10_keeps_0.2.2.2.2.2.2.2.2.2.2.2.2.2.1
theorem dX10_keeps_23 : decode cX10_keeps 23 = .ok (.getfield 69, 3) := da9_dX10_keeps_0.2.2.2.2.2.2.2.2.2.2.2.2.2.2.1
theorem dX10_keeps_26 : decode cX10_keeps 26 = .ok (.iload_n 3, 1) := da9_dX10_keeps_0.2.2.2.2.2.2.2.2.2.2.2.2.2.2.2
theorem da9_dX10_keeps_27 : (decode cX10_keeps 27 = .ok (.aload_n 0, 1)) ∧ (decode cX10_keeps 28 = .ok (.getfield 69, 3)) ∧ (decode cX10_keeps 31 = .ok (.iload_n 3, 1)) ∧ (decode cX10_keeps 32 = .ok (.iload_n 2, 1)) ∧ (decode cX10_keeps 33 = .ok (.iadd, 1)) ∧ (decode cX10_keeps 34 = .ok (.iaload, 1)) ∧ (decode cX10_keeps 35 = .ok (.iastore, 1)) ∧ (decode cX10_keeps 36 = .ok (.iinc 3 1, 3)) ∧ (decode cX10_keeps 39 = .ok (.goto (-25), 3)) ∧ (decode cX10_keeps 42 = .ok (.aload_n 0, 1)) ∧ (decode cX10_keeps 43 = .ok (.dup, 1)) ∧ (decode cX10_keeps 44 = .ok (.getfield 11, 3)) ∧ (decode cX10_keeps 47 = .ok (.iconst 1, 1)) ∧ (decode cX10_keeps 48 = .ok (.isub, 1)) ∧ (decode cX10_keeps 49 = .ok (.putfield 11, 3)) ∧ (decode cX10_keeps 52 = .ok (.iconst 0, 1)) := by decide +kernel
theorem dX10_keeps_27 : decode cX10_keeps 27 = .ok (.aload_n 0, 1) := da9_dX10_keeps_27.1
theorem dX10_keeps_28 : decode cX10_keeps 28 = .ok (.getfield 69, 3) := da9_dX10_keeps_27.2.1
theorem dX10_keeps_31 : decode cX10_keeps 31 = .ok (.iload_n 3, 1) := da9_dX10_keeps_27.2.2.1
theorem dX10_keeps_32 : decode cX10_keeps 32 = .ok (.iload_n 2, 1) := da9_dX10_keeps_27.2.2.2.1
theorem dX10_keeps_33 : decode cX10_keeps 33 = .ok (.iadd, 1) := da9_dX10_keeps_27.2.2.2.2.1
theorem dX10_keeps_34 : decode cX10_keeps 34 = .ok (.iaload, 1) := da9_dX10_keeps_27.2.2.2.2.2.1
theorem dX10_keeps_35 : decode cX10_keeps 35 = .ok (.iastore, 1) := da9_dX10_keeps_27.2.2.2.2.2.2.1
theorem dX10_keeps_36 : decode cX10_keeps 36 = .ok (.iinc 3 1, 3) := da9_dX10_keeps_27.2.2.2.2.2.2.2.1
theorem dX10_keeps_39 : decode cX10_keeps 39 = .ok (.goto (-25), 3) := da9_dX10_keeps_27.2.2.2.2.2.2.2.2.1
theorem dX10_keeps_42 : decode cX10_keeps 42 = .ok (.aload_n 0, 1) := da9_dX10_keeps_27.2.2.2.2.2.2.2.2.2.1
theorem dX10_keeps_43 : decode cX10_keeps 43 = .ok (.dup, 1) := da9_dX10_keeps_27.2.2.2.2.2.2.2.2.2.2.1
theorem dX10_keeps_44 : decode cX10_keeps 44 = .ok (.getfield 11, 3) := da9_dX10_keeps_27.2.2.2.2.2.2.2.2.2.2.2.1
theorem dX10_keeps_47 : decode cX10_keeps 47 = .ok (.iconst 1, 1) := da9_dX10_keeps_27.2.2.2.2.2.2.2.2.2.2.2.2.1
theorem dX10_keeps_48 : decode cX10_keeps 48 = .ok (.isub, 1) := da9_dX10_keeps_27.2.2.2.2.2.2.2.2.2.2.2.2.2.1
theorem dX10_keeps_49 : decode cX10_keeps 49 = .ok (.putfield 11, 3) := da9_dX10_keeps_27.2.2.2.2.2.2.2.2.2.2.2.2.2.2.1
theorem dX10_keeps_52 : decode cX10_keeps 52 = .ok (.iconst 0, 1) := da9_dX10_keeps_27.2.2.2.2.2.2.2.2.2.2.2.2.2.2.2
theorem da9_dX10_keeps_53 : (decode cX10_keeps 53 = .ok (.istore_n 3, 1)) ∧ (decode cX10_keeps 54 = .ok (.iload_n 3, 1)) ∧ (decode cX10_keeps 55 = .ok (.bipush 14, 2)) ∧ (decode cX10_keeps 57 = .ok (.if_icmp .ge 28, 3)) ∧ (decode cX10_keeps 60 = .ok (.aload_n 0, 1)) ∧ (decode cX10_keeps 61 = .ok (.getfield 69, 3)) ∧ (decode cX10_keeps 64 = .ok (.iload_n 2, 1)) ∧ (decode cX10_keeps 65 = .ok (.aload_n 0, 1)) ∧ (decode cX10_keeps 66 = .ok (.getfield 11, 3)) ∧ (decode cX10_keeps 69 = .ok (.imul, 1)) ∧ (decode cX10_keeps 70 = .ok (.iload_n 3, 1)) ∧ (decode cX10_keeps 71 = .ok (.iadd, 1)) ∧ (decode cX10_keeps 72 = .ok (.aload_n 0, 1)) ∧ (decode cX10_keeps 73 = .ok (.getfield 28, 3)) ∧ (decode cX10_keeps 76 = .ok (.iload_n 3, 1)) ∧ (decode cX10_keeps 77 = .ok (.iaload, 1)) := by decide +kernel
theorem dX10_keeps_53 : decode cX10_keeps 53 = .ok (.istore_n 3, 1) := da9_dX10_keeps_53.1
theorem dX10_keeps_54 : decode cX10_keeps 54 = .ok (.iload_n 3, 1) := da9_dX10_keeps_53.2.1
theorem dX10_keeps_55 : decode cX10_keeps 55 = .ok (.bipush 14, 2) := da9_dX10_keeps_53.2.2.1
theorem dX10_keeps_57 : decode cX10_keeps 57 = .ok (.if_icmp .ge 28, 3) := da9_dX10_keeps_53.2.2.2.1
theorem dX10_keeps_60 : decode cX10_keeps 60 = .ok (.aload_n 0, 1) := da9_dX10_keeps_53.2.2.2.2.1
theorem dX10_keeps_61 : decode cX10_keeps 61 = .ok (.getfield 69, 3) := da9_dX10_keeps_53.2.2.2.2.2.1
theorem dX10_keeps_64 : decode cX10_keeps 64 = .ok (.iload_n 2, 1) := da9_dX10_keeps_53.2.2.2.2.2.2.1
theorem dX10_keeps_65 : decode cX10_keeps 65 = .ok (.aload_n 0, 1) := da9_dX10_keeps_53.2.2.2.2.2.2.2.1
theorem dX10_keeps_66 : decode cX10_keeps 66 = .ok (.getfield 11, 3) := da9_dX10_keeps_53.2.2.2.2.2.2.2.2.1
theorem dX10_keeps_69 : decode cX10_keeps 69 = .ok (.imul, 1) := da9_dX10_keeps_53.2.2.2.2.2.2.2.2.2.1
theorem dX10_keeps_70 : decode cX10_keeps 70 = .ok (.iload_n 3, 1) := da9_dX10_keeps_53.2.2.2.2.2.2.2.2.2.2.1
theorem dX10_keeps_71 : decode cX10_keeps 71 = .ok (.iadd, 1) := da9_dX10_keeps_53.2.2.2.2.2.2.2.2.2.2.2.1
theorem dX10_keeps_72 : decode cX10_keeps 72 = .ok (.aload_n 0, 1) := da9_dX10_keeps_53.2.2.2.2.2.2.2.2.2.2.2.2.1
theorem dX10_keeps_73 : decode cX10_keeps 73 = .ok (.getfield 28, 3) := da9_dX10_keeps_53.2.2.2.2.2.2.2.2.2.2.2.2.2.1
theorem dX10_keeps_76 : decode cX10_keeps 76 = .ok (.iload_n 3, 1) := da9_dX10_keeps_53.2.2.2.2.2.2.2.2.2.2.2.2.2.2.1
theorem dX10_keeps_77 : decode cX10_keeps 77 = .ok (.iaload, 1) := da9_dX10_keeps_53.2.2.2.2.2.2.2.2.2.2.2.2.2.2.2
theorem da9_dX10_keeps_78 : (decode cX10_keeps 78 = .ok (.iastore, 1)) ∧ (decode cX10_keeps 79 = .ok (.iinc 3 1, 3)) ∧ (decode cX10_keeps 82 = .ok (.goto (-28), 3)) ∧ (decode cX10_keeps 85 = .ok (.aload_n 0, 1)) ∧ (decode cX10_keeps 86 = .ok (.getfield 69, 3)) ∧ (decode cX10_keeps 89 = .ok (.iload_n 2, 1)) ∧ (decode cX10_keeps 90 = .ok (.aload_n 0, 1)) ∧ (decode cX10_keeps 91 = .ok (.getfield 11, 3)) ∧ (decode cX10_keeps 94 = .ok (.imul, 1)) ∧ (decode cX10_keeps 95 = .ok (.bipush 14, 2)) ∧ (decode cX10_keeps 97 = .ok (.iadd, 1)) ∧ (decode cX10_keeps 98 = .ok (.iload_n 1, 1)) ∧ (decode cX10_keeps 99 = .ok (.iastore, 1)) ∧ (decode cX10_keeps 100 = .ok (.aload_n 0, 1)) ∧ (decode cX10_keeps 101 = .ok (.dup, 1)) ∧ (decode cX10_keeps 102 = .ok (.getfield 11, 3)) := by decide +kernel
theorem dX10_keeps_78 : decode cX10_keeps 78 = .ok (.iastore, 1) := da9_dX10_keeps_78.1
theorem dX10_keeps_79 : decode cX10_keeps 79 = .ok (.iinc 3 1, 3) := da9_dX10_keeps_78.2.1
theorem dX10_keeps_82 : decode cX10_keeps 82 = .ok (.goto (-28), 3) := da9_dX10_keeps_78.2.2.1
theorem dX10_keeps_85 : decode cX10_keeps 85 = .ok (.aload_n 0, 1) := da9_dX10_keeps_78.2.2.2.1
theorem dX10_keeps_86 : decode cX10_keeps 86 = .ok (.getfield 69, 3) := da9_dX10_keeps_78.2.2.2.2.1
theorem dX10_keeps_89 : decode cX10_keeps 89 = .ok (.iload_n 2, 1) := da9_dX10_keeps_78.2.2.2.2.2.1
theorem dX10_keeps_90 : decode cX10_keeps 90 = .ok (.aload_n 0, 1) := da9_dX10_keeps_78.2.2.2.2.2.2.1
theorem dX10_keeps_91 : decode cX10_keeps 91 = .ok (.getfield 11, 3) := da9_dX10_keeps_78.2.2.2.2.2.2.2.1
theorem dX10_keeps_94 : decode cX10_keeps 94 = .ok (.imul, 1) := da9_dX10_keeps_78.2.2.2.2.2.2.2.2.1
theorem dX10_keeps_95 : decode cX10_keeps 95 = .ok (.bipush 14, 2) := da9_dX10_keeps_78.2.2.2.2.2.2.2.2.2.1
theorem dX10_keeps_97 : decode cX10_keeps 97 = .ok (.iadd, 1) := da9_dX10_keeps_78.2.2.2.2.2.2.2.2.2.2.1
theorem dX10_keeps_98 : decode cX10_keeps 98 = .ok (.iload_n 1, 1) := da9_dX10_keeps_78.2.2.2.2.2.2.2.2.2.2.2.1
theorem dX10_keeps_99 : decode cX10_keeps 99 = .ok (.iastore, 1) := da9_dX10_keeps_78.2.2.2.2.2.2.2.2.2.2.2.2.1
theorem dX10_keeps_100 : decode cX10_keeps 100 = .ok (.aload_n 0, 1) := da9_dX10_keeps_78.2.2.2.2.2.2.2.2.2.2.2.2.2.1
theorem dX10_keeps_101 : decode cX10_keeps 101 = .ok (.dup, 1) := da9_dX10_keeps_78.2.2.2.2.2.2.2.2.2.2.2.2.2.2.1
theorem dX10_keeps_102 : decode cX10_keeps 102 = .ok (.getfield 11, 3) := da9_dX10_keeps_78.2.2.2.2.2.2.2.2.2.2.2.2.2.2.2
theorem da9_dX10_keeps_105 : (decode cX10_keeps 105 = .ok (.iconst 1, 1)) ∧ (decode cX10_keeps 106 = .ok (.iadd, 1)) ∧ (decode cX10_keeps 107 = .ok (.putfield 11, 3)) ∧ (decode cX10_keeps 110 = .ok (.return_, 1)) := by decide +kernel
theorem dX10_keeps_105 : decode cX10_keeps 105 = .ok (.iconst 1, 1) := da9_dX10_keeps_105.1
theorem dX10_keeps_106 : decode cX10_keeps 106 = .ok (.iadd, 1) := da9_dX10_keeps_105.2.1
theorem dX10_keeps_107 : decode cX10_keeps 107 = .ok (.putfield 11, 3) := da9_dX10_keeps_105.2.2.1
theorem dX10_keeps_110 : decode cX10_keeps 110 = .ok (.return_, 1) := da9_dX10_keeps_105.2.2.2
set_option maxRecDepth 20000 in
theorem ggX10_undo_X10_refuses : GoodIn wsX10_undo wsX10_refuses := goodIn_r _ [8, 9, 10, 15, 16, 17, 18, 19, 20, 21, 22, 23, 24, 25, 26, 27, 28, 29, 30, 31, 32, 33, 34, 35, 36, 37, 38, 39, 40, 41, 42, 43, 44, 45, 46, 47, 48, 49, 50, 51, 52, 53, 54, 55, 56, 57, 58, 59, 60, 61, 62, 63, 64, 65, 66, 67, 68, 69, 70] rfl (by decide +kernel)
set_option maxRecDepth 20000 in
theorem gX10_undo_X10_refuses : GoodIn wsX10_undo (wsV RX10 119 RX10 yX10_refuses wsX10_refuses) := goodIn_app (goodIn_of _ (by decide +kernel)) ggX10_undo_X10_refuses
set_option maxRecDepth 20000 in
theorem ggX10_undo_X10_good : GoodIn wsX10_undo wsX10_good := goodIn_r _ [14, 9, 15, 16, 17, 18, 19, 20, 21, 22, 23, 24, 25, 26, 27, 28, 29, 30, 31, 32, 33, 34, 35, 36, 37, 38, 39, 40, 41, 42, 43, 44, 45, 46, 47, 48, 49, 50, 51, 52, 53, 54, 55, 56, 57, 58, 59, 60, 61, 62, 63, 64, 65, 66, 67, 68, 69, 70] rfl (by decide +kernel)
set_option maxRecDepth 20000 in
theorem gX10_undo_X10_good : GoodIn wsX10_undo (wsV RX10 14 RX10 yX10_good wsX10_good) := goodIn_app (goodIn_of _ (by decide +kernel)) ggX10_undo_X10_good
theorem da9_dX10_undo_0 : (decode cX10_undo 0 = .ok (.aload_n 0, 1)) ∧ (decode cX10_undo 1 = .ok (.getfield 11, 3)) ∧ (decode cX10_undo 4 = .ok (.ifCond .ne 10, 3)) ∧ (decode cX10_undo 7 = .ok (.aload_n 0, 1)) ∧ (decode cX10_undo 8 = .ok (.bipush (-3), 2)) ∧ (decode cX10_undo 10 = .ok (.invokevirtual 119, 3)) ∧ (decode cX10_undo 13 = .ok (.ireturn, 1)) ∧ (decode cX10_undo 14 = .ok (.aload_n 0, 1)) ∧ (decode cX10_undo 15 = .ok (.dup, 1)) ∧ (decode cX10_undo 16 = .ok (.getfield 11, 3)) ∧ (decode cX10_undo 19 = .ok (.iconst 1, 1)) ∧ (decode cX10_undo 20 = .ok (.isub, 1)) ∧ (decode cX10_undo 21 = .ok (.putfield 11, 3)) ∧ (decode cX10_undo 24 = .ok (.bipush 15, 2)) ∧ (decode cX10_undo 26 = .ok (.aload_n 0, 1)) ∧ (decode cX10_undo 27 = .ok (.getfield 11, 3)) := by decide +kernel
theorem dX10_undo_0 : decode cX10_undo 0 = .ok (.aload_n 0, 1) := da9_dX10_undo_0.1
theorem dX10_undo_1 : decode cX10_undo 1 = .ok (.getfield 11, 3) := da9_dX10_undo_0.2.1
theorem dX10_undo_4 : decode cX10_undo 4 = .ok (.ifCond .ne 10, 3) := da9_dX10_undo_0.2.2.1
theorem dX10_undo_7 : decode cX10_undo 7 = .ok (.aload_n 0, 1) := da9_dX10_undo_0.2.2.2.1
theorem dX10_undo_8 : decode cX10_undo 8 = .ok (.bipush (-3), 2) := da9_dX10_undo_0.2.2.2.2.1
theorem dX10_undo_10 : decode cX10_undo 10 = .ok (.invokevirtual 119, 3) := da9_dX10_undo_0.2.2.2.2.2.1
theorem dX10_undo_13 : decode cX10_undo 13 = .ok (.ireturn, 1) := da9_dX10_undo_0.2.2.2.2.2.2.1
theorem dX10_undo_14 : decode cX10_undo 14 = .ok (.aload_n 0, 1) := da9_dX10_undo_0.2.2.2.2.2.2.2.1
theorem dX10_undo_15 : decode cX10_undo 15 = .ok (.dup, 1) := da9_dX10_undo_0.2.2.2.2.2.2.2.2.1
theorem dX10_undo_16 : decode cX10_undo 16 = .ok (.getfield 11, 3) := da9_dX10_undo_0.2.2.2.2.2.2.2.2.2.1
theorem dX10_undo_19 : decode cX10_undo 19 = .ok (.iconst 1, 1) := da9_dX10_undo_0.2.2.2.2.2.2.2.2.2.2.1
theorem dX10_undo_20 : decode cX10_undo 20 = .ok (.isub, 1) := da9_dX10_undo_0.2.2.2.2.2.2.2.2.2.2.2.1
theorem dX10_undo_21 : decode cX10_undo 21 = .ok (.putfield 11, 3) := da9_dX10_undo_0.2.2.2.2.2.2.2.2.2.2.2.2.1
theorem dX10_undo_24 : decode cX10_undo 24 = .ok (.bipush 15, 2) := da9_dX10_undo_0.2.2.2.2.2.2.2.2.2.2.2.2.2.1
theorem dX10_undo_26 : decode cX10_undo 26 = .ok (.aload_n 0, 1) := da9_dX10_undo_0.2.2.2.2.2.2.2.2.2.2.2.2.2.2.1
theorem dX10_undo_27 : decode cX10_undo 27 = .ok (.getfield 11, 3) := da9_dX10_undo_0.2.2.2.2.2.2.2.2.2.2.2.2.2.2.2
theorem da9_dX10_undo_30 : (decode cX10_undo 30 = .ok (.imul, 1)) ∧ (decode cX10_undo 31 = .ok (.istore_n 1, 1)) ∧ (decode cX10_undo 32 = .ok (.iconst 0, 1)) ∧ (decode cX10_undo 33 = .ok (.istore_n 2, 1)) ∧ (decode cX10_undo 34 = .ok (.iload_n 2, 1)) ∧ (decode cX10_undo 35 = .ok (.bipush 14, 2)) ∧ (decode cX10_undo 37 = .ok (.if_icmp .ge 23, 3)) ∧ (decode cX10_undo 40 = .ok (.aload_n 0, 1)) ∧ (decode cX10_undo 41 = .ok (.getfield 28, 3)) ∧ (decode cX10_undo 44 = .ok (.iload_n 2, 1)) ∧ (decode cX10_undo 45 = .ok (.aload_n 0, 1)) ∧ (decode cX10_undo 46 = .ok (.getfield 69, 3)) ∧ (decode cX10_undo 49 = .ok (.iload_n 1, 1)) ∧ (decode cX10_undo 50 = .ok (.iload_n 2, 1)) ∧ (decode cX10_undo 51 = .ok (.iadd, 1)) ∧ (decode cX10_undo 52 = .ok (.iaload, 1)) := by decide +kernel
theorem dX10_undo_30 : decode cX10_undo 30 = .ok (.imul, 1) := da9_dX10_undo_30.1
theorem dX10_undo_31 : decode cX10_undo 31 = .ok (.istore_n 1, 1) := da9_dX10_undo_30.2.1
theorem dX10_undo_32 : decode cX10_undo 32 = .ok (.iconst 0, 1) := da9_dX10_undo_30.2.2.1
theorem dX10_undo_33 : decode cX10_undo 33 = .ok (.istore_n 2, 1) := da9_dX10_undo_30.2.2.2.1
theorem dX10_undo_34 : decode cX10_undo 34 = .ok (.iload_n 2, 1) := da9_dX10_undo_30.2.2.2.2.1
theorem dX10_undo_35 : decode cX10_undo 35 = .ok (.bipush 14, 2) := da9_dX10_undo_30.2.2.2.2.2.1
theorem dX10_undo_37 : decode cX10_undo 37 = .ok (.if_icmp .ge 23, 3) := da9_dX10_undo_30.2.2.2.2.2.2.1
theorem dX10_undo_40 : decode cX10_undo 40 = .ok (.aload_n 0, 1) := da9_dX10_undo_30.2.2.2.2.2.2.2.1
theorem dX10_undo_41 : decode cX10_undo 41 = .ok (.getfield 28, 3) := da9_dX10_undo_30.2.2.2.2.2.2.2.2.1
theorem dX10_undo_44 : decode cX10_undo 44 = .ok (.iload_n 2, 1) := da9_dX10_undo_30.2.2.2.2.2.2.2.2.2.1
theorem dX10_undo_45 : decode cX10_undo 45 = .ok (.aload_n 0, 1) := da9_dX10_undo_30.2.2.2.2.2.2.2.2.2.2.1
theorem dX10_undo_46 : decode cX10_undo 46 = .ok (.getfield 69, 3) := da9_dX10_undo_30.2.2.2.2.2.2.2.2.2.2.2.1
theorem dX10_undo_49 : decode cX10_undo 49 = .ok (.iload_n 1, 1) := da9_dX10_undo_30.2.2.2.2.2.2.2.2.2.2.2.2.1
theorem dX10_undo_50 : decode cX10_undo 50 = .ok (.iload_n 2, 1) := da9_dX10_undo_30.2.2.2.2.2.2.2.2.2.2.2.2.2.1
theorem dX10_undo_51 : decode cX10_undo 51 = .ok (.iadd, 1) := da9_dX10_undo_30.2.2.2.2.2.2.2.2.2.2.2.2.2.2.1
theorem dX10_undo_52 : decode cX10_undo 52 = .ok (.iaload, 1) := da9_dX10_undo_30.2.2.2.2.2.2.2.2.2.2.2.2.2.2.2
theorem da9_dX10_undo_53 : (decode cX10_undo 53 = .ok (.iastore, 1)) ∧ (decode cX10_undo 54 = .ok (.iinc 2 1, 3)) ∧ (decode cX10_undo 57 = .ok (.goto (-23), 3)) ∧ (decode cX10_undo 60 = .ok (.aload_n 0, 1)) ∧ (decode cX10_undo 61 = .ok (.aload_n 0, 1)) ∧ (decode cX10_undo 62 = .ok (.getfield 69, 3)) ∧ (decode cX10_undo 65 = .ok (.iload_n 1, 1)) ∧ (decode cX10_undo 66 = .ok (.bipush 14, 2)) ∧ (decode cX10_undo 68 = .ok (.iadd, 1)) ∧ (decode cX10_undo 69 = .ok (.iaload, 1)) ∧ (decode cX10_undo 70 = .ok (.invokevirtual 14, 3)) ∧ (decode cX10_undo 73 = .ok (.ireturn, 1)) := by decide +kernel
theorem dX10_undo_53 : decode cX10_undo 53 = .ok (.iastore, 1) := da9_dX10_undo_53.1
theorem dX10_undo_54 : decode cX10_undo 54 = .ok (.iinc 2 1, 3) := da9_dX10_undo_53.2.1
theorem dX10_undo_57 : decode cX10_undo 57 = .ok (.goto (-23), 3) := da9_dX10_undo_53.2.2.1
theorem dX10_undo_60 : decode cX10_undo 60 = .ok (.aload_n 0, 1) := da9_dX10_undo_53.2.2.2.1
theorem dX10_undo_61 : decode cX10_undo 61 = .ok (.aload_n 0, 1) := da9_dX10_undo_53.2.2.2.2.1
theorem dX10_undo_62 : decode cX10_undo 62 = .ok (.getfield 69, 3) := da9_dX10_undo_53.2.2.2.2.2.1
theorem dX10_undo_65 : decode cX10_undo 65 = .ok (.iload_n 1, 1) := da9_dX10_undo_53.2.2.2.2.2.2.1
theorem dX10_undo_66 : decode cX10_undo 66 = .ok (.bipush 14, 2) := da9_dX10_undo_53.2.2.2.2.2.2.2.1
theorem dX10_undo_68 : decode cX10_undo 68 = .ok (.iadd, 1) := da9_dX10_undo_53.2.2.2.2.2.2.2.2.1
theorem dX10_undo_69 : decode cX10_undo 69 = .ok (.iaload, 1) := da9_dX10_undo_53.2.2.2.2.2.2.2.2.2.1
theorem dX10_undo_70 : decode cX10_undo 70 = .ok (.invokevirtual 14, 3) := da9_dX10_undo_53.2.2.2.2.2.2.2.2.2.2.1
theorem dX10_undo_73 : decode cX10_undo 73 = .ok (.ireturn, 1) := da9_dX10_undo_53.2.2.2.2.2.2.2.2.2.2.2
set_option maxRecDepth 20000 in
theorem ggX10_goodOr_X10_refuses : GoodIn wsX10_goodOr wsX10_refuses := goodIn_r _ [5, 6, 7, 12, 13, 14, 15, 16, 17, 18, 19, 20, 21, 22, 23, 24, 25, 26, 27, 28, 29, 30, 31, 32, 33, 34, 35, 36, 37, 38, 39, 40, 41, 42, 43, 44, 45, 46, 47, 48, 49, 50, 51, 52, 53, 54, 55, 56, 57, 58, 59, 60, 61, 62, 63, 64, 65, 66, 67] rfl (by decide +kernel)
set_option maxRecDepth 20000 in
theorem gX10_goodOr_X10_refuses : GoodIn wsX10_goodOr (wsV RX10 119 RX10 yX10_refuses wsX10_refuses) := goodIn_app (goodIn_of _ (by decide +kernel)) ggX10_goodOr_X10_refuses
set_option maxRecDepth 20000 in
theorem ggX10_goodOr_X10_good : GoodIn wsX10_goodOr wsX10_good := goodIn_r _ [11, 6, 12, 13, 14, 15, 16, 17, 18, 19, 20, 21, 22, 23, 24, 25, 26, 27, 28, 29, 30, 31, 32, 33, 34, 35, 36, 37, 38, 39, 40, 41, 42, 43, 44, 45, 46, 47, 48, 49, 50, 51, 52, 53, 54, 55, 56, 57, 58, 59, 60, 61, 62, 63, 64, 65, 66, 67] rfl (by decide +kernel)
set_option maxRecDepth 20000 in
theorem gX10_goodOr_X10_good : GoodIn wsX10_goodOr (wsV RX10 14 RX10 yX10_good wsX10_good) := goodIn_app (goodIn_of _ (by decide +kernel)) ggX10_goodOr_X10_good
theorem da9_dX10_goodOr_0 : (decode cX10_goodOr 0 = .ok (.iload_n 1, 1)) ∧ (decode cX10_goodOr 1 = .ok (.ifCond .ge 11, 3)) ∧ (decode cX10_goodOr 4 = .ok (.aload_n 0, 1)) ∧ (decode cX10_goodOr 5 = .ok (.iload_n 1, 1)) ∧ (decode cX10_goodOr 6 = .ok (.invokevirtual 119, 3)) ∧ (decode cX10_goodOr 9 = .ok (.goto 8, 3)) ∧ (decode cX10_goodOr 12 = .ok (.aload_n 0, 1)) ∧ (decode cX10_goodOr 13 = .ok (.iload_n 1, 1)) ∧ (decode cX10_goodOr 14 = .ok (.invokevirtual 14, 3)) ∧ (decode cX10_goodOr 17 = .ok (.ireturn, 1)) := by decide +kernel
theorem dX10_goodOr_0 : decode cX10_goodOr 0 = .ok (.iload_n 1, 1) := da9_dX10_goodOr_0.1
theorem dX10_goodOr_1 : decode cX10_goodOr 1 = .ok (.ifCond .ge 11, 3) := da9_dX10_goodOr_0.2.1
theorem dX10_goodOr_4 : decode cX10_goodOr 4 = .ok (.aload_n 0, 1) := da9_dX10_goodOr_0.2.2.1
theorem dX10_goodOr_5 : decode cX10_goodOr 5 = .ok (.iload_n 1, 1) := da9_dX10_goodOr_0.2.2.2.1
theorem dX10_goodOr_6 : decode cX10_goodOr 6 = .ok (.invokevirtual 119, 3) := da9_dX10_goodOr_0.2.2.2.2.1
theorem dX10_goodOr_9 : decode cX10_goodOr 9 = .ok (.goto 8, 3) := da9_dX10_goodOr_0.2.2.2.2.2.1
theorem dX10_goodOr_12 : decode cX10_goodOr 12 = .ok (.aload_n 0, 1) := da9_dX10_goodOr_0.2.2.2.2.2.2.1
theorem dX10_goodOr_13 : decode cX10_goodOr 13 = .ok (.iload_n 1, 1) := da9_dX10_goodOr_0.2.2.2.2.2.2.2.1
theorem dX10_goodOr_14 : decode cX10_goodOr 14 = .ok (.invokevirtual 14, 3) := da9_dX10_goodOr_0.2.2.2.2.2.2.2.2.1
theorem dX10_goodOr_17 : decode cX10_goodOr 17 = .ok (.ireturn, 1) := da9_dX10_goodOr_0.2.2.2.2.2.2.2.2.2
set_option maxRecDepth 20000 in
theorem ggX10_turnsKept_X10_lies : GoodIn wsX10_turnsKept wsX10_lies := goodIn_r _ [4] rfl (by decide +kernel)
set_option maxRecDepth 20000 in
theorem gX10_turnsKept_X10_lies : GoodIn wsX10_turnsKept (va_wsS RX10 18 yX10_lies wsX10_lies) := goodIn_app (goodIn_of _ (by decide +kernel)) ggX10_turnsKept_X10_lies
set_option maxRecDepth 20000 in
theorem ggX10_turnsKept_X10_canTurn : GoodIn wsX10_turnsKept wsX10_canTurn := goodIn_r _ [8, 9, 10, 11, 12, 3, 13, 14, 15, 16, 17, 18, 19, 20, 21, 22, 23, 24, 25, 26, 27, 28, 29, 30, 31, 32, 33, 34, 35, 36, 37, 38, 39, 40, 41, 42, 43, 44, 45, 46, 47, 48, 49, 50, 51, 52, 53, 54, 55, 56, 57, 58, 59, 60, 61, 62, 63, 64, 65, 66, 67, 68, 69, 70, 71, 72, 73, 74, 1, 2, 4, 75, 76, 77, 78, 79, 80, 81, 82, 83, 84, 85, 86, 87, 88, 89, 90, 91, 92, 93, 94, 95, 96, 97, 98, 99, 100, 101, 102, 124, 125, 126, 127, 128, 129, 130, 131, 132, 133, 134, 135, 136, 137, 138, 139, 140, 141, 142, 143, 144, 145, 146, 147, 148, 149, 150, 151, 152, 153, 154, 155, 156, 157, 158, 159, 160, 161, 162, 163, 164, 165, 166, 167, 168, 169, 170, 171, 172, 173, 174, 175, 176, 177, 178, 179] rfl (by decide +kernel)
set_option maxRecDepth 20000 in
theorem gX10_turnsKept_X10_canTurn : GoodIn wsX10_turnsKept (wsV RX10 353 RX10 yX10_canTurn wsX10_canTurn) := goodIn_app (goodIn_of _ (by decide +kernel)) ggX10_turnsKept_X10_canTurn
set_option maxRecDepth 20000 in
theorem ggX10_turnsKept_X10_keeps : GoodIn wsX10_turnsKept wsX10_keeps := goodIn_r _ [106, 107, 108, 9, 124, 125, 126, 127, 128, 129, 130, 131, 132, 133, 134, 135, 136, 137, 138, 139, 140, 141, 142, 143, 144, 145, 146, 147, 148, 149, 150, 151, 152, 153, 154, 155, 156, 157, 158, 159, 160, 161, 162, 163, 164, 165, 166, 167, 168, 169, 170, 171, 172, 173, 174, 175, 176, 177, 178, 179] rfl (by decide +kernel)
set_option maxRecDepth 20000 in
theorem gX10_turnsKept_X10_keeps : GoodIn wsX10_turnsKept (wsV RX10 356 RX10 yX10_keeps wsX10_keeps) := goodIn_app (goodIn_of _ (by decide +kernel)) ggX10_turnsKept_X10_keeps
set_option maxRecDepth 20000 in
theorem ggX10_turnsKept_X10_turns : GoodIn wsX10_turnsKept wsX10_turns := goodIn_r _ [112, 9, 14, 15, 16, 3, 17, 10, 11, 12, 13, 18, 19, 20, 21, 22, 23, 24, 25, 26, 113, 114, 115, 116, 31, 32, 33, 34, 35, 36, 37, 38, 39, 40, 41, 42, 43, 44, 45, 46, 47, 48, 49, 50, 51, 52, 53, 54, 55, 56, 57, 58, 59, 60, 61, 62, 63, 64, 65, 66, 67, 68, 69, 70, 71, 72, 73, 74, 1, 2, 4, 75, 76, 77, 78, 79, 80, 81, 82, 83, 84, 85, 86, 87, 88, 89, 90, 91, 92, 93, 94, 95, 96, 97, 98, 99, 100, 101, 102, 117, 118, 119, 120, 121, 122, 123, 124, 125, 126, 127, 128, 129, 130, 131, 132, 133, 134, 135, 136, 137, 138, 139, 140, 141, 142, 143, 144, 145, 146, 147, 148, 149, 150, 151, 152, 153, 154, 155, 156, 157, 158, 159, 160, 161, 162, 163, 164, 165, 166, 167, 168, 169, 170, 171, 172, 173, 174, 175, 176, 177, 178, 179] rfl (by decide +kernel)
set_option maxRecDepth 20000 in
theorem gX10_turnsKept_X10_turns : GoodIn wsX10_turnsKept (wsV RX10 359 RX10 yX10_turns wsX10_turns) := goodIn_app (goodIn_of _ (by decide +kernel)) ggX10_turnsKept_X10_turns
theorem da9_dX10_turnsKept_0 : (decode cX10_turnsKept 0 = .ok (.iload_n 1, 1)) ∧ (decode cX10_turnsKept 1 = .ok (.iconst 1, 1)) ∧ (decode cX10_turnsKept 2 = .ok (.bipush 6, 2)) ∧ (decode cX10_turnsKept 4 = .ok (.invokestatic 18, 3)) ∧ (decode cX10_turnsKept 7 = .ok (.ifCond .ne 5, 3)) ∧ (decode cX10_turnsKept 10 = .ok (.iconst (-1), 1)) ∧ (decode cX10_turnsKept 11 = .ok (.ireturn, 1)) ∧ (decode cX10_turnsKept 12 = .ok (.aload_n 0, 1)) ∧ (decode cX10_turnsKept 13 = .ok (.iload_n 1, 1)) ∧ (decode cX10_turnsKept 14 = .ok (.invokevirtual 353, 3)) ∧ (decode cX10_turnsKept 17 = .ok (.ifCond .ne 6, 3)) ∧ (decode cX10_turnsKept 20 = .ok (.bipush (-3), 2)) ∧ (decode cX10_turnsKept 22 = .ok (.ireturn, 1)) ∧ (decode cX10_turnsKept 23 = .ok (.aload_n 0, 1)) ∧ (decode cX10_turnsKept 24 = .ok (.iconst 0, 1)) ∧ (decode cX10_turnsKept 25 = .ok (.invokevirtual 356, 3)) := by decide +kernel
theorem dX10_turnsKept_0 : decode cX10_turnsKept 0 = .ok (.iload_n 1, 1) := da9_dX10_turnsKept_0.1
theorem dX10_turnsKept_1 : decode cX10_turnsKept 1 = .ok (.iconst 1, 1) := da9_dX10_turnsKept_0.2.1
theorem dX10_turnsKept_2 : decode cX10_turnsKept 2 = .ok (.bipush 6, 2) := da9_dX10_turnsKept_0.2.2.1
theorem dX10_turnsKept_4 : decode cX10_turnsKept 4 = .ok (.invokestatic 18, 3) := da9_dX10_turnsKept_0.2.2.2.1
theorem dX10_turnsKept_7 : decode cX10_turnsKept 7 = .ok (.ifCond .ne 5, 3) := da9_dX10_turnsKept_0.2.2.2.2.1
theorem dX10_turnsKept_10 : decode cX10_turnsKept 10 = .ok (.iconst (-1), 1) := da9_dX10_turnsKept_0.2.2.2.2.2.1
theorem dX10_turnsKept_11 : decode cX10_turnsKept 11 = .ok (.ireturn, 1) := da9_dX10_turnsKept_0.2.2.2.2.2.2.1
theorem dX10_turnsKept_12 : decode cX10_turnsKept 12 = .ok (.aload_n 0, 1) := da9_dX10_turnsKept_0.2.2.2.2.2.2.2.1
theorem dX10_turnsKept_13 : decode cX10_turnsKept 13 = .ok (.iload_n 1, 1) := da9_dX10_turnsKept_0.2.2.2.2.2.2.2.2.1
theorem dX10_turnsKept_14 : decode cX10_turnsKept 14 = .ok (.invokevirtual 353, 3) := da9_dX10_turnsKept_0.2.2.2.2.2.2.2.2.2.1
theorem dX10_turnsKept_17 : decode cX10_turnsKept 17 = .ok (.ifCond .ne 6, 3) := da9_dX10_turnsKept_0.2.2.2.2.2.2.2.2.2.2.1
theorem dX10_turnsKept_20 : decode cX10_turnsKept 20 = .ok (.bipush (-3), 2) := da9_dX10_turnsKept_0.2.2.2.2.2.2.2.2.2.2.2.1
theorem dX10_turnsKept_22 : decode cX10_turnsKept 22 = .ok (.ireturn, 1) := da9_dX10_turnsKept_0.2.2.2.2.2.2.2.2.2.2.2.2.1
theorem dX10_turnsKept_23 : decode cX10_turnsKept 23 = .ok (.aload_n 0, 1) := da9_dX10_turnsKept_0.2.2.2.2.2.2.2.2.2.2.2.2.2.1
theorem dX10_turnsKept_24 : decode cX10_turnsKept 24 = .ok (.iconst 0, 1) := da9_dX10_turnsKept_0.2.2.2.2.2.2.2.2.2.2.2.2.2.2.1
theorem dX10_turnsKept_25 : decode cX10_turnsKept 25 = .ok (.invokevirtual 356, 3) := da9_dX10_turnsKept_0.2.2.2.2.2.2.2.2.2.2.2.2.2.2.2
theorem da9_dX10_turnsKept_28 : (decode cX10_turnsKept 28 = .ok (.aload_n 0, 1)) ∧ (decode cX10_turnsKept 29 = .ok (.iload_n 1, 1)) ∧ (decode cX10_turnsKept 30 = .ok (.invokevirtual 359, 3)) ∧ (decode cX10_turnsKept 33 = .ok (.ireturn, 1)) := by decide +kernel
theorem dX10_turnsKept_28 : decode cX10_turnsKept 28 = .ok (.aload_n 0, 1) := da9_dX10_turnsKept_28.1
theorem dX10_turnsKept_29 : decode cX10_turnsKept 29 = .ok (.iload_n 1, 1) := da9_dX10_turnsKept_28.2.1
theorem dX10_turnsKept_30 : decode cX10_turnsKept 30 = .ok (.invokevirtual 359, 3) := da9_dX10_turnsKept_28.2.2.1
theorem dX10_turnsKept_33 : decode cX10_turnsKept 33 = .ok (.ireturn, 1) := da9_dX10_turnsKept_28.2.2.2
set_option maxRecDepth 20000 in
theorem ggX10_rightsKept_X10_lies : GoodIn wsX10_rightsKept wsX10_lies := goodIn_r _ [5] rfl (by decide +kernel)
set_option maxRecDepth 20000 in
theorem gX10_rightsKept_X10_lies : GoodIn wsX10_rightsKept (va_wsS RX10 18 yX10_lies wsX10_lies) := goodIn_app (goodIn_of _ (by decide +kernel)) ggX10_rightsKept_X10_lies
set_option maxRecDepth 20000 in
theorem ggX10_rightsKept_X10_isPlace : GoodIn wsX10_rightsKept wsX10_isPlace := goodIn_r _ [9, 10, 11, 12, 4, 13, 1, 2, 3, 5, 20, 21, 22, 23, 24, 25, 26, 27, 28, 29, 30, 31, 32, 33, 34, 35, 36, 37, 38, 39, 40, 41, 42, 43, 44, 45, 46, 47, 48, 49, 50, 51, 52, 53, 54, 55, 56, 57, 58, 59, 60, 61, 62, 63, 64, 65, 66, 67, 68, 69, 70, 71, 72, 73, 74, 75] rfl (by decide +kernel)
set_option maxRecDepth 20000 in
theorem gX10_rightsKept_X10_isPlace : GoodIn wsX10_rightsKept (wsV RX10 143 RX10 yX10_isPlace wsX10_isPlace) := goodIn_app (goodIn_of _ (by decide +kernel)) ggX10_rightsKept_X10_isPlace
set_option maxRecDepth 20000 in
theorem ggX10_rightsKept_X10_keeps : GoodIn wsX10_rightsKept wsX10_keeps := goodIn_r _ [17, 18, 19, 1, 20, 21, 22, 23, 24, 25, 26, 27, 28, 29, 30, 31, 32, 33, 34, 35, 36, 37, 38, 39, 40, 41, 42, 43, 44, 45, 46, 47, 48, 49, 50, 51, 52, 53, 54, 55, 56, 57, 58, 59, 60, 61, 62, 63, 64, 65, 66, 67, 68, 69, 70, 71, 72, 73, 74, 75] rfl (by decide +kernel)
set_option maxRecDepth 20000 in
theorem gX10_rightsKept_X10_keeps : GoodIn wsX10_rightsKept (wsV RX10 356 RX10 yX10_keeps wsX10_keeps) := goodIn_app (goodIn_of _ (by decide +kernel)) ggX10_rightsKept_X10_keeps
theorem da9_dX10_rightsKept_0 : (decode cX10_rightsKept 0 = .ok (.iload_n 1, 1)) ∧ (decode cX10_rightsKept 1 = .ok (.iconst 0, 1)) ∧ (decode cX10_rightsKept 2 = .ok (.iconst 5, 1)) ∧ (decode cX10_rightsKept 3 = .ok (.invokestatic 18, 3)) ∧ (decode cX10_rightsKept 6 = .ok (.ifCond .ne 5, 3)) ∧ (decode cX10_rightsKept 9 = .ok (.iconst (-1), 1)) ∧ (decode cX10_rightsKept 10 = .ok (.ireturn, 1)) ∧ (decode cX10_rightsKept 11 = .ok (.aload_n 0, 1)) ∧ (decode cX10_rightsKept 12 = .ok (.iload_n 1, 1)) ∧ (decode cX10_rightsKept 13 = .ok (.invokevirtual 143, 3)) ∧ (decode cX10_rightsKept 16 = .ok (.ifCond .ne 6, 3)) ∧ (decode cX10_rightsKept 19 = .ok (.bipush (-3), 2)) ∧ (decode cX10_rightsKept 21 = .ok (.ireturn, 1)) ∧ (decode cX10_rightsKept 22 = .ok (.aload_n 0, 1)) ∧ (decode cX10_rightsKept 23 = .ok (.iconst 1, 1)) ∧ (decode cX10_rightsKept 24 = .ok (.invokevirtual 356, 3)) := by decide +kernel
theorem dX10_rightsKept_0 : decode cX10_rightsKept 0 = .ok (.iload_n 1, 1) := da9_dX10_rightsKept_0.1
theorem dX10_rightsKept_1 : decode cX10_rightsKept 1 = .ok (.iconst 0, 1) := da9_dX10_rightsKept_0.2.1
theorem dX10_rightsKept_2 : decode cX10_rightsKept 2 = .ok (.iconst 5, 1) := da9_dX10_rightsKept_0.2.2.1
theorem dX10_rightsKept_3 : decode cX10_rightsKept 3 = .ok (.invokestatic 18, 3) := da9_dX10_rightsKept_0.2.2.2.1
theorem dX10_rightsKept_6 : decode cX10_rightsKept 6 = .ok (.ifCond .ne 5, 3) := da9_dX10_rightsKept_0.2.2.2.2.1
theorem dX10_rightsKept_9 : decode cX10_rightsKept 9 = .ok (.iconst (-1), 1) := da9_dX10_rightsKept_0.2.2.2.2.2.1
theorem dX10_rightsKept_10 : decode cX10_rightsKept 10 = .ok (.ireturn, 1) := da9_dX10_rightsKept_0.2.2.2.2.2.2.1
theorem dX10_rightsKept_11 : decode cX10_rightsKept 11 = .ok (.aload_n 0, 1) := da9_dX10_rightsKept_0.2.2.2.2.2.2.2.1
theorem dX10_rightsKept_12 : decode cX10_rightsKept 12 = .ok (.iload_n 1, 1) := da9_dX10_rightsKept_0.2.2.2.2.2.2.2.2.1
theorem dX10_rightsKept_13 : decode cX10_rightsKept 13 = .ok (.invokevirtual 143, 3) := da9_dX10_rightsKept_0.2.2.2.2.2.2.2.2.2.1
theorem dX10_rightsKept_16 : decode cX10_rightsKept 16 = .ok (.ifCond .ne 6, 3) := da9_dX10_rightsKept_0.2.2.2.2.2.2.2.2.2.2.1
theorem dX10_rightsKept_19 : decode cX10_rightsKept 19 = .ok (.bipush (-3), 2) := da9_dX10_rightsKept_0.2.2.2.2.2.2.2.2.2.2.2.1
theorem dX10_rightsKept_21 : decode cX10_rightsKept 21 = .ok (.ireturn, 1) := da9_dX10_rightsKept_0.2.2.2.2.2.2.2.2.2.2.2.2.1
theorem dX10_rightsKept_22 : decode cX10_rightsKept 22 = .ok (.aload_n 0, 1) := da9_dX10_rightsKept_0.2.2.2.2.2.2.2.2.2.2.2.2.2.1
theorem dX10_rightsKept_23 : decode cX10_rightsKept 23 = .ok (.iconst 1, 1) := da9_dX10_rightsKept_0.2.2.2.2.2.2.2.2.2.2.2.2.2.2.1
theorem dX10_rightsKept_24 : decode cX10_rightsKept 24 = .ok (.invokevirtual 356, 3) := da9_dX10_rightsKept_0.2.2.2.2.2.2.2.2.2.2.2.2.2.2.2
theorem da9_dX10_rightsKept_27 : (decode cX10_rightsKept 27 = .ok (.aload_n 0, 1)) ∧ (decode cX10_rightsKept 28 = .ok (.getfield 28, 3)) ∧ (decode cX10_rightsKept 31 = .ok (.bipush 6, 2)) ∧ (decode cX10_rightsKept 33 = .ok (.iload_n 1, 1)) ∧ (decode cX10_rightsKept 34 = .ok (.iadd, 1)) ∧ (decode cX10_rightsKept 35 = .ok (.iconst 1, 1)) ∧ (decode cX10_rightsKept 36 = .ok (.aload_n 0, 1)) ∧ (decode cX10_rightsKept 37 = .ok (.getfield 28, 3)) ∧ (decode cX10_rightsKept 40 = .ok (.bipush 6, 2)) ∧ (decode cX10_rightsKept 42 = .ok (.iload_n 1, 1)) ∧ (decode cX10_rightsKept 43 = .ok (.iadd, 1)) ∧ (decode cX10_rightsKept 44 = .ok (.iaload, 1)) ∧ (decode cX10_rightsKept 45 = .ok (.isub, 1)) ∧ (decode cX10_rightsKept 46 = .ok (.iastore, 1)) ∧ (decode cX10_rightsKept 47 = .ok (.aload_n 0, 1)) ∧ (decode cX10_rightsKept 48 = .ok (.getfield 28, 3)) := by decide +kernel
theorem dX10_rightsKept_27 : decode cX10_rightsKept 27 = .ok (.aload_n 0, 1) := da9_dX10_rightsKept_27.1
theorem dX10_rightsKept_28 : decode cX10_rightsKept 28 = .ok (.getfield 28, 3) := da9_dX10_rightsKept_27.2.1
theorem dX10_rightsKept_31 : decode cX10_rightsKept 31 = .ok (.bipush 6, 2) := da9_dX10_rightsKept_27.2.2.1
theorem dX10_rightsKept_33 : decode cX10_rightsKept 33 = .ok (.iload_n 1, 1) := da9_dX10_rightsKept_27.2.2.2.1
theorem dX10_rightsKept_34 : decode cX10_rightsKept 34 = .ok (.iadd, 1) := da9_dX10_rightsKept_27.2.2.2.2.1
theorem dX10_rightsKept_35 : decode cX10_rightsKept 35 = .ok (.iconst 1, 1) := da9_dX10_rightsKept_27.2.2.2.2.2.1
theorem dX10_rightsKept_36 : decode cX10_rightsKept 36 = .ok (.aload_n 0, 1) := da9_dX10_rightsKept_27.2.2.2.2.2.2.1
theorem dX10_rightsKept_37 : decode cX10_rightsKept 37 = .ok (.getfield 28, 3) := da9_dX10_rightsKept_27.2.2.2.2.2.2.2.1
theorem dX10_rightsKept_40 : decode cX10_rightsKept 40 = .ok (.bipush 6, 2) := da9_dX10_rightsKept_27.2.2.2.2.2.2.2.2.1
theorem dX10_rightsKept_42 : decode cX10_rightsKept 42 = .ok (.iload_n 1, 1) := da9_dX10_rightsKept_27.2.2.2.2.2.2.2.2.2.1
theorem dX10_rightsKept_43 : decode cX10_rightsKept 43 = .ok (.iadd, 1) := da9_dX10_rightsKept_27.2.2.2.2.2.2.2.2.2.2.1
theorem dX10_rightsKept_44 : decode cX10_rightsKept 44 = .ok (.iaload, 1) := da9_dX10_rightsKept_27.2.2.2.2.2.2.2.2.2.2.2.1
theorem dX10_rightsKept_45 : decode cX10_rightsKept 45 = .ok (.isub, 1) := da9_dX10_rightsKept_27.2.2.2.2.2.2.2.2.2.2.2.2.1
theorem dX10_rightsKept_46 : decode cX10_rightsKept 46 = .ok (.iastore, 1) := da9_dX10_rightsKept_27.2.2.2.2.2.2.2.2.2.2.2.2.2.1
theorem dX10_rightsKept_47 : decode cX10_rightsKept 47 = .ok (.aload_n 0, 1) := da9_dX10_rightsKept_27.2.2.2.2.2.2.2.2.2.2.2.2.2.2.1
theorem dX10_rightsKept_48 : decode cX10_rightsKept 48 = .ok (.getfield 28, 3) := da9_dX10_rightsKept_27.2.2.2.2.2.2.2.2.2.2.2.2.2.2.2
theorem da9_dX10_rightsKept_51 : (decode cX10_rightsKept 51 = .ok (.bipush 6, 2)) ∧ (decode cX10_rightsKept 53 = .ok (.iload_n 1, 1)) ∧ (decode cX10_rightsKept 54 = .ok (.iadd, 1)) ∧ (decode cX10_rightsKept 55 = .ok (.iaload, 1)) ∧ (decode cX10_rightsKept 56 = .ok (.ireturn, 1)) := by decide +kernel
theorem dX10_rightsKept_51 : decode cX10_rightsKept 51 = .ok (.bipush 6, 2) := da9_dX10_rightsKept_51.1
theorem dX10_rightsKept_53 : decode cX10_rightsKept 53 = .ok (.iload_n 1, 1) := da9_dX10_rightsKept_51.2.1
theorem dX10_rightsKept_54 : decode cX10_rightsKept 54 = .ok (.iadd, 1) := da9_dX10_rightsKept_51.2.2.1
theorem dX10_rightsKept_55 : decode cX10_rightsKept 55 = .ok (.iaload, 1) := da9_dX10_rightsKept_51.2.2.2.1
theorem dX10_rightsKept_56 : decode cX10_rightsKept 56 = .ok (.ireturn, 1) := da9_dX10_rightsKept_51.2.2.2.2
set_option maxRecDepth 20000 in
theorem ggX10_swapsKept_X10_lies : GoodIn wsX10_swapsKept wsX10_lies := goodIn_r _ [5] rfl (by decide +kernel)
set_option maxRecDepth 20000 in
theorem gX10_swapsKept_X10_lies : GoodIn wsX10_swapsKept (va_wsS RX10 18 yX10_lies wsX10_lies) := goodIn_app (goodIn_of _ (by decide +kernel)) ggX10_swapsKept_X10_lies
set_option maxRecDepth 20000 in
theorem ggX10_swapsKept_X10_isPlace : GoodIn wsX10_swapsKept wsX10_isPlace := goodIn_r _ [9, 10, 11, 12, 4, 13, 1, 2, 3, 5, 24, 25, 26, 27, 28, 29, 30, 31, 32, 33, 34, 35, 36, 37, 38, 39, 40, 41, 42, 43, 44, 45, 46, 47, 48, 49, 50, 51, 52, 53, 54, 55, 56, 57, 58, 59, 60, 61, 62, 63, 64, 65, 66, 67, 68, 69, 70, 71, 72, 73, 74, 75, 76, 77, 78, 79] rfl (by decide +kernel)
set_option maxRecDepth 20000 in
theorem gX10_swapsKept_X10_isPlace : GoodIn wsX10_swapsKept (wsV RX10 143 RX10 yX10_isPlace wsX10_isPlace) := goodIn_app (goodIn_of _ (by decide +kernel)) ggX10_swapsKept_X10_isPlace
set_option maxRecDepth 20000 in
theorem ggX10_swapsKept_X10_keeps : GoodIn wsX10_swapsKept wsX10_keeps := goodIn_r _ [17, 18, 19, 1, 24, 25, 26, 27, 28, 29, 30, 31, 32, 33, 34, 35, 36, 37, 38, 39, 40, 41, 42, 43, 44, 45, 46, 47, 48, 49, 50, 51, 52, 53, 54, 55, 56, 57, 58, 59, 60, 61, 62, 63, 64, 65, 66, 67, 68, 69, 70, 71, 72, 73, 74, 75, 76, 77, 78, 79] rfl (by decide +kernel)
set_option maxRecDepth 20000 in
theorem gX10_swapsKept_X10_keeps : GoodIn wsX10_swapsKept (wsV RX10 356 RX10 yX10_keeps wsX10_keeps) := goodIn_app (goodIn_of _ (by decide +kernel)) ggX10_swapsKept_X10_keeps
set_option maxRecDepth 20000 in
theorem ggX10_swapsKept_X10_exchanges : GoodIn wsX10_swapsKept wsX10_exchanges := goodIn_r _ [23, 1, 24, 25, 26, 27, 28, 29, 30, 31, 32, 33, 34, 35, 36, 37, 38, 39, 40, 41, 42, 43, 44, 45, 46, 47, 48, 49, 50, 51, 52, 53, 54, 55, 56, 57, 58, 59, 60, 61, 62, 63, 64, 65, 66, 67, 68, 69, 70, 71, 72, 73, 74, 75, 76, 77, 78, 79] rfl (by decide +kernel)
set_option maxRecDepth 20000 in
theorem gX10_swapsKept_X10_exchanges : GoodIn wsX10_swapsKept (wsV RX10 347 RX10 yX10_exchanges wsX10_exchanges) := goodIn_app (goodIn_of _ (by decide +kernel)) ggX10_swapsKept_X10_exchanges
theorem da9_dX10_swapsKept_0 : (decode cX10_swapsKept 0 = .ok (.iload_n 1, 1)) ∧ (decode cX10_swapsKept 1 = .ok (.iconst 0, 1)) ∧ (decode cX10_swapsKept 2 = .ok (.iconst 4, 1)) ∧ (decode cX10_swapsKept 3 = .ok (.invokestatic 18, 3)) ∧ (decode cX10_swapsKept 6 = .ok (.ifCond .ne 5, 3)) ∧ (decode cX10_swapsKept 9 = .ok (.iconst (-1), 1)) ∧ (decode cX10_swapsKept 10 = .ok (.ireturn, 1)) ∧ (decode cX10_swapsKept 11 = .ok (.aload_n 0, 1)) ∧ (decode cX10_swapsKept 12 = .ok (.iload_n 1, 1)) ∧ (decode cX10_swapsKept 13 = .ok (.iconst 1, 1)) ∧ (decode cX10_swapsKept 14 = .ok (.iadd, 1)) ∧ (decode cX10_swapsKept 15 = .ok (.invokevirtual 143, 3)) ∧ (decode cX10_swapsKept 18 = .ok (.ifCond .ne 6, 3)) ∧ (decode cX10_swapsKept 21 = .ok (.bipush (-3), 2)) ∧ (decode cX10_swapsKept 23 = .ok (.ireturn, 1)) ∧ (decode cX10_swapsKept 24 = .ok (.aload_n 0, 1)) := by decide +kernel
theorem dX10_swapsKept_0 : decode cX10_swapsKept 0 = .ok (.iload_n 1, 1) := da9_dX10_swapsKept_0.1
theorem dX10_swapsKept_1 : decode cX10_swapsKept 1 = .ok (.iconst 0, 1) := da9_dX10_swapsKept_0.2.1
theorem dX10_swapsKept_2 : decode cX10_swapsKept 2 = .ok (.iconst 4, 1) := da9_dX10_swapsKept_0.2.2.1
theorem dX10_swapsKept_3 : decode cX10_swapsKept 3 = .ok (.invokestatic 18, 3) := da9_dX10_swapsKept_0.2.2.2.1
theorem dX10_swapsKept_6 : decode cX10_swapsKept 6 = .ok (.ifCond .ne 5, 3) := da9_dX10_swapsKept_0.2.2.2.2.1
theorem dX10_swapsKept_9 : decode cX10_swapsKept 9 = .ok (.iconst (-1), 1) := da9_dX10_swapsKept_0.2.2.2.2.2.1
theorem dX10_swapsKept_10 : decode cX10_swapsKept 10 = .ok (.ireturn, 1) := da9_dX10_swapsKept_0.2.2.2.2.2.2.1
theorem dX10_swapsKept_11 : decode cX10_swapsKept 11 = .ok (.aload_n 0, 1) := da9_dX10_swapsKept_0.2.2.2.2.2.2.2.1
theorem dX10_swapsKept_12 : decode cX10_swapsKept 12 = .ok (.iload_n 1, 1) := da9_dX10_swapsKept_0.2.2.2.2.2.2.2.2.1
theorem dX10_swapsKept_13 : decode cX10_swapsKept 13 = .ok (.iconst 1, 1) := da9_dX10_swapsKept_0.2.2.2.2.2.2.2.2.2.1
theorem dX10_swapsKept_14 : decode cX10_swapsKept 14 = .ok (.iadd, 1) := da9_dX10_swapsKept_0.2.2.2.2.2.2.2.2.2.2.1
theorem dX10_swapsKept_15 : decode cX10_swapsKept 15 = .ok (.invokevirtual 143, 3) := da9_dX10_swapsKept_0.2.2.2.2.2.2.2.2.2.2.2.1
theorem dX10_swapsKept_18 : decode cX10_swapsKept 18 = .ok (.ifCond .ne 6, 3) := da9_dX10_swapsKept_0.2.2.2.2.2.2.2.2.2.2.2.2.1
theorem dX10_swapsKept_21 : decode cX10_swapsKept 21 = .ok (.bipush (-3), 2) := da9_dX10_swapsKept_0.2.2.2.2.2.2.2.2.2.2.2.2.2.1
theorem dX10_swapsKept_23 : decode cX10_swapsKept 23 = .ok (.ireturn, 1) := da9_dX10_swapsKept_0.2.2.2.2.2.2.2.2.2.2.2.2.2.2.1
theorem dX10_swapsKept_24 : decode cX10_swapsKept 24 = .ok (.aload_n 0, 1) := da9_dX10_swapsKept_0.2.2.2.2.2.2.2.2.2.2.2.2.2.2.2
theorem da9_dX10_swapsKept_25 : (decode cX10_swapsKept 25 = .ok (.iconst 2, 1)) ∧ (decode cX10_swapsKept 26 = .ok (.invokevirtual 356, 3)) ∧ (decode cX10_swapsKept 29 = .ok (.aload_n 0, 1)) ∧ (decode cX10_swapsKept 30 = .ok (.iload_n 1, 1)) ∧ (decode cX10_swapsKept 31 = .ok (.iload_n 1, 1)) ∧ (decode cX10_swapsKept 32 = .ok (.iconst 1, 1)) ∧ (decode cX10_swapsKept 33 = .ok (.iadd, 1)) ∧ (decode cX10_swapsKept 34 = .ok (.invokevirtual 347, 3)) ∧ (decode cX10_swapsKept 37 = .ok (.aload_n 0, 1)) ∧ (decode cX10_swapsKept 38 = .ok (.getfield 28, 3)) ∧ (decode cX10_swapsKept 41 = .ok (.iconst 0, 1)) ∧ (decode cX10_swapsKept 42 = .ok (.iload_n 1, 1)) ∧ (decode cX10_swapsKept 43 = .ok (.iadd, 1)) ∧ (decode cX10_swapsKept 44 = .ok (.iaload, 1)) ∧ (decode cX10_swapsKept 45 = .ok (.ireturn, 1)) := by decide +kernel
theorem dX10_swapsKept_25 : decode cX10_swapsKept 25 = .ok (.iconst 2, 1) := da9_dX10_swapsKept_25.1
theorem dX10_swapsKept_26 : decode cX10_swapsKept 26 = .ok (.invokevirtual 356, 3) := da9_dX10_swapsKept_25.2.1
theorem dX10_swapsKept_29 : decode cX10_swapsKept 29 = .ok (.aload_n 0, 1) := da9_dX10_swapsKept_25.2.2.1
theorem dX10_swapsKept_30 : decode cX10_swapsKept 30 = .ok (.iload_n 1, 1) := da9_dX10_swapsKept_25.2.2.2.1
theorem dX10_swapsKept_31 : decode cX10_swapsKept 31 = .ok (.iload_n 1, 1) := da9_dX10_swapsKept_25.2.2.2.2.1
theorem dX10_swapsKept_32 : decode cX10_swapsKept 32 = .ok (.iconst 1, 1) := da9_dX10_swapsKept_25.2.2.2.2.2.1
theorem dX10_swapsKept_33 : decode cX10_swapsKept 33 = .ok (.iadd, 1) := da9_dX10_swapsKept_25.2.2.2.2.2.2.1
theorem dX10_swapsKept_34 : decode cX10_swapsKept 34 = .ok (.invokevirtual 347, 3) := da9_dX10_swapsKept_25.2.2.2.2.2.2.2.1
theorem dX10_swapsKept_37 : decode cX10_swapsKept 37 = .ok (.aload_n 0, 1) := da9_dX10_swapsKept_25.2.2.2.2.2.2.2.2.1
theorem dX10_swapsKept_38 : decode cX10_swapsKept 38 = .ok (.getfield 28, 3) := da9_dX10_swapsKept_25.2.2.2.2.2.2.2.2.2.1
theorem dX10_swapsKept_41 : decode cX10_swapsKept 41 = .ok (.iconst 0, 1) := da9_dX10_swapsKept_25.2.2.2.2.2.2.2.2.2.2.1
theorem dX10_swapsKept_42 : decode cX10_swapsKept 42 = .ok (.iload_n 1, 1) := da9_dX10_swapsKept_25.2.2.2.2.2.2.2.2.2.2.2.1
theorem dX10_swapsKept_43 : decode cX10_swapsKept 43 = .ok (.iadd, 1) := da9_dX10_swapsKept_25.2.2.2.2.2.2.2.2.2.2.2.2.1
theorem dX10_swapsKept_44 : decode cX10_swapsKept 44 = .ok (.iaload, 1) := da9_dX10_swapsKept_25.2.2.2.2.2.2.2.2.2.2.2.2.2.1
theorem dX10_swapsKept_45 : decode cX10_swapsKept 45 = .ok (.ireturn, 1) := da9_dX10_swapsKept_25.2.2.2.2.2.2.2.2.2.2.2.2.2.2
set_option maxRecDepth 20000 in
theorem ggX10_passesKept_X10_keeps : GoodIn wsX10_passesKept wsX10_keeps := goodIn_r _ [6, 7, 8, 1, 110, 111, 112, 113, 114, 115, 116, 117, 118, 119, 120, 121, 122, 123, 124, 125, 126, 127, 128, 129, 130, 131, 132, 133, 134, 135, 136, 137, 138, 139, 140, 141, 142, 143, 144, 145, 146, 147, 148, 149, 150, 151, 152, 153, 154, 155, 156, 157, 158, 159, 160, 161, 162, 163, 164, 165] rfl (by decide +kernel)
set_option maxRecDepth 20000 in
theorem gX10_passesKept_X10_keeps : GoodIn wsX10_passesKept (wsV RX10 356 RX10 yX10_keeps wsX10_keeps) := goodIn_app (goodIn_of _ (by decide +kernel)) ggX10_passesKept_X10_keeps
set_option maxRecDepth 20000 in
theorem ggX10_passesKept_X10_yearPasses : GoodIn wsX10_passesKept wsX10_yearPasses := goodIn_r _ [12, 13, 1, 14, 15, 16, 5, 17, 18, 19, 20, 21, 22, 23, 24, 25, 26, 27, 28, 29, 30, 31, 32, 33, 34, 35, 36, 37, 38, 39, 40, 41, 42, 43, 44, 45, 46, 47, 48, 49, 50, 51, 52, 53, 54, 55, 56, 57, 58, 59, 60, 61, 62, 63, 64, 65, 66, 67, 68, 69, 70, 71, 72, 73, 74, 75, 76, 77, 78, 79, 80, 81, 82, 83, 84, 85, 86, 87, 88, 89, 90, 91, 92, 93, 94, 95, 96, 97, 98, 99, 100, 101, 102, 103, 104, 105, 106, 107, 108, 109, 110, 111, 112, 113, 114, 115, 116, 117, 118, 119, 120, 121, 122, 123, 124, 125, 126, 127, 128, 129, 130, 131, 132, 133, 134, 135, 136, 137, 138, 139, 140, 141, 142, 143, 144, 145, 146, 147, 148, 149, 150, 151, 152, 153, 154, 155, 156, 157, 158, 159, 160, 161, 162, 163, 164, 165] rfl (by decide +kernel)
set_option maxRecDepth 20000 in
theorem gX10_passesKept_X10_yearPasses : GoodIn wsX10_passesKept (wsV RX10 362 RX10 yX10_yearPasses wsX10_yearPasses) := goodIn_app (goodIn_of _ (by decide +kernel)) ggX10_passesKept_X10_yearPasses
theorem da9_dX10_passesKept_0 : (decode cX10_passesKept 0 = .ok (.aload_n 0, 1)) ∧ (decode cX10_passesKept 1 = .ok (.getfield 28, 3)) ∧ (decode cX10_passesKept 4 = .ok (.bipush 13, 2)) ∧ (decode cX10_passesKept 6 = .ok (.iaload, 1)) ∧ (decode cX10_passesKept 7 = .ok (.sipush 999, 3)) ∧ (decode cX10_passesKept 10 = .ok (.if_icmp .ne 6, 3)) ∧ (decode cX10_passesKept 13 = .ok (.bipush (-3), 2)) ∧ (decode cX10_passesKept 15 = .ok (.ireturn, 1)) ∧ (decode cX10_passesKept 16 = .ok (.aload_n 0, 1)) ∧ (decode cX10_passesKept 17 = .ok (.iconst 3, 1)) ∧ (decode cX10_passesKept 18 = .ok (.invokevirtual 356, 3)) ∧ (decode cX10_passesKept 21 = .ok (.aload_n 0, 1)) ∧ (decode cX10_passesKept 22 = .ok (.invokevirtual 362, 3)) ∧ (decode cX10_passesKept 25 = .ok (.ireturn, 1)) := by decide +kernel
theorem dX10_passesKept_0 : decode cX10_passesKept 0 = .ok (.aload_n 0, 1) := da9_dX10_passesKept_0.1
theorem dX10_passesKept_1 : decode cX10_passesKept 1 = .ok (.getfield 28, 3) := da9_dX10_passesKept_0.2.1
theorem dX10_passesKept_4 : decode cX10_passesKept 4 = .ok (.bipush 13, 2) := da9_dX10_passesKept_0.2.2.1
theorem dX10_passesKept_6 : decode cX10_passesKept 6 = .ok (.iaload, 1) := da9_dX10_passesKept_0.2.2.2.1
theorem dX10_passesKept_7 : decode cX10_passesKept 7 = .ok (.sipush 999, 3) := da9_dX10_passesKept_0.2.2.2.2.1
theorem dX10_passesKept_10 : decode cX10_passesKept 10 = .ok (.if_icmp .ne 6, 3) := da9_dX10_passesKept_0.2.2.2.2.2.1
theorem dX10_passesKept_13 : decode cX10_passesKept 13 = .ok (.bipush (-3), 2) := da9_dX10_passesKept_0.2.2.2.2.2.2.1
theorem dX10_passesKept_15 : decode cX10_passesKept 15 = .ok (.ireturn, 1) := da9_dX10_passesKept_0.2.2.2.2.2.2.2.1
theorem dX10_passesKept_16 : decode cX10_passesKept 16 = .ok (.aload_n 0, 1) := da9_dX10_passesKept_0.2.2.2.2.2.2.2.2.1
theorem dX10_passesKept_17 : decode cX10_passesKept 17 = .ok (.iconst 3, 1) := da9_dX10_passesKept_0.2.2.2.2.2.2.2.2.2.1
theorem dX10_passesKept_18 : decode cX10_passesKept 18 = .ok (.invokevirtual 356, 3) := da9_dX10_passesKept_0.2.2.2.2.2.2.2.2.2.2.1
theorem dX10_passesKept_21 : decode cX10_passesKept 21 = .ok (.aload_n 0, 1) := da9_dX10_passesKept_0.2.2.2.2.2.2.2.2.2.2.2.1
theorem dX10_passesKept_22 : decode cX10_passesKept 22 = .ok (.invokevirtual 362, 3) := da9_dX10_passesKept_0.2.2.2.2.2.2.2.2.2.2.2.2.1
theorem dX10_passesKept_25 : decode cX10_passesKept 25 = .ok (.ireturn, 1) := da9_dX10_passesKept_0.2.2.2.2.2.2.2.2.2.2.2.2.2
set_option maxRecDepth 20000 in
theorem ggX10_turn_X10_turnsKept : GoodIn wsX10_turn wsX10_turnsKept := goodIn_r _ [5, 6, 7, 4, 8, 9, 10, 11, 12, 13, 14, 15, 16, 17, 18, 19, 20, 21, 22, 23, 24, 25, 26, 27, 28, 29, 30, 31, 32, 33, 34, 35, 36, 37, 38, 39, 40, 41, 42, 43, 44, 45, 46, 47, 48, 49, 50, 51, 52, 53, 54, 55, 56, 57, 58, 59, 60, 61, 62, 63, 64, 65, 66, 67, 68, 69, 70, 71, 72, 73, 74, 75, 76, 77, 78, 79, 80, 81, 82, 83, 84, 85, 86, 87, 88, 89, 90, 91, 92, 93, 94, 95, 96, 97, 98, 99, 100, 101, 102, 103, 104, 105, 106, 107, 108, 109, 110, 111, 112, 113, 114, 115, 116, 117, 118, 119, 120, 121, 122, 123, 124, 125, 126, 127, 142, 143, 144, 145, 146, 147, 148, 149, 150, 151, 152, 153, 154, 155, 156, 157, 158, 159, 160, 161, 162, 163, 164, 165, 166, 167, 168, 169, 170, 171, 172, 173, 174, 175, 176, 177, 178, 179, 180, 181, 182, 183, 184, 185, 186, 187, 188, 189, 190, 191, 192, 193, 194, 195, 196, 197] rfl (by decide +kernel)
set_option maxRecDepth 20000 in
theorem gX10_turn_X10_turnsKept : GoodIn wsX10_turn (wsV RX10 365 RX10 yX10_turnsKept wsX10_turnsKept) := goodIn_app (goodIn_of _ (by decide +kernel)) ggX10_turn_X10_turnsKept
set_option maxRecDepth 20000 in
theorem ggX10_turn_X10_goodOr : GoodIn wsX10_turn wsX10_goodOr := goodIn_r _ [131, 132, 133, 134, 4, 135, 136, 137, 138, 139, 140, 141, 142, 143, 144, 145, 146, 147, 148, 149, 150, 151, 152, 153, 154, 155, 156, 157, 158, 159, 160, 161, 162, 163, 164, 165, 166, 167, 168, 169, 170, 171, 172, 173, 174, 175, 176, 177, 178, 179, 180, 181, 182, 183, 184, 185, 186, 187, 188, 189, 190, 191, 192, 193, 194, 195, 196, 197] rfl (by decide +kernel)
set_option maxRecDepth 20000 in
theorem gX10_turn_X10_goodOr : GoodIn wsX10_turn (wsV RX10 368 RX10 yX10_goodOr wsX10_goodOr) := goodIn_app (goodIn_of _ (by decide +kernel)) ggX10_turn_X10_goodOr
theorem da9_dX10_turn_0 : (decode cX10_turn 0 = .ok (.aload_n 0, 1)) ∧ (decode cX10_turn 1 = .ok (.aload_n 0, 1)) ∧ (decode cX10_turn 2 = .ok (.iload_n 1, 1)) ∧ (decode cX10_turn 3 = .ok (.invokevirtual 365, 3)) ∧ (decode cX10_turn 6 = .ok (.invokevirtual 368, 3)) ∧ (decode cX10_turn 9 = .ok (.ireturn, 1)) := by decide +kernel
theorem dX10_turn_0 : decode cX10_turn 0 = .ok (.aload_n 0, 1) := da9_dX10_turn_0.1
theorem dX10_turn_1 : decode cX10_turn 1 = .ok (.aload_n 0, 1) := da9_dX10_turn_0.2.1
theorem dX10_turn_2 : decode cX10_turn 2 = .ok (.iload_n 1, 1) := da9_dX10_turn_0.2.2.1
theorem dX10_turn_3 : decode cX10_turn 3 = .ok (.invokevirtual 365, 3) := da9_dX10_turn_0.2.2.2.1
theorem dX10_turn_6 : decode cX10_turn 6 = .ok (.invokevirtual 368, 3) := da9_dX10_turn_0.2.2.2.2.1
theorem dX10_turn_9 : decode cX10_turn 9 = .ok (.ireturn, 1) := da9_dX10_turn_0.2.2.2.2.2
set_option maxRecDepth 20000 in
theorem ggX10_right_X10_rightsKept : GoodIn wsX10_right wsX10_rightsKept := goodIn_r _ [5, 6, 7, 8, 4, 9, 10, 11, 12, 13, 14, 15, 16, 17, 18, 19, 20, 21, 22, 23, 38, 39, 40, 41, 42, 43, 44, 45, 46, 47, 48, 49, 50, 51, 52, 53, 54, 55, 56, 57, 58, 59, 60, 61, 62, 63, 64, 65, 66, 67, 68, 69, 70, 71, 72, 73, 74, 75, 76, 77, 78, 79, 80, 81, 82, 83, 84, 85, 86, 87, 88, 89, 90, 91, 92, 93] rfl (by decide +kernel)
set_option maxRecDepth 20000 in
theorem gX10_right_X10_rightsKept : GoodIn wsX10_right (wsV RX10 371 RX10 yX10_rightsKept wsX10_rightsKept) := goodIn_app (goodIn_of _ (by decide +kernel)) ggX10_right_X10_rightsKept
set_option maxRecDepth 20000 in
theorem ggX10_right_X10_goodOr : GoodIn wsX10_right wsX10_goodOr := goodIn_r _ [27, 28, 29, 30, 4, 31, 32, 33, 34, 35, 36, 37, 38, 39, 40, 41, 42, 43, 44, 45, 46, 47, 48, 49, 50, 51, 52, 53, 54, 55, 56, 57, 58, 59, 60, 61, 62, 63, 64, 65, 66, 67, 68, 69, 70, 71, 72, 73, 74, 75, 76, 77, 78, 79, 80, 81, 82, 83, 84, 85, 86, 87, 88, 89, 90, 91, 92, 93] rfl (by decide +kernel)
set_option maxRecDepth 20000 in
theorem gX10_right_X10_goodOr : GoodIn wsX10_right (wsV RX10 368 RX10 yX10_goodOr wsX10_goodOr) := goodIn_app (goodIn_of _ (by decide +kernel)) ggX10_right_X10_goodOr
theorem da9_dX10_right_0 : (decode cX10_right 0 = .ok (.aload_n 0, 1)) ∧ (decode cX10_right 1 = .ok (.aload_n 0, 1)) ∧ (decode cX10_right 2 = .ok (.iload_n 1, 1)) ∧ (decode cX10_right 3 = .ok (.invokevirtual 371, 3)) ∧ (decode cX10_right 6 = .ok (.invokevirtual 368, 3)) ∧ (decode cX10_right 9 = .ok (.ireturn, 1)) := by decide +kernel
theorem dX10_right_0 : decode cX10_right 0 = .ok (.aload_n 0, 1) := da9_dX10_right_0.1
theorem dX10_right_1 : decode cX10_right 1 = .ok (.aload_n 0, 1) := da9_dX10_right_0.2.1
theorem dX10_right_2 : decode cX10_right 2 = .ok (.iload_n 1, 1) := da9_dX10_right_0.2.2.1
theorem dX10_right_3 : decode cX10_right 3 = .ok (.invokevirtual 371, 3) := da9_dX10_right_0.2.2.2.1
theorem dX10_right_6 : decode cX10_right 6 = .ok (.invokevirtual 368, 3) := da9_dX10_right_0.2.2.2.2.1
theorem dX10_right_9 : decode cX10_right 9 = .ok (.ireturn, 1) := da9_dX10_right_0.2.2.2.2.2
set_option maxRecDepth 20000 in
theorem ggX10_swap_X10_swapsKept : GoodIn wsX10_swap wsX10_swapsKept := goodIn_r _ [5, 6, 7, 8, 4, 9, 10, 11, 12, 13, 14, 15, 16, 17, 18, 19, 20, 21, 22, 23, 24, 25, 26, 27, 42, 43, 44, 45, 46, 47, 48, 49, 50, 51, 52, 53, 54, 55, 56, 57, 58, 59, 60, 61, 62, 63, 64, 65, 66, 67, 68, 69, 70, 71, 72, 73, 74, 75, 76, 77, 78, 79, 80, 81, 82, 83, 84, 85, 86, 87, 88, 89, 90, 91, 92, 93, 94, 95, 96, 97] rfl (by decide +kernel)
set_option maxRecDepth 20000 in
theorem gX10_swap_X10_swapsKept : GoodIn wsX10_swap (wsV RX10 374 RX10 yX10_swapsKept wsX10_swapsKept) := goodIn_app (goodIn_of _ (by decide +kernel)) ggX10_swap_X10_swapsKept
set_option maxRecDepth 20000 in
theorem ggX10_swap_X10_goodOr : GoodIn wsX10_swap wsX10_goodOr := goodIn_r _ [31, 32, 33, 34, 4, 35, 36, 37, 38, 39, 40, 41, 42, 43, 44, 45, 46, 47, 48, 49, 50, 51, 52, 53, 54, 55, 56, 57, 58, 59, 60, 61, 62, 63, 64, 65, 66, 67, 68, 69, 70, 71, 72, 73, 74, 75, 76, 77, 78, 79, 80, 81, 82, 83, 84, 85, 86, 87, 88, 89, 90, 91, 92, 93, 94, 95, 96, 97] rfl (by decide +kernel)
set_option maxRecDepth 20000 in
theorem gX10_swap_X10_goodOr : GoodIn wsX10_swap (wsV RX10 368 RX10 yX10_goodOr wsX10_goodOr) := goodIn_app (goodIn_of _ (by decide +kernel)) ggX10_swap_X10_goodOr
theorem da9_dX10_swap_0 : (decode cX10_swap 0 = .ok (.aload_n 0, 1)) ∧ (decode cX10_swap 1 = .ok (.aload_n 0, 1)) ∧ (decode cX10_swap 2 = .ok (.iload_n 1, 1)) ∧ (decode cX10_swap 3 = .ok (.invokevirtual 374, 3)) ∧ (decode cX10_swap 6 = .ok (.invokevirtual 368, 3)) ∧ (decode cX10_swap 9 = .ok (.ireturn, 1)) := by decide +kernel
theorem dX10_swap_0 : decode cX10_swap 0 = .ok (.aload_n 0, 1) := da9_dX10_swap_0.1
theorem dX10_swap_1 : decode cX10_swap 1 = .ok (.aload_n 0, 1) := da9_dX10_swap_0.2.1
theorem dX10_swap_2 : decode cX10_swap 2 = .ok (.iload_n 1, 1) := da9_dX10_swap_0.2.2.1
theorem dX10_swap_3 : decode cX10_swap 3 = .ok (.invokevirtual 374, 3) := da9_dX10_swap_0.2.2.2.1
theorem dX10_swap_6 : decode cX10_swap 6 = .ok (.invokevirtual 368, 3) := da9_dX10_swap_0.2.2.2.2.1
theorem dX10_swap_9 : decode cX10_swap 9 = .ok (.ireturn, 1) := da9_dX10_swap_0.2.2.2.2.2
set_option maxRecDepth 20000 in
theorem ggX10_pass_X10_passesKept : GoodIn wsX10_pass wsX10_passesKept := goodIn_r _ [5, 6, 7, 8, 9, 4, 10, 11, 12, 13, 14, 15, 16, 17, 18, 19, 20, 21, 22, 23, 24, 25, 26, 27, 28, 29, 30, 31, 32, 33, 34, 35, 36, 37, 38, 39, 40, 41, 42, 43, 44, 45, 46, 47, 48, 49, 50, 51, 52, 53, 54, 55, 56, 57, 58, 59, 60, 61, 62, 63, 64, 65, 66, 67, 68, 69, 70, 71, 72, 73, 74, 75, 76, 77, 78, 79, 80, 81, 82, 83, 84, 85, 86, 87, 88, 89, 90, 91, 92, 93, 94, 95, 96, 97, 98, 99, 100, 101, 102, 103, 104, 105, 106, 107, 108, 109, 110, 111, 112, 113, 128, 129, 130, 131, 132, 133, 134, 135, 136, 137, 138, 139, 140, 141, 142, 143, 144, 145, 146, 147, 148, 149, 150, 151, 152, 153, 154, 155, 156, 157, 158, 159, 160, 161, 162, 163, 164, 165, 166, 167, 168, 169, 170, 171, 172, 173, 174, 175, 176, 177, 178, 179, 180, 181, 182, 183] rfl (by decide +kernel)
set_option maxRecDepth 20000 in
theorem gX10_pass_X10_passesKept : GoodIn wsX10_pass (wsV RX10 377 RX10 yX10_passesKept wsX10_passesKept) := goodIn_app (goodIn_of _ (by decide +kernel)) ggX10_pass_X10_passesKept
set_option maxRecDepth 20000 in
theorem ggX10_pass_X10_goodOr : GoodIn wsX10_pass wsX10_goodOr := goodIn_r _ [117, 118, 119, 120, 4, 121, 122, 123, 124, 125, 126, 127, 128, 129, 130, 131, 132, 133, 134, 135, 136, 137, 138, 139, 140, 141, 142, 143, 144, 145, 146, 147, 148, 149, 150, 151, 152, 153, 154, 155, 156, 157, 158, 159, 160, 161, 162, 163, 164, 165, 166, 167, 168, 169, 170, 171, 172, 173, 174, 175, 176, 177, 178, 179, 180, 181, 182, 183] rfl (by decide +kernel)
set_option maxRecDepth 20000 in
theorem gX10_pass_X10_goodOr : GoodIn wsX10_pass (wsV RX10 368 RX10 yX10_goodOr wsX10_goodOr) := goodIn_app (goodIn_of _ (by decide +kernel)) ggX10_pass_X10_goodOr
theorem da9_dX10_pass_0 : (decode cX10_pass 0 = .ok (.aload_n 0, 1)) ∧ (decode cX10_pass 1 = .ok (.aload_n 0, 1)) ∧ (decode cX10_pass 2 = .ok (.invokevirtual 377, 3)) ∧ (decode cX10_pass 5 = .ok (.invokevirtual 368, 3)) ∧ (decode cX10_pass 8 = .ok (.ireturn, 1)) := by decide +kernel
theorem dX10_pass_0 : decode cX10_pass 0 = .ok (.aload_n 0, 1) := da9_dX10_pass_0.1
theorem dX10_pass_1 : decode cX10_pass 1 = .ok (.aload_n 0, 1) := da9_dX10_pass_0.2.1
theorem dX10_pass_2 : decode cX10_pass 2 = .ok (.invokevirtual 377, 3) := da9_dX10_pass_0.2.2.1
theorem dX10_pass_5 : decode cX10_pass 5 = .ok (.invokevirtual 368, 3) := da9_dX10_pass_0.2.2.2.1
theorem dX10_pass_8 : decode cX10_pass 8 = .ok (.ireturn, 1) := da9_dX10_pass_0.2.2.2.2
theorem da9_dX10_allOrders_0 : (decode cX10_allOrders 0 = .ok (.iconst 1, 1)) ∧ (decode cX10_allOrders 1 = .ok (.istore_n 1, 1)) ∧ (decode cX10_allOrders 2 = .ok (.iconst 2, 1)) ∧ (decode cX10_allOrders 3 = .ok (.istore_n 2, 1)) ∧ (decode cX10_allOrders 4 = .ok (.iload_n 2, 1)) ∧ (decode cX10_allOrders 5 = .ok (.iload_n 0, 1)) ∧ (decode cX10_allOrders 6 = .ok (.if_icmp .gt 13, 3)) ∧ (decode cX10_allOrders 9 = .ok (.iload_n 1, 1)) ∧ (decode cX10_allOrders 10 = .ok (.iload_n 2, 1)) ∧ (decode cX10_allOrders 11 = .ok (.imul, 1)) ∧ (decode cX10_allOrders 12 = .ok (.istore_n 1, 1)) ∧ (decode cX10_allOrders 13 = .ok (.iinc 2 1, 3)) ∧ (decode cX10_allOrders 16 = .ok (.goto (-12), 3)) ∧ (decode cX10_allOrders 19 = .ok (.iload_n 1, 1)) ∧ (decode cX10_allOrders 20 = .ok (.ireturn, 1)) := by decide +kernel
theorem dX10_allOrders_0 : decode cX10_allOrders 0 = .ok (.iconst 1, 1) := da9_dX10_allOrders_0.1
theorem dX10_allOrders_1 : decode cX10_allOrders 1 = .ok (.istore_n 1, 1) := da9_dX10_allOrders_0.2.1
theorem dX10_allOrders_2 : decode cX10_allOrders 2 = .ok (.iconst 2, 1) := da9_dX10_allOrders_0.2.2.1
theorem dX10_allOrders_3 : decode cX10_allOrders 3 = .ok (.istore_n 2, 1) := da9_dX10_allOrders_0.2.2.2.1
theorem dX10_allOrders_4 : decode cX10_allOrders 4 = .ok (.iload_n 2, 1) := da9_dX10_allOrders_0.2.2.2.2.1
theorem dX10_allOrders_5 : decode cX10_allOrders 5 = .ok (.iload_n 0, 1) := da9_dX10_allOrders_0.2.2.2.2.2.1
theorem dX10_allOrders_6 : decode cX10_allOrders 6 = .ok (.if_icmp .gt 13, 3) := da9_dX10_allOrders_0.2.2.2.2.2.2.1
theorem dX10_allOrders_9 : decode cX10_allOrders 9 = .ok (.iload_n 1, 1) := da9_dX10_allOrders_0.2.2.2.2.2.2.2.1
theorem dX10_allOrders_10 : decode cX10_allOrders 10 = .ok (.iload_n 2, 1) := da9_dX10_allOrders_0.2.2.2.2.2.2.2.2.1
theorem dX10_allOrders_11 : decode cX10_allOrders 11 = .ok (.imul, 1) := da9_dX10_allOrders_0.2.2.2.2.2.2.2.2.2.1
theorem dX10_allOrders_12 : decode cX10_allOrders 12 = .ok (.istore_n 1, 1) := da9_dX10_allOrders_0.2.2.2.2.2.2.2.2.2.2.1
theorem dX10_allOrders_13 : decode cX10_allOrders 13 = .ok (.iinc 2 1, 3) := da9_dX10_allOrders_0.2.2.2.2.2.2.2.2.2.2.2.1
theorem dX10_allOrders_16 : decode cX10_allOrders 16 = .ok (.goto (-12), 3) := da9_dX10_allOrders_0.2.2.2.2.2.2.2.2.2.2.2.2.1
theorem dX10_allOrders_19 : decode cX10_allOrders 19 = .ok (.iload_n 1, 1) := da9_dX10_allOrders_0.2.2.2.2.2.2.2.2.2.2.2.2.2.1
theorem dX10_allOrders_20 : decode cX10_allOrders 20 = .ok (.ireturn, 1) := da9_dX10_allOrders_0.2.2.2.2.2.2.2.2.2.2.2.2.2.2
