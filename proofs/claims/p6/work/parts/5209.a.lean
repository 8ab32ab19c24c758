set_option maxRecDepth 20000 in
theorem ggX4_read_X7_clear : GoodIn wsX4_read wsX7_clear := goodIn_r _ [18, 19, 20, 189, 190, 191, 192, 193, 194, 195, 196] rfl (by decide +kernel)
set_option maxRecDepth 20000 in
theorem gX4_read_X7_clear : GoodIn wsX4_read (wsV RX4 54 RX7 yX7_clear wsX7_clear) := goodIn_app (goodIn_of _ (by decide +kernel)) ggX4_read_X7_clear
set_option maxRecDepth 20000 in
theorem ggX4_read_X4_step : GoodIn wsX4_read wsX4_step := goodIn_r _ [25, 12, 9, 26, 6, 1, 27, 13, 2, 3, 4, 5, 28, 29, 24, 30, 178, 179, 180, 181, 182, 183, 184, 185, 186, 187, 188] rfl (by decide +kernel)
set_option maxRecDepth 20000 in
theorem gX4_read_X4_step : GoodIn wsX4_read (wsV RX4 59 RX4 yX4_step wsX4_step) := goodIn_app (goodIn_of _ (by decide +kernel)) ggX4_read_X4_step
set_option maxRecDepth 20000 in
theorem ggX4_read_X4_fail : GoodIn wsX4_read wsX4_fail := goodIn_r _ [34, 12, 26, 178, 179, 180, 181, 182, 183, 184, 185, 186, 187, 188] rfl (by decide +kernel)
set_option maxRecDepth 20000 in
theorem gX4_read_X4_fail : GoodIn wsX4_read (wsV RX4 62 RX4 yX4_fail wsX4_fail) := goodIn_app (goodIn_of _ (by decide +kernel)) ggX4_read_X4_fail
set_option maxRecDepth 20000 in
theorem ggX4_read_X4_readClause : GoodIn wsX4_read wsX4_readClause := goodIn_r _ [38, 7, 8, 12, 39, 40, 41, 24, 42, 13, 43, 44, 45, 46, 47, 48, 49, 50, 51, 52, 53, 54, 55, 56, 57, 58, 59, 60, 61, 62, 63, 64, 65, 66, 67, 68, 69, 70, 71, 72, 73, 74, 75, 76, 77, 78, 79, 80, 81, 82, 83, 84, 85, 86, 87, 88, 89, 90, 91, 92, 93, 94, 95, 9, 26, 1, 31, 32, 33, 34, 96, 97, 98, 17, 99, 19, 100, 101, 102, 20, 103, 104, 21, 22, 23, 25, 6, 27, 2, 3, 4, 5, 28, 29, 30, 105, 106, 107, 108, 109, 110, 111, 112, 113, 114, 115, 116, 117, 118, 119, 120, 121, 122, 123, 124, 125, 11, 10, 126, 127, 128, 129, 130, 131, 132, 133, 134, 135, 136, 137, 138, 139, 140, 141, 142, 143, 144, 145, 146, 147, 148, 149, 150, 151, 152, 153, 154, 155, 156, 157, 158, 159, 160, 161, 162, 163, 164, 165, 166, 167, 168, 169, 170, 171, 172, 173, 174, 175, 176, 177, 178, 179, 180, 181, 182, 183, 184, 185, 186, 187, 188, 189, 190, 191, 192, 193, 194, 195, 196] rfl (by decide +kernel)
set_option maxRecDepth 20000 in
theorem gX4_read_X4_readClause : GoodIn wsX4_read (wsV RX4 65 RX4 yX4_readClause wsX4_readClause) := goodIn_app (goodIn_of _ (by decide +kernel)) ggX4_read_X4_readClause
set_option maxRecDepth 20000 in
theorem ggX4_read_X4_expectSign : GoodIn wsX4_read wsX4_expectSign := goodIn_r _ [133, 116, 117, 118, 24, 119, 13, 26, 6, 1, 21, 22, 23, 25, 12, 9, 27, 2, 3, 4, 5, 28, 29, 30, 31, 32, 33, 34, 178, 179, 180, 181, 182, 183, 184, 185, 186, 187, 188] rfl (by decide +kernel)
set_option maxRecDepth 20000 in
theorem gX4_read_X4_expectSign : GoodIn wsX4_read (wsV RX4 68 RX4 yX4_expectSign wsX4_expectSign) := goodIn_app (goodIn_of _ (by decide +kernel)) ggX4_read_X4_expectSign
theorem da9_dX4_read_0 : (decode cX4_read 0 = .ok (.aload_n 0, 1)) ∧ (decode cX4_read 1 = .ok (.aload_n 1, 1)) ∧ (decode cX4_read 2 = .ok (.putfield 9, 3)) ∧ (decode cX4_read 5 = .ok (.aload_n 0, 1)) ∧ (decode cX4_read 6 = .ok (.iload_n 2, 1)) ∧ (decode cX4_read 7 = .ok (.aload_n 1, 1)) ∧ (decode cX4_read 8 = .ok (.arraylength, 1)) ∧ (decode cX4_read 9 = .ok (.invokestatic 48, 3)) ∧ (decode cX4_read 12 = .ok (.putfield 15, 3)) ∧ (decode cX4_read 15 = .ok (.aload_n 0, 1)) ∧ (decode cX4_read 16 = .ok (.iload_n 3, 1)) ∧ (decode cX4_read 17 = .ok (.putfield 19, 3)) ∧ (decode cX4_read 20 = .ok (.aload_n 0, 1)) ∧ (decode cX4_read 21 = .ok (.aload 4, 2)) ∧ (decode cX4_read 23 = .ok (.putfield 23, 3)) ∧ (decode cX4_read 26 = .ok (.aload_n 0, 1)) := by decide +kernel
theorem dX4_read_0 : decode cX4_read 0 = .ok (.aload_n 0, 1) := da9_dX4_read_0.1
theorem dX4_read_1 : decode cX4_read 1 = .ok (.aload_n 1, 1) := da9_dX4_read_0.2.1
theorem dX4_read_2 : decode cX4_read 2 = .ok (.putfield 9, 3) := da9_dX4_read_0.2.2.1
theorem dX4_read_5 : decode cX4_read 5 = .ok (.aload_n 0, 1) := da9_dX4_read_0.2.2.2.1
theorem dX4_read_6 : decode cX4_read 6 = .ok (.iload_n 2, 1) := da9_dX4_read_0.2.2.2.2.1
theorem dX4_read_7 : decode cX4_read 7 = .ok (.aload_n 1, 1) := da9_dX4_read_0.2.2.2.2.2.1
theorem dX4_read_8 : decode cX4_read 8 = .ok (.arraylength, 1) := da9_dX4_read_0.2.2.2.2.2.2.1
theorem dX4_read_9 : decode cX4_read 9 = .ok (.invokestatic 48, 3) := da9_dX4_read_0.2.2.2.2.2.2.2.1
theorem dX4_read_12 : decode cX4_read 12 = .ok (.putfield 15, 3) := da9_dX4_read_0.2.2.2.2.2.2.2.2.1
theorem dX4_read_15 : decode cX4_read 15 = .ok (.aload_n 0, 1) := da9_dX4_read_0.2.2.2.2.2.2.2.2.2.1
theorem dX4_read_16 : decode cX4_read 16 = .ok (.iload_n 3, 1) := da9_dX4_read_0.2.2.2.2.2.2.2.2.2.2.1
theorem dX4_read_17 : decode cX4_read 17 = .ok (.putfield 19, 3) := da9_dX4_read_0.2.2.2.2.2.2.2.2.2.2.2.1
theorem dX4_read_20 : decode cX4_read 20 = .ok (.aload_n 0, 1) := da9_dX4_read_0.2.2.2.2.2.2.2.2.2.2.2.2.1
theorem dX4_read_21 : decode cX4_read 21 = .ok (.aload 4, 2) := da9_dX4_read_0.2.2.2.2.2.2.2.2.2.2.2.2.2.1
theorem dX4_read_23 : decode cX4_read 23 = .ok (.putfield 23, 3) := da9_dX4_read_0.2.2.2.2.2.2.2.2.2.2.2.2.2.2.1
theorem dX4_read_26 : decode cX4_read 26 = .ok (.aload_n 0, 1) := da9_dX4_read_0.2.2.2.2.2.2.2.2.2.2.2.2.2.2.2
theorem da9_dX4_read_27 : (decode cX4_read 27 = .ok (.getfield 23, 3)) ∧ (decode cX4_read 30 = .ok (.invokevirtual 54, 3)) ∧ (decode cX4_read 33 = .ok (.aload_n 0, 1)) ∧ (decode cX4_read 34 = .ok (.iconst 0, 1)) ∧ (decode cX4_read 35 = .ok (.putfield 33, 3)) ∧ (decode cX4_read 38 = .ok (.aload_n 0, 1)) ∧ (decode cX4_read 39 = .ok (.iconst 0, 1)) ∧ (decode cX4_read 40 = .ok (.putfield 39, 3)) ∧ (decode cX4_read 43 = .ok (.aload_n 0, 1)) ∧ (decode cX4_read 44 = .ok (.iconst 0, 1)) ∧ (decode cX4_read 45 = .ok (.putfield 42, 3)) ∧ (decode cX4_read 48 = .ok (.aload_n 0, 1)) ∧ (decode cX4_read 49 = .ok (.iconst (-1), 1)) ∧ (decode cX4_read 50 = .ok (.putfield 45, 3)) ∧ (decode cX4_read 53 = .ok (.aload_n 0, 1)) ∧ (decode cX4_read 54 = .ok (.invokevirtual 59, 3)) := by decide +kernel
theorem dX4_read_27 : decode cX4_read 27 = .ok (.getfield 23, 3) := da9_dX4_read_27.1
theorem dX4_read_30 : decode cX4_read 30 = .ok (.invokevirtual 54, 3) := da9_dX4_read_27.2.1
theorem dX4_read_33 : decode cX4_read 33 = .ok (.aload_n 0, 1) := da9_dX4_read_27.2.2.1
theorem dX4_read_34 : decode cX4_read 34 = .ok (.iconst 0, 1) := da9_dX4_read_27.2.2.2.1
theorem dX4_read_35 : decode cX4_read 35 = .ok (.putfield 33, 3) := da9_dX4_read_27.2.2.2.2.1
theorem dX4_read_38 : decode cX4_read 38 = .ok (.aload_n 0, 1) := da9_dX4_read_27.2.2.2.2.2.1
theorem dX4_read_39 : decode cX4_read 39 = .ok (.iconst 0, 1) := da9_dX4_read_27.2.2.2.2.2.2.1
theorem dX4_read_40 : decode cX4_read 40 = .ok (.putfield 39, 3) := da9_dX4_read_27.2.2.2.2.2.2.2.1
theorem dX4_read_43 : decode cX4_read 43 = .ok (.aload_n 0, 1) := da9_dX4_read_27.2.2.2.2.2.2.2.2.1
theorem dX4_read_44 : decode cX4_read 44 = .ok (.iconst 0, 1) := da9_dX4_read_27.2.2.2.2.2.2.2.2.2.1
theorem dX4_read_45 : decode cX4_read 45 = .ok (.putfield 42, 3) := da9_dX4_read_27.2.2.2.2.2.2.2.2.2.2.1
theorem dX4_read_48 : decode cX4_read 48 = .ok (.aload_n 0, 1) := da9_dX4_read_27.2.2.2.2.2.2.2.2.2.2.2.1
theorem dX4_read_49 : decode cX4_read 49 = .ok (.iconst (-1), 1) := da9_dX4_read_27.2.2.2.2.2.2.2.2.2.2.2.2.1
theorem dX4_read_50 : decode cX4_read 50 = .ok (.putfield 45, 3) := da9_dX4_read_27.2.2.2.2.2.2.2.2.2.2.2.2.2.1
theorem dX4_read_53 : decode cX4_read 53 = .ok (.aload_n 0, 1) := da9_dX4_read_27.2.2.2.2.2.2.2.2.2.2.2.2.2.2.1
theorem dX4_read_54 : decode cX4_read 54 = .ok (.invokevirtual 59, 3) := da9_dX4_read_27.2.2.2.2.2.2.2.2.2.2.2.2.2.2.2
theorem da9_dX4_read_57 : (decode cX4_read 57 = .ok (.iconst 0, 1)) ∧ (decode cX4_read 58 = .ok (.istore 5, 2)) ∧ (decode cX4_read 60 = .ok (.iload 5, 2)) ∧ (decode cX4_read 62 = .ok (.bipush 12, 2)) ∧ (decode cX4_read 64 = .ok (.if_icmp .gt 58, 3)) ∧ (decode cX4_read 67 = .ok (.aload_n 0, 1)) ∧ (decode cX4_read 68 = .ok (.getfield 45, 3)) ∧ (decode cX4_read 71 = .ok (.iconst (-1), 1)) ∧ (decode cX4_read 72 = .ok (.if_icmp .ne 50, 3)) ∧ (decode cX4_read 75 = .ok (.iload 5, 2)) ∧ (decode cX4_read 77 = .ok (.bipush 12, 2)) ∧ (decode cX4_read 79 = .ok (.if_icmp .ne 10, 3)) ∧ (decode cX4_read 82 = .ok (.aload_n 0, 1)) ∧ (decode cX4_read 83 = .ok (.invokevirtual 62, 3)) ∧ (decode cX4_read 86 = .ok (.goto 7, 3)) ∧ (decode cX4_read 89 = .ok (.aload_n 0, 1)) := by decide +kernel
theorem dX4_read_57 : decode cX4_read 57 = .ok (.iconst 0, 1) := da9_dX4_read_57.1
theorem dX4_read_58 : decode cX4_read 58 = .ok (.istore 5, 2) := da9_dX4_read_57.2.1
theorem dX4_read_60 : decode cX4_read 60 = .ok (.iload 5, 2) := da9_dX4_read_57.2.2.1
theorem dX4_read_62 : decode cX4_read 62 = .ok (.bipush 12, 2) := da9_dX4_read_57.2.2.2.1
theorem dX4_read_64 : decode cX4_read 64 = .ok (.if_icmp .gt 58, 3) := da9_dX4_read_57.2.2.2.2.1
theorem dX4_read_67 : decode cX4_read 67 = .ok (.aload_n 0, 1) := da9_dX4_read_57.2.2.2.2.2.1
theorem dX4_read_68 : decode cX4_read 68 = .ok (.getfield 45, 3) := da9_dX4_read_57.2.2.2.2.2.2.1
theorem dX4_read_71 : decode cX4_read 71 = .ok (.iconst (-1), 1) := da9_dX4_read_57.2.2.2.2.2.2.2.1
theorem dX4_read_72 : decode cX4_read 72 = .ok (.if_icmp .ne 50, 3) := da9_dX4_read_57.2.2.2.2.2.2.2.2.1
theorem dX4_read_75 : decode cX4_read 75 = .ok (.iload 5, 2) := da9_dX4_read_57.2.2.2.2.2.2.2.2.2.1
theorem dX4_read_77 : decode cX4_read 77 = .ok (.bipush 12, 2) := da9_dX4_read_57.2.2.2.2.2.2.2.2.2.2.1
theorem dX4_read_79 : decode cX4_read 79 = .ok (.if_icmp .ne 10, 3) := da9_dX4_read_57.2.2.2.2.2.2.2.2.2.2.2.1
theorem dX4_read_82 : decode cX4_read 82 = .ok (.aload_n 0, 1) := da9_dX4_read_57.2.2.2.2.2.2.2.2.2.2.2.2.1
theorem dX4_read_83 : decode cX4_read 83 = .ok (.invokevirtual 62, 3) := da9_dX4_read_57.2.2.2.2.2.2.2.2.2.2.2.2.2.1
theorem dX4_read_86 : decode cX4_read 86 = .ok (.goto 7, 3) := da9_dX4_read_57.2.2.2.2.2.2.2.2.2.2.2.2.2.2.1
theorem dX4_read_89 : decode cX4_read 89 = .ok (.aload_n 0, 1) := da9_dX4_read_57.2.2.2.2.2.2.2.2.2.2.2.2.2.2.2
theorem da9_dX4_read_90 : (decode cX4_read 90 = .ok (.invokevirtual 65, 3)) ∧ (decode cX4_read 93 = .ok (.aload_n 0, 1)) ∧ (decode cX4_read 94 = .ok (.getfield 45, 3)) ∧ (decode cX4_read 97 = .ok (.iconst (-1), 1)) ∧ (decode cX4_read 98 = .ok (.if_icmp .ne 12, 3)) ∧ (decode cX4_read 101 = .ok (.aload_n 0, 1)) ∧ (decode cX4_read 102 = .ok (.getfield 27, 3)) ∧ (decode cX4_read 105 = .ok (.ifCond .ne 5, 3)) ∧ (decode cX4_read 108 = .ok (.iconst (-1), 1)) ∧ (decode cX4_read 109 = .ok (.ireturn, 1)) ∧ (decode cX4_read 110 = .ok (.aload_n 0, 1)) ∧ (decode cX4_read 111 = .ok (.bipush 59, 2)) ∧ (decode cX4_read 113 = .ok (.invokevirtual 68, 3)) ∧ (decode cX4_read 116 = .ok (.iinc 5 1, 3)) ∧ (decode cX4_read 119 = .ok (.goto (-59), 3)) ∧ (decode cX4_read 122 = .ok (.aload_n 0, 1)) := by decide +kernel
theorem dX4_read_90 : decode cX4_read 90 = .ok (.invokevirtual 65, 3) := da9_dX4_read_90.1
theorem dX4_read_93 : decode cX4_read 93 = .ok (.aload_n 0, 1) := da9_dX4_read_90.2.1
theorem dX4_read_94 : decode cX4_read 94 = .ok (.getfield 45, 3) := da9_dX4_read_90.2.2.1
theorem dX4_read_97 : decode cX4_read 97 = .ok (.iconst (-1), 1) := da9_dX4_read_90.2.2.2.1
theorem dX4_read_98 : decode cX4_read 98 = .ok (.if_icmp .ne 12, 3) := da9_dX4_read_90.2.2.2.2.1
theorem dX4_read_101 : decode cX4_read 101 = .ok (.aload_n 0, 1) := da9_dX4_read_90.2.2.2.2.2.1
theorem dX4_read_102 : decode cX4_read 102 = .ok (.getfield 27, 3) := da9_dX4_read_90.2.2.2.2.2.2.1
theorem dX4_read_105 : decode cX4_read 105 = .ok (.ifCond .ne 5, 3) := da9_dX4_read_90.2.2.2.2.2.2.2.1
theorem dX4_read_108 : decode cX4_read 108 = .ok (.iconst (-1), 1) := da9_dX4_read_90.2.2.2.2.2.2.2.2.1
theorem dX4_read_109 : decode cX4_read 109 = .ok (.ireturn, 1) := da9_dX4_read_90.2.2.2.2.2.2.2.2.2.1
theorem dX4_read_110 : decode cX4_read 110 = .ok (.aload_n 0, 1) := da9_dX4_read_90.2.2.2.2.2.2.2.2.2.2.1
theorem dX4_read_111 : decode cX4_read 111 = .ok (.bipush 59, 2) := da9_dX4_read_90.2.2.2.2.2.2.2.2.2.2.2.1
theorem dX4_read_113 : decode cX4_read 113 = .ok (.invokevirtual 68, 3) := da9_dX4_read_90.2.2.2.2.2.2.2.2.2.2.2.2.1
theorem dX4_read_116 : decode cX4_read 116 = .ok (.iinc 5 1, 3) := da9_dX4_read_90.2.2.2.2.2.2.2.2.2.2.2.2.2.1
theorem dX4_read_119 : decode cX4_read 119 = .ok (.goto (-59), 3) := da9_dX4_read_90.2.2.2.2.2.2.2.2.2.2.2.2.2.2.1
theorem dX4_read_122 : decode cX4_read 122 = .ok (.aload_n 0, 1) := da9_dX4_read_90.2.2.2.2.2.2.2.2.2.2.2.2.2.2.2
theorem da9_dX4_read_123 : (decode cX4_read 123 = .ok (.getfield 45, 3)) ∧ (decode cX4_read 126 = .ok (.ireturn, 1)) := by decide +kernel
theorem dX4_read_123 : decode cX4_read 123 = .ok (.getfield 45, 3) := da9_dX4_read_123.1
theorem dX4_read_126 : decode cX4_read 126 = .ok (.ireturn, 1) := da9_dX4_read_123.2
set_option maxRecDepth 20000 in
theorem ggX4_readClause_X4_wordIn : GoodIn wsX4_readClause wsX4_wordIn := goodIn_r _ [8, 9, 10, 11, 12, 13, 14, 15, 16, 17, 18, 19, 20, 21, 22, 23, 24, 25, 26, 27, 28, 29, 30, 31, 32, 33, 34, 35, 36, 37, 38, 39, 40, 41, 42, 43, 44, 45, 46, 47, 48, 49, 50, 51, 52, 53, 54, 55, 56, 57, 58, 59, 60, 61, 7, 62, 63, 64, 65, 170, 171, 172, 173, 174, 175, 176, 177, 178, 179, 180] rfl (by decide +kernel)
set_option maxRecDepth 20000 in
theorem gX4_readClause_X4_wordIn : GoodIn wsX4_readClause (wsV RX4 76 RX4 yX4_wordIn wsX4_wordIn) := goodIn_app (goodIn_of _ (by decide +kernel)) ggX4_readClause_X4_wordIn
set_option maxRecDepth 20000 in
theorem ggX4_readClause_X4_fail : GoodIn wsX4_readClause wsX4_fail := goodIn_r _ [69, 3, 64, 170, 171, 172, 173, 174, 175, 176, 177, 178, 179, 180] rfl (by decide +kernel)
set_option maxRecDepth 20000 in
theorem gX4_readClause_X4_fail : GoodIn wsX4_readClause (wsV RX4 62 RX4 yX4_fail wsX4_fail) := goodIn_app (goodIn_of _ (by decide +kernel)) ggX4_readClause_X4_fail
set_option maxRecDepth 20000 in
theorem ggX4_readClause_X7_beginClause : GoodIn wsX4_readClause wsX7_beginClause := goodIn_r _ [74, 75, 76, 77, 78, 79, 80, 81, 181, 182, 183, 184, 185, 186, 187, 188] rfl (by decide +kernel)
set_option maxRecDepth 20000 in
theorem gX4_readClause_X7_beginClause : GoodIn wsX4_readClause (wsV RX4 80 RX7 yX7_beginClause wsX7_beginClause) := goodIn_app (goodIn_of _ (by decide +kernel)) ggX4_readClause_X7_beginClause
set_option maxRecDepth 20000 in
theorem ggX4_readClause_X4_step : GoodIn wsX4_readClause wsX4_step := goodIn_r _ [85, 3, 63, 64, 86, 65, 87, 9, 88, 89, 90, 91, 92, 93, 7, 94, 170, 171, 172, 173, 174, 175, 176, 177, 178, 179, 180] rfl (by decide +kernel)
set_option maxRecDepth 20000 in
theorem gX4_readClause_X4_step : GoodIn wsX4_readClause (wsV RX4 59 RX4 yX4_step wsX4_step) := goodIn_app (goodIn_of _ (by decide +kernel)) ggX4_readClause_X4_step
set_option maxRecDepth 20000 in
theorem ggX4_readClause_X4_readSum : GoodIn wsX4_readClause wsX4_readSum := goodIn_r _ [98, 86, 3, 2, 99, 100, 101, 7, 102, 103, 104, 105, 10, 11, 12, 13, 14, 15, 16, 17, 18, 19, 20, 21, 22, 23, 24, 25, 26, 27, 28, 29, 30, 31, 32, 33, 34, 35, 36, 37, 38, 39, 40, 41, 42, 43, 44, 45, 46, 47, 48, 49, 50, 51, 52, 53, 54, 55, 56, 57, 58, 106, 107, 108, 109, 9, 64, 65, 82, 83, 84, 85, 63, 87, 88, 89, 90, 91, 92, 93, 94, 110, 111, 112, 73, 113, 79, 114, 115, 116, 1, 117, 118, 119, 120, 121, 66, 67, 68, 69, 95, 96, 97, 122, 123, 124, 125, 4, 5, 6, 8, 59, 60, 61, 62, 126, 127, 128, 129, 130, 131, 132, 133, 170, 171, 172, 173, 174, 175, 176, 177, 178, 179, 180, 181, 182, 183, 184, 185, 186, 187, 188] rfl (by decide +kernel)
set_option maxRecDepth 20000 in
theorem gX4_readClause_X4_readSum : GoodIn wsX4_readClause (wsV RX4 84 RX4 yX4_readSum wsX4_readSum) := goodIn_app (goodIn_of _ (by decide +kernel)) ggX4_readClause_X4_readSum
set_option maxRecDepth 20000 in
theorem ggX4_readClause_X7_endSum : GoodIn wsX4_readClause wsX7_endSum := goodIn_r _ [137, 75, 80, 79, 81, 181, 182, 183, 184, 185, 186, 187, 188] rfl (by decide +kernel)
set_option maxRecDepth 20000 in
theorem gX4_readClause_X7_endSum : GoodIn wsX4_readClause (wsV RX4 87 RX7 yX7_endSum wsX7_endSum) := goodIn_app (goodIn_of _ (by decide +kernel)) ggX4_readClause_X7_endSum
set_option maxRecDepth 20000 in
theorem ggX4_readClause_X4_isWord : GoodIn wsX4_readClause wsX4_isWord := goodIn_r _ [141, 9, 10, 11, 12, 13, 14, 15, 16, 17, 18, 19, 20, 21, 59, 60, 61, 7, 62, 63, 64, 65, 22, 23, 24, 25, 26, 27, 28, 29, 30, 31, 32, 33, 34, 35, 36, 37, 38, 39, 40, 41, 42, 43, 44, 45, 46, 47, 48, 49, 50, 51, 52, 53, 54, 55, 56, 57, 58, 170, 171, 172, 173, 174, 175, 176, 177, 178, 179, 180] rfl (by decide +kernel)
set_option maxRecDepth 20000 in
theorem gX4_readClause_X4_isWord : GoodIn wsX4_readClause (wsV RX4 92 RX4 yX4_isWord wsX4_isWord) := goodIn_app (goodIn_of _ (by decide +kernel)) ggX4_readClause_X4_isWord
set_option maxRecDepth 20000 in
theorem ggX4_readClause_X4_readTimes : GoodIn wsX4_readClause wsX4_readTimes := goodIn_r _ [145, 9, 87, 2, 66, 67, 68, 7, 69, 3, 64, 146, 147, 148, 73, 149, 75, 77, 82, 83, 84, 85, 63, 86, 65, 88, 89, 90, 91, 92, 93, 94, 170, 171, 172, 173, 174, 175, 176, 177, 178, 179, 180, 181, 182, 183, 184, 185, 186, 187, 188] rfl (by decide +kernel)
set_option maxRecDepth 20000 in
theorem gX4_readClause_X4_readTimes : GoodIn wsX4_readClause (wsV RX4 96 RX4 yX4_readTimes wsX4_readTimes) := goodIn_app (goodIn_of _ (by decide +kernel)) ggX4_readClause_X4_readTimes
set_option maxRecDepth 20000 in
theorem ggX4_readClause_X4_readTest : GoodIn wsX4_readClause wsX4_readTest := goodIn_r _ [153, 86, 3, 2, 154, 155, 156, 7, 138, 139, 140, 141, 9, 10, 11, 12, 13, 14, 15, 16, 17, 18, 19, 20, 21, 59, 60, 61, 62, 63, 64, 65, 22, 23, 24, 25, 26, 27, 28, 29, 30, 31, 32, 33, 34, 35, 36, 37, 38, 39, 40, 41, 42, 43, 44, 45, 46, 47, 48, 49, 50, 51, 52, 53, 54, 55, 56, 57, 58, 110, 111, 112, 73, 113, 79, 114, 82, 83, 84, 85, 87, 88, 89, 90, 91, 92, 93, 94, 157, 158, 159, 160, 161, 162, 163, 164, 165, 116, 106, 107, 108, 109, 118, 119, 120, 121, 66, 67, 68, 69, 150, 151, 152, 122, 123, 124, 125, 95, 96, 97, 98, 99, 100, 101, 102, 103, 104, 105, 115, 1, 117, 4, 5, 6, 8, 126, 127, 128, 129, 130, 131, 132, 133, 170, 171, 172, 173, 174, 175, 176, 177, 178, 179, 180, 181, 182, 183, 184, 185, 186, 187, 188] rfl (by decide +kernel)
set_option maxRecDepth 20000 in
theorem gX4_readClause_X4_readTest : GoodIn wsX4_readClause (wsV RX4 101 RX4 yX4_readTest wsX4_readTest) := goodIn_app (goodIn_of _ (by decide +kernel)) ggX4_readClause_X4_readTest
set_option maxRecDepth 20000 in
theorem ggX4_readClause_X7_endTest : GoodIn wsX4_readClause wsX7_endTest := goodIn_r _ [169, 75, 81, 79, 181, 182, 183, 184, 185, 186, 187, 188] rfl (by decide +kernel)
set_option maxRecDepth 20000 in
theorem gX4_readClause_X7_endTest : GoodIn wsX4_readClause (wsV RX4 104 RX7 yX7_endTest wsX7_endTest) := goodIn_app (goodIn_of _ (by decide +kernel)) ggX4_readClause_X7_endTest
theorem da9_dX4_readClause_0 : (decode cX4_readClause 0 = .ok (.aload_n 0, 1)) ∧ (decode cX4_readClause 1 = .ok (.aload_n 0, 1)) ∧ (decode cX4_readClause 2 = .ok (.getfield 19, 3)) ∧ (decode cX4_readClause 5 = .ok (.ifCond .eq 8, 3)) ∧ (decode cX4_readClause 8 = .ok (.ldc 72, 2)) ∧ (decode cX4_readClause 10 = .ok (.goto 5, 3)) ∧ (decode cX4_readClause 13 = .ok (.ldc 74, 2)) ∧ (decode cX4_readClause 15 = .ok (.invokevirtual 76, 3)) ∧ (decode cX4_readClause 18 = .ok (.istore_n 1, 1)) ∧ (decode cX4_readClause 19 = .ok (.iload_n 1, 1)) ∧ (decode cX4_readClause 20 = .ok (.iconst (-1), 1)) ∧ (decode cX4_readClause 21 = .ok (.if_icmp .ne 8, 3)) ∧ (decode cX4_readClause 24 = .ok (.aload_n 0, 1)) ∧ (decode cX4_readClause 25 = .ok (.invokevirtual 62, 3)) ∧ (decode cX4_readClause 28 = .ok (.return_, 1)) ∧ (decode cX4_readClause 29 = .ok (.aload_n 0, 1)) := by decide +kernel
theorem dX4_readClause_0 : decode cX4_readClause 0 = .ok (.aload_n 0, 1) := da9_dX4_readClause_0.1
theorem dX4_readClause_1 : decode cX4_readClause 1 = .ok (.aload_n 0, 1) := da9_dX4_readClause_0.2.1
theorem dX4_readClause_2 : decode cX4_readClause 2 = .ok (.getfield 19, 3) := da9_dX4_readClause_0.2.2.1
theorem dX4_readClause_5 : decode cX4_readClause 5 = .ok (.ifCond .eq 8, 3) := da9_dX4_readClause_0.2.2.2.1
theorem dX4_readClause_8 : decode cX4_readClause 8 = .ok (.ldc 72, 2) := da9_dX4_readClause_0.2.2.2.2.1
theorem dX4_readClause_10 : decode cX4_readClause 10 = .ok (.goto 5, 3) := da9_dX4_readClause_0.2.2.2.2.2.1
theorem dX4_readClause_13 : decode cX4_readClause 13 = .ok (.ldc 74, 2) := da9_dX4_readClause_0.2.2.2.2.2.2.1
theorem dX4_readClause_15 : decode cX4_readClause 15 = .ok (.invokevirtual 76, 3) := da9_dX4_readClause_0.2.2.2.2.2.2.2.1
theorem dX4_readClause_18 : decode cX4_readClause 18 = .ok (.istore_n 1, 1) := da9_dX4_readClause_0.2.2.2.2.2.2.2.2.1
theorem dX4_readClause_19 : decode cX4_readClause 19 = .ok (.iload_n 1, 1) := da9_dX4_readClause_0.2.2.2.2.2.2.2.2.2.1
theorem dX4_readClause_20 : decode cX4_readClause 20 = .ok (.iconst (-1), 1) := da9_dX4_readClause_0.2.2.2.2.2.2.2.2.2.2.1
theorem dX4_readClause_21 : decode cX4_readClause 21 = .ok (.if_icmp .ne 8, 3) := da9_dX4_readClause_0.2.2.2.2.2.2.2.2.2.2.2.1
theorem dX4_readClause_24 : decode cX4_readClause 24 = .ok (.aload_n 0, 1) := da9_dX4_readClause_0.2.2.2.2.2.2.2.2.2.2.2.2.1
theorem dX4_readClause_25 : decode cX4_readClause 25 = .ok (.invokevirtual 62, 3) := da9_dX4_readClause_0.2.2.2.2.2.2.2.2.2.2.2.2.2.1
theorem dX4_readClause_28 : decode cX4_readClause 28 = .ok (.return_, 1) := da9_dX4_readClause_0.2.2.2.2.2.2.2.2.2.2.2.2.2.2.1
theorem dX4_readClause_29 : decode cX4_readClause 29 = .ok (.aload_n 0, 1) := da9_dX4_readClause_0.2.2.2.2.2.2.2.2.2.2.2.2.2.2.2
theorem da9_dX4_readClause_30 : (decode cX4_readClause 30 = .ok (.getfield 23, 3)) ∧ (decode cX4_readClause 33 = .ok (.iload_n 1, 1)) ∧ (decode cX4_readClause 34 = .ok (.invokevirtual 80, 3)) ∧ (decode cX4_readClause 37 = .ok (.aload_n 0, 1)) ∧ (decode cX4_readClause 38 = .ok (.invokevirtual 59, 3)) ∧ (decode cX4_readClause 41 = .ok (.aload_n 0, 1)) ∧ (decode cX4_readClause 42 = .ok (.getfield 19, 3)) ∧ (decode cX4_readClause 45 = .ok (.ifCond .eq 11, 3)) ∧ (decode cX4_readClause 48 = .ok (.iload_n 1, 1)) ∧ (decode cX4_readClause 49 = .ok (.iconst 3, 1)) ∧ (decode cX4_readClause 50 = .ok (.if_icmp .eq 21, 3)) ∧ (decode cX4_readClause 53 = .ok (.goto 7, 3)) ∧ (decode cX4_readClause 56 = .ok (.iload_n 1, 1)) ∧ (decode cX4_readClause 57 = .ok (.ifCond .ne 14, 3)) ∧ (decode cX4_readClause 60 = .ok (.aload_n 0, 1)) ∧ (decode cX4_readClause 61 = .ok (.invokevirtual 84, 3)) := by decide +kernel
theorem dX4_readClause_30 : decode cX4_readClause 30 = .ok (.getfield 23, 3) := da9_dX4_readClause_30.1
theorem dX4_readClause_33 : decode cX4_readClause 33 = .ok (.iload_n 1, 1) := da9_dX4_readClause_30.2.1
theorem dX4_readClause_34 : decode cX4_readClause 34 = .ok (.invokevirtual 80, 3) := da9_dX4_readClause_30.2.2.1
theorem dX4_readClause_37 : decode cX4_readClause 37 = .ok (.aload_n 0, 1) := da9_dX4_readClause_30.2.2.2.1
theorem dX4_readClause_38 : decode cX4_readClause 38 = .ok (.invokevirtual 59, 3) := da9_dX4_readClause_30.2.2.2.2.1
theorem dX4_readClause_41 : decode cX4_readClause 41 = .ok (.aload_n 0, 1) := da9_dX4_readClause_30.2.2.2.2.2.1
theorem dX4_readClause_42 : decode cX4_readClause 42 = .ok (.getfield 19, 3) := da9_dX4_readClause_30.2.2.2.2.2.2.1
theorem dX4_readClause_45 : decode cX4_readClause 45 = .ok (.ifCond .eq 11, 3) := da9_dX4_readClause_30.2.2.2.2.2.2.2.1
theorem dX4_readClause_48 : decode cX4_readClause 48 = .ok (.iload_n 1, 1) := da9_dX4_readClause_30.2.2.2.2.2.2.2.2.1
theorem dX4_readClause_49 : decode cX4_readClause 49 = .ok (.iconst 3, 1) := da9_dX4_readClause_30.2.2.2.2.2.2.2.2.2.1
theorem dX4_readClause_50 : decode cX4_readClause 50 = .ok (.if_icmp .eq 21, 3) := da9_dX4_readClause_30.2.2.2.2.2.2.2.2.2.2.1
theorem dX4_readClause_53 : decode cX4_readClause 53 = .ok (.goto 7, 3) := da9_dX4_readClause_30.2.2.2.2.2.2.2.2.2.2.2.1
theorem dX4_readClause_56 : decode cX4_readClause 56 = .ok (.iload_n 1, 1) := da9_dX4_readClause_30.2.2.2.2.2.2.2.2.2.2.2.2.1
theorem dX4_readClause_57 : decode cX4_readClause 57 = .ok (.ifCond .ne 14, 3) := da9_dX4_readClause_30.2.2.2.2.2.2.2.2.2.2.2.2.2.1
theorem dX4_readClause_60 : decode cX4_readClause 60 = .ok (.aload_n 0, 1) := da9_dX4_readClause_30.2.2.2.2.2.2.2.2.2.2.2.2.2.2.1
theorem dX4_readClause_61 : decode cX4_readClause 61 = .ok (.invokevirtual 84, 3) := da9_dX4_readClause_30.2.2.2.2.2.2.2.2.2.2.2.2.2.2.2
theorem da9_dX4_readClause_64 : (decode cX4_readClause 64 = .ok (.aload_n 0, 1)) ∧ (decode cX4_readClause 65 = .ok (.getfield 23, 3)) ∧ (decode cX4_readClause 68 = .ok (.invokevirtual 87, 3)) ∧ (decode cX4_readClause 71 = .ok (.aload_n 0, 1)) ∧ (decode cX4_readClause 72 = .ok (.getfield 19, 3)) ∧ (decode cX4_readClause 75 = .ok (.ifCond .eq 28, 3)) ∧ (decode cX4_readClause 78 = .ok (.aload_n 0, 1)) ∧ (decode cX4_readClause 79 = .ok (.getfield 45, 3)) ∧ (decode cX4_readClause 82 = .ok (.iconst (-1), 1)) ∧ (decode cX4_readClause 83 = .ok (.if_icmp .ne 20, 3)) ∧ (decode cX4_readClause 86 = .ok (.aload_n 0, 1)) ∧ (decode cX4_readClause 87 = .ok (.ldc 90, 2)) ∧ (decode cX4_readClause 89 = .ok (.invokevirtual 92, 3)) ∧ (decode cX4_readClause 92 = .ok (.ifCond .eq 11, 3)) ∧ (decode cX4_readClause 95 = .ok (.aload_n 0, 1)) ∧ (decode cX4_readClause 96 = .ok (.invokevirtual 59, 3)) := by decide +kernel
theorem dX4_readClause_64 : decode cX4_readClause 64 = .ok (.aload_n 0, 1) := da9_dX4_readClause_64.1
theorem dX4_readClause_65 : decode cX4_readClause 65 = .ok (.getfield 23, 3) := da9_dX4_readClause_64.2.1
theorem dX4_readClause_68 : decode cX4_readClause 68 = .ok (.invokevirtual 87, 3) := da9_dX4_readClause_64.2.2.1
theorem dX4_readClause_71 : decode cX4_readClause 71 = .ok (.aload_n 0, 1) := da9_dX4_readClause_64.2.2.2.1
theorem dX4_readClause_72 : decode cX4_readClause 72 = .ok (.getfield 19, 3) := da9_dX4_readClause_64.2.2.2.2.1
theorem dX4_readClause_75 : decode cX4_readClause 75 = .ok (.ifCond .eq 28, 3) := da9_dX4_readClause_64.2.2.2.2.2.1
theorem dX4_readClause_78 : decode cX4_readClause 78 = .ok (.aload_n 0, 1) := da9_dX4_readClause_64.2.2.2.2.2.2.1
theorem dX4_readClause_79 : decode cX4_readClause 79 = .ok (.getfield 45, 3) := da9_dX4_readClause_64.2.2.2.2.2.2.2.1
theorem dX4_readClause_82 : decode cX4_readClause 82 = .ok (.iconst (-1), 1) := da9_dX4_readClause_64.2.2.2.2.2.2.2.2.1
theorem dX4_readClause_83 : decode cX4_readClause 83 = .ok (.if_icmp .ne 20, 3) := da9_dX4_readClause_64.2.2.2.2.2.2.2.2.2.1
theorem dX4_readClause_86 : decode cX4_readClause 86 = .ok (.aload_n 0, 1) := da9_dX4_readClause_64.2.2.2.2.2.2.2.2.2.2.1
theorem dX4_readClause_87 : decode cX4_readClause 87 = .ok (.ldc 90, 2) := da9_dX4_readClause_64.2.2.2.2.2.2.2.2.2.2.2.1
theorem dX4_readClause_89 : decode cX4_readClause 89 = .ok (.invokevirtual 92, 3) := da9_dX4_readClause_64.2.2.2.2.2.2.2.2.2.2.2.2.1
theorem dX4_readClause_92 : decode cX4_readClause 92 = .ok (.ifCond .eq 11, 3) := da9_dX4_readClause_64.2.2.2.2.2.2.2.2.2.2.2.2.2.1
theorem dX4_readClause_95 : decode cX4_readClause 95 = .ok (.aload_n 0, 1) := da9_dX4_readClause_64.2.2.2.2.2.2.2.2.2.2.2.2.2.2.1
theorem dX4_readClause_96 : decode cX4_readClause 96 = .ok (.invokevirtual 59, 3) := da9_dX4_readClause_64.2.2.2.2.2.2.2.2.2.2.2.2.2.2.2
theorem da9_dX4_readClause_99 : (decode cX4_readClause 99 = .ok (.aload_n 0, 1)) ∧ (decode cX4_readClause 100 = .ok (.invokevirtual 96, 3)) ∧ (decode cX4_readClause 103 = .ok (.aload_n 0, 1)) ∧ (decode cX4_readClause 104 = .ok (.getfield 45, 3)) ∧ (decode cX4_readClause 107 = .ok (.iconst (-1), 1)) ∧ (decode cX4_readClause 108 = .ok (.if_icmp .ne 27, 3)) ∧ (decode cX4_readClause 111 = .ok (.aload_n 0, 1)) ∧ (decode cX4_readClause 112 = .ok (.ldc 99, 2)) ∧ (decode cX4_readClause 114 = .ok (.invokevirtual 92, 3)) ∧ (decode cX4_readClause 117 = .ok (.ifCond .eq 18, 3)) ∧ (decode cX4_readClause 120 = .ok (.aload_n 0, 1)) ∧ (decode cX4_readClause 121 = .ok (.invokevirtual 59, 3)) ∧ (decode cX4_readClause 124 = .ok (.aload_n 0, 1)) ∧ (decode cX4_readClause 125 = .ok (.invokevirtual 101, 3)) ∧ (decode cX4_readClause 128 = .ok (.aload_n 0, 1)) ∧ (decode cX4_readClause 129 = .ok (.getfield 23, 3)) := by decide +kernel
theorem dX4_readClause_99 : decode cX4_readClause 99 = .ok (.aload_n 0, 1) := da9_dX4_readClause_99.1
theorem dX4_readClause_100 : decode cX4_readClause 100 = .ok (.invokevirtual 96, 3) := da9_dX4_readClause_99.2.1
theorem dX4_readClause_103 : decode cX4_readClause 103 = .ok (.aload_n 0, 1) := da9_dX4_readClause_99.2.2.1
theorem dX4_readClause_104 : decode cX4_readClause 104 = .ok (.getfield 45, 3) := da9_dX4_readClause_99.2.2.2.1
theorem dX4_readClause_107 : decode cX4_readClause 107 = .ok (.iconst (-1), 1) := da9_dX4_readClause_99.2.2.2.2.1
theorem dX4_readClause_108 : decode cX4_readClause 108 = .ok (.if_icmp .ne 27, 3) := da9_dX4_readClause_99.2.2.2.2.2.1
theorem dX4_readClause_111 : decode cX4_readClause 111 = .ok (.aload_n 0, 1) := da9_dX4_readClause_99.2.2.2.2.2.2.1
theorem dX4_readClause_112 : decode cX4_readClause 112 = .ok (.ldc 99, 2) := da9_dX4_readClause_99.2.2.2.2.2.2.2.1
theorem dX4_readClause_114 : decode cX4_readClause 114 = .ok (.invokevirtual 92, 3) := da9_dX4_readClause_99.2.2.2.2.2.2.2.2.1
theorem dX4_readClause_117 : decode cX4_readClause 117 = .ok (.ifCond .eq 18, 3) := da9_dX4_readClause_99.2.2.2.2.2.2.2.2.2.1
theorem dX4_readClause_120 : decode cX4_readClause 120 = .ok (.aload_n 0, 1) := da9_dX4_readClause_99.2.2.2.2.2.2.2.2.2.2.1
theorem dX4_readClause_121 : decode cX4_readClause 121 = .ok (.invokevirtual 59, 3) := da9_dX4_readClause_99.2.2.2.2.2.2.2.2.2.2.2.1
theorem dX4_readClause_124 : decode cX4_readClause 124 = .ok (.aload_n 0, 1) := da9_dX4_readClause_99.2.2.2.2.2.2.2.2.2.2.2.2.1
theorem dX4_readClause_125 : decode cX4_readClause 125 = .ok (.invokevirtual 101, 3) := da9_dX4_readClause_99.2.2.2.2.2.2.2.2.2.2.2.2.2.1
theorem dX4_readClause_128 : decode cX4_readClause 128 = .ok (.aload_n 0, 1) := da9_dX4_readClause_99.2.2.2.2.2.2.2.2.2.2.2.2.2.2.1
theorem dX4_readClause_129 : decode cX4_readClause 129 = .ok (.getfield 23, 3) := da9_dX4_readClause_99.2.2.2.2.2.2.2.2.2.2.2.2.2.2.2
theorem da9_dX4_readClause_132 : (decode cX4_readClause 132 = .ok (.invokevirtual 104, 3)) ∧ (decode cX4_readClause 135 = .ok (.return_, 1)) := by decide +kernel
theorem dX4_readClause_132 : decode cX4_readClause 132 = .ok (.invokevirtual 104, 3) := da9_dX4_readClause_132.1
theorem dX4_readClause_135 : decode cX4_readClause 135 = .ok (.return_, 1) := da9_dX4_readClause_132.2
set_option maxRecDepth 20000 in
theorem ggX4_readTest_X4_readBoth : GoodIn wsX4_readTest wsX4_readBoth := goodIn_r _ [92, 1, 2, 3, 93, 94, 95, 7, 8, 9, 10, 11, 12, 13, 14, 15, 16, 17, 18, 19, 20, 21, 22, 23, 24, 25, 26, 27, 28, 29, 30, 31, 32, 33, 34, 35, 36, 37, 38, 39, 40, 41, 42, 43, 44, 45, 46, 47, 48, 49, 50, 51, 52, 53, 54, 55, 56, 57, 58, 59, 60, 61, 62, 63, 64, 65, 66, 67, 68, 69, 70, 71, 72, 73, 74, 75, 76, 77, 78, 79, 80, 81, 82, 83, 84, 85, 86, 87, 88, 89, 90, 91, 96, 97, 98, 99, 100, 101, 102, 103, 104, 105, 106, 107, 108, 109, 110, 111, 112, 113, 114, 115, 116, 117, 118, 119, 120, 121, 122, 123, 124, 125, 126, 127, 128, 129, 130, 131, 132, 133, 134, 135, 136, 137, 138, 139, 140, 141, 142, 0, 4, 5, 6, 143, 144, 145, 146, 147, 148, 149, 150, 151, 152, 153, 154, 155, 156, 157, 158, 159, 160, 161] rfl (by decide +kernel)
set_option maxRecDepth 20000 in
theorem gX4_readTest_X4_readBoth : GoodIn wsX4_readTest (wsV RX4 110 RX4 yX4_readBoth wsX4_readBoth) := goodIn_app (goodIn_of _ (by decide +kernel)) ggX4_readTest_X4_readBoth
set_option maxRecDepth 20000 in
theorem ggX4_readTest_X4_isWord : GoodIn wsX4_readTest wsX4_isWord := goodIn_r _ [11, 12, 13, 14, 15, 16, 17, 18, 19, 20, 21, 22, 23, 24, 25, 26, 27, 7, 28, 29, 30, 31, 32, 33, 34, 35, 36, 37, 38, 39, 40, 41, 42, 43, 44, 45, 46, 47, 48, 49, 50, 51, 52, 53, 54, 55, 56, 57, 58, 59, 60, 61, 62, 63, 64, 65, 66, 67, 68, 143, 144, 145, 146, 147, 148, 149, 150, 151, 152, 153] rfl (by decide +kernel)
set_option maxRecDepth 20000 in
theorem gX4_readTest_X4_isWord : GoodIn wsX4_readTest (wsV RX4 92 RX4 yX4_isWord wsX4_isWord) := goodIn_app (goodIn_of _ (by decide +kernel)) ggX4_readTest_X4_isWord
set_option maxRecDepth 20000 in
theorem ggX4_readTest_X7_emit : GoodIn wsX4_readTest wsX7_emit := goodIn_r _ [73, 74, 75, 154, 155, 156, 157, 158, 159, 160, 161] rfl (by decide +kernel)
set_option maxRecDepth 20000 in
theorem gX4_readTest_X7_emit : GoodIn wsX4_readTest (wsV RX4 116 RX7 yX7_emit wsX7_emit) := goodIn_app (goodIn_of _ (by decide +kernel)) ggX4_readTest_X7_emit
set_option maxRecDepth 20000 in
theorem ggX4_readTest_X4_step : GoodIn wsX4_readTest wsX4_step := goodIn_r _ [79, 2, 29, 30, 1, 31, 80, 12, 81, 82, 83, 84, 85, 86, 7, 87, 143, 144, 145, 146, 147, 148, 149, 150, 151, 152, 153] rfl (by decide +kernel)
set_option maxRecDepth 20000 in
theorem gX4_readTest_X4_step : GoodIn wsX4_readTest (wsV RX4 59 RX4 yX4_step wsX4_step) := goodIn_app (goodIn_of _ (by decide +kernel)) ggX4_readTest_X4_step
set_option maxRecDepth 20000 in
theorem ggX4_readTest_X7_leapHere : GoodIn wsX4_readTest wsX7_leapHere := goodIn_r _ [91, 74, 75, 154, 155, 156, 157, 158, 159, 160, 161] rfl (by decide +kernel)
set_option maxRecDepth 20000 in
theorem gX4_readTest_X7_leapHere : GoodIn wsX4_readTest (wsV RX4 120 RX7 yX7_leapHere wsX7_leapHere) := goodIn_app (goodIn_of _ (by decide +kernel)) ggX4_readTest_X7_leapHere
theorem da9_dX4_readTest_0 : (decode cX4_readTest 0 = .ok (.aload_n 0, 1)) ∧ (decode cX4_readTest 1 = .ok (.invokevirtual 110, 3)) ∧ (decode cX4_readTest 4 = .ok (.iconst 0, 1)) ∧ (decode cX4_readTest 5 = .ok (.istore_n 1, 1)) ∧ (decode cX4_readTest 6 = .ok (.iload_n 1, 1)) ∧ (decode cX4_readTest 7 = .ok (.aload_n 0, 1)) ∧ (decode cX4_readTest 8 = .ok (.getfield 15, 3)) ∧ (decode cX4_readTest 11 = .ok (.if_icmp .ge 62, 3)) ∧ (decode cX4_readTest 14 = .ok (.aload_n 0, 1)) ∧ (decode cX4_readTest 15 = .ok (.getfield 45, 3)) ∧ (decode cX4_readTest 18 = .ok (.iconst (-1), 1)) ∧ (decode cX4_readTest 19 = .ok (.if_icmp .ne 54, 3)) ∧ (decode cX4_readTest 22 = .ok (.aload_n 0, 1)) ∧ (decode cX4_readTest 23 = .ok (.ldc 113, 2)) ∧ (decode cX4_readTest 25 = .ok (.invokevirtual 92, 3)) ∧ (decode cX4_readTest 28 = .ok (.ifCond .eq 45, 3)) := by decide +kernel
theorem dX4_readTest_0 : decode cX4_readTest 0 = .ok (.aload_n 0, 1) := da9_dX4_readTest_0.1
theorem dX4_readTest_1 : decode cX4_readTest 1 = .ok (.invokevirtual 110, 3) := da9_dX4_readTest_0.2.1
theorem dX4_readTest_4 : decode cX4_readTest 4 = .ok (.iconst 0, 1) := da9_dX4_readTest_0.2.2.1
theorem dX4_readTest_5 : decode cX4_readTest 5 = .ok (.istore_n 1, 1) := da9_dX4_readTest_0.2.2.2.1
theorem dX4_readTest_6 : decode cX4_readTest 6 = .ok (.iload_n 1, 1) := da9_dX4_readTest_0.2.2.2.2.1
theorem dX4_readTest_7 : decode cX4_readTest 7 = .ok (.aload_n 0, 1) := da9_dX4_readTest_0.2.2.2.2.2.1
theorem dX4_readTest_8 : decode cX4_readTest 8 = .ok (.getfield 15, 3) := da9_dX4_readTest_0.2.2.2.2.2.2.1
theorem dX4_readTest_11 : decode cX4_readTest 11 = .ok (.if_icmp .ge 62, 3) := da9_dX4_readTest_0.2.2.2.2.2.2.2.1
theorem dX4_readTest_14 : decode cX4_readTest 14 = .ok (.aload_n 0, 1) := da9_dX4_readTest_0.2.2.2.2.2.2.2.2.1
theorem dX4_readTest_15 : decode cX4_readTest 15 = .ok (.getfield 45, 3) := da9_dX4_readTest_0.2.2.2.2.2.2.2.2.2.1
theorem dX4_readTest_18 : decode cX4_readTest 18 = .ok (.iconst (-1), 1) := da9_dX4_readTest_0.2.2.2.2.2.2.2.2.2.2.1
theorem dX4_readTest_19 : decode cX4_readTest 19 = .ok (.if_icmp .ne 54, 3) := da9_dX4_readTest_0.2.2.2.2.2.2.2.2.2.2.2.1
theorem dX4_readTest_22 : decode cX4_readTest 22 = .ok (.aload_n 0, 1) := da9_dX4_readTest_0.2.2.2.2.2.2.2.2.2.2.2.2.1
theorem dX4_readTest_23 : decode cX4_readTest 23 = .ok (.ldc 113, 2) := da9_dX4_readTest_0.2.2.2.2.2.2.2.2.2.2.2.2.2.1
theorem dX4_readTest_25 : decode cX4_readTest 25 = .ok (.invokevirtual 92, 3) := da9_dX4_readTest_0.2.2.2.2.2.2.2.2.2.2.2.2.2.2.1
theorem dX4_readTest_28 : decode cX4_readTest 28 = .ok (.ifCond .eq 45, 3) := da9_dX4_readTest_0.2.2.2.2.2.2.2.2.2.2.2.2.2.2.2
theorem da9_dX4_readTest_31 : (decode cX4_readTest 31 = .ok (.aload_n 0, 1)) ∧ (decode cX4_readTest 32 = .ok (.getfield 23, 3)) ∧ (decode cX4_readTest 35 = .ok (.getfield 115, 3)) ∧ (decode cX4_readTest 38 = .ok (.istore_n 2, 1)) ∧ (decode cX4_readTest 39 = .ok (.aload_n 0, 1)) ∧ (decode cX4_readTest 40 = .ok (.getfield 23, 3)) ∧ (decode cX4_readTest 43 = .ok (.bipush 12, 2)) ∧ (decode cX4_readTest 45 = .ok (.iconst 0, 1)) ∧ (decode cX4_readTest 46 = .ok (.invokevirtual 116, 3)) ∧ (decode cX4_readTest 49 = .ok (.aload_n 0, 1)) ∧ (decode cX4_readTest 50 = .ok (.invokevirtual 59, 3)) ∧ (decode cX4_readTest 53 = .ok (.aload_n 0, 1)) ∧ (decode cX4_readTest 54 = .ok (.invokevirtual 110, 3)) ∧ (decode cX4_readTest 57 = .ok (.aload_n 0, 1)) ∧ (decode cX4_readTest 58 = .ok (.getfield 23, 3)) ∧ (decode cX4_readTest 61 = .ok (.bipush 12, 2)) := by decide +kernel
theorem dX4_readTest_31 : decode cX4_readTest 31 = .ok (.aload_n 0, 1) := da9_dX4_readTest_31.1
theorem dX4_readTest_32 : decode cX4_readTest 32 = .ok (.getfield 23, 3) := da9_dX4_readTest_31.2.1
theorem dX4_readTest_35 : decode cX4_readTest 35 = .ok (.getfield 115, 3) := da9_dX4_readTest_31.2.2.1
theorem dX4_readTest_38 : decode cX4_readTest 38 = .ok (.istore_n 2, 1) := da9_dX4_readTest_31.2.2.2.1
theorem dX4_readTest_39 : decode cX4_readTest 39 = .ok (.aload_n 0, 1) := da9_dX4_readTest_31.2.2.2.2.1
theorem dX4_readTest_40 : decode cX4_readTest 40 = .ok (.getfield 23, 3) := da9_dX4_readTest_31.2.2.2.2.2.1
theorem dX4_readTest_43 : decode cX4_readTest 43 = .ok (.bipush 12, 2) := da9_dX4_readTest_31.2.2.2.2.2.2.1
theorem dX4_readTest_45 : decode cX4_readTest 45 = .ok (.iconst 0, 1) := da9_dX4_readTest_31.2.2.2.2.2.2.2.1
theorem dX4_readTest_46 : decode cX4_readTest 46 = .ok (.invokevirtual 116, 3) := da9_dX4_readTest_31.2.2.2.2.2.2.2.2.1
theorem dX4_readTest_49 : decode cX4_readTest 49 = .ok (.aload_n 0, 1) := da9_dX4_readTest_31.2.2.2.2.2.2.2.2.2.1
theorem dX4_readTest_50 : decode cX4_readTest 50 = .ok (.invokevirtual 59, 3) := da9_dX4_readTest_31.2.2.2.2.2.2.2.2.2.2.1
theorem dX4_readTest_53 : decode cX4_readTest 53 = .ok (.aload_n 0, 1) := da9_dX4_readTest_31.2.2.2.2.2.2.2.2.2.2.2.1
theorem dX4_readTest_54 : decode cX4_readTest 54 = .ok (.invokevirtual 110, 3) := da9_dX4_readTest_31.2.2.2.2.2.2.2.2.2.2.2.2.1
theorem dX4_readTest_57 : decode cX4_readTest 57 = .ok (.aload_n 0, 1) := da9_dX4_readTest_31.2.2.2.2.2.2.2.2.2.2.2.2.2.1
theorem dX4_readTest_58 : decode cX4_readTest 58 = .ok (.getfield 23, 3) := da9_dX4_readTest_31.2.2.2.2.2.2.2.2.2.2.2.2.2.2.1
theorem dX4_readTest_61 : decode cX4_readTest 61 = .ok (.bipush 12, 2) := da9_dX4_readTest_31.2.2.2.2.2.2.2.2.2.2.2.2.2.2.2
theorem da9_dX4_readTest_63 : (decode cX4_readTest 63 = .ok (.iload_n 2, 1)) ∧ (decode cX4_readTest 64 = .ok (.invokevirtual 120, 3)) ∧ (decode cX4_readTest 67 = .ok (.iinc 1 1, 3)) ∧ (decode cX4_readTest 70 = .ok (.goto (-64), 3)) ∧ (decode cX4_readTest 73 = .ok (.return_, 1)) := by decide +kernel
theorem dX4_readTest_63 : decode cX4_readTest 63 = .ok (.iload_n 2, 1) := da9_dX4_readTest_63.1
theorem dX4_readTest_64 : decode cX4_readTest 64 = .ok (.invokevirtual 120, 3) := da9_dX4_readTest_63.2.1
theorem dX4_readTest_67 : decode cX4_readTest 67 = .ok (.iinc 1 1, 3) := da9_dX4_readTest_63.2.2.1
theorem dX4_readTest_70 : decode cX4_readTest 70 = .ok (.goto (-64), 3) := da9_dX4_readTest_63.2.2.2.1
theorem dX4_readTest_73 : decode cX4_readTest 73 = .ok (.return_, 1) := da9_dX4_readTest_63.2.2.2.2
theorem da9_dX7_endTest_0 : (decode cX7_endTest 0 = .ok (.aload_n 0, 1)) ∧ (decode cX7_endTest 1 = .ok (.getfield 7, 3)) ∧ (decode cX7_endTest 4 = .ok (.ifCond .le 18, 3)) ∧ (decode cX7_endTest 7 = .ok (.aload_n 0, 1)) ∧ (decode cX7_endTest 8 = .ok (.getfield 29, 3)) ∧ (decode cX7_endTest 11 = .ok (.aload_n 0, 1)) ∧ (decode cX7_endTest 12 = .ok (.getfield 7, 3)) ∧ (decode cX7_endTest 15 = .ok (.iconst 1, 1)) ∧ (decode cX7_endTest 16 = .ok (.isub, 1)) ∧ (decode cX7_endTest 17 = .ok (.aload_n 0, 1)) ∧ (decode cX7_endTest 18 = .ok (.getfield 13, 3)) ∧ (decode cX7_endTest 21 = .ok (.iastore, 1)) ∧ (decode cX7_endTest 22 = .ok (.return_, 1)) := by decide +kernel
theorem dX7_endTest_0 : decode cX7_endTest 0 = .ok (.aload_n 0, 1) := da9_dX7_endTest_0.1
theorem dX7_endTest_1 : decode cX7_endTest 1 = .ok (.getfield 7, 3) := da9_dX7_endTest_0.2.1
theorem dX7_endTest_4 : decode cX7_endTest 4 = .ok (.ifCond .le 18, 3) := da9_dX7_endTest_0.2.2.1
theorem dX7_endTest_7 : decode cX7_endTest 7 = .ok (.aload_n 0, 1) := da9_dX7_endTest_0.2.2.2.1
theorem dX7_endTest_8 : decode cX7_endTest 8 = .ok (.getfield 29, 3) := da9_dX7_endTest_0.2.2.2.2.1
theorem dX7_endTest_11 : decode cX7_endTest 11 = .ok (.aload_n 0, 1) := da9_dX7_endTest_0.2.2.2.2.2.1
theorem dX7_endTest_12 : decode cX7_endTest 12 = .ok (.getfield 7, 3) := da9_dX7_endTest_0.2.2.2.2.2.2.1
theorem dX7_endTest_15 : decode cX7_endTest 15 = .ok (.iconst 1, 1) := da9_dX7_endTest_0.2.2.2.2.2.2.2.1
theorem dX7_endTest_16 : decode cX7_endTest 16 = .ok (.isub, 1) := da9_dX7_endTest_0.2.2.2.2.2.2.2.2.1
theorem dX7_endTest_17 : decode cX7_endTest 17 = .ok (.aload_n 0, 1) := da9_dX7_endTest_0.2.2.2.2.2.2.2.2.2.1
theorem dX7_endTest_18 : decode cX7_endTest 18 = .ok (.getfield 13, 3) := da9_dX7_endTest_0.2.2.2.2.2.2.2.2.2.2.1
theorem dX7_endTest_21 : decode cX7_endTest 21 = .ok (.iastore, 1) := da9_dX7_endTest_0.2.2.2.2.2.2.2.2.2.2.2.1
theorem dX7_endTest_22 : decode cX7_endTest 22 = .ok (.return_, 1) := da9_dX7_endTest_0.2.2.2.2.2.2.2.2.2.2.2.2
