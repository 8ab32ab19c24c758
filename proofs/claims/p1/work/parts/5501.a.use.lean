set_option maxRecDepth 20000 in
theorem ggX4_read_X7_clear : GoodIn wsX4_read wsX7_clear := goodIn_r _ [18, 19, 20, 189, 190, 191, 192, 193, 194, 195, 196] rfl (by decide +kernel)
set_option maxRecDepth 20000 in
theorem gX4_read_X7_clear : GoodIn wsX4_read (wsV RX4 54 RX7 yX7_clear wsX7_clear) := goodIn_app (goodIn_of _ (by decide +kernel)) ggX4_read_X7_clear
set_option maxRecDepth 20000 in
theorem ggX4_read_X4_step : GoodIn wsX4_read wsX4_step := goodIn_r _ [25, 12, 9, 26, 6, 1, 27, 13, 2, 3, 4, 5, 28, 29, 24, 30, 178, 179, 180, 181, 182, 183, 184, 185, 186, 187, 188] rfl (by decide +kernel)
set_option maxRecDepth 20000 in
theorem gX4_read_X4_step : GoodIn wsX4_read (wsV RX4 59 RX4 yX4_step wsX4_step) := goodIn_app (goodIn_of _ (by decide +kernel)) ggX4_read_X4_step
set_option maxRecDepth 20000 in
theorem ggX4_read_X4_readClause : GoodIn wsX4_read wsX4_readClause := goodIn_r _ [38, 7, 8, 12, 39, 40, 41, 24, 42, 13, 43, 44, 45, 46, 47, 48, 49, 50, 51, 52, 53, 54, 55, 56, 57, 58, 59, 60, 61, 62, 63, 64, 65, 66, 67, 68, 69, 70, 71, 72, 73, 74, 75, 76, 77, 78, 79, 80, 81, 82, 83, 84, 85, 86, 87, 88, 89, 90, 91, 92, 93, 94, 95, 9, 26, 1, 31, 32, 33, 34, 96, 97, 98, 17, 99, 19, 100, 101, 102, 20, 103, 104, 21, 22, 23, 25, 6, 27, 2, 3, 4, 5, 28, 29, 30, 105, 106, 107, 108, 109, 110, 111, 112, 113, 114, 115, 116, 117, 118, 119, 120, 121, 122, 123, 124, 125, 11, 10, 126, 127, 128, 129, 130, 131, 132, 133, 134, 135, 136, 137, 138, 139, 140, 141, 142, 143, 144, 145, 146, 147, 148, 149, 150, 151, 152, 153, 154, 155, 156, 157, 158, 159, 160, 161, 162, 163, 164, 165, 166, 167, 168, 169, 170, 171, 172, 173, 174, 175, 176, 177, 178, 179, 180, 181, 182, 183, 184, 185, 186, 187, 188, 189, 190, 191, 192, 193, 194, 195, 196] rfl (by decide +kernel)
set_option maxRecDepth 20000 in
theorem gX4_read_X4_readClause : GoodIn wsX4_read (wsV RX4 65 RX4 yX4_readClause wsX4_readClause) := goodIn_app (goodIn_of _ (by decide +kernel)) ggX4_read_X4_readClause
set_option maxRecDepth 20000 in
theorem ggX4_read_X4_expectSign : GoodIn wsX4_read wsX4_expectSign := goodIn_r _ [133, 116, 117, 118, 24, 119, 13, 26, 6, 1, 21, 22, 23, 25, 12, 9, 27, 2, 3, 4, 5, 28, 29, 30, 31, 32, 33, 34, 178, 179, 180, 181, 182, 183, 184, 185, 186, 187, 188] rfl (by decide +kernel)
set_option maxRecDepth 20000 in
theorem gX4_read_X4_expectSign : GoodIn wsX4_read (wsV RX4 68 RX4 yX4_expectSign wsX4_expectSign) := goodIn_app (goodIn_of _ (by decide +kernel)) ggX4_read_X4_expectSign
theorem dX4_read_0 : decode cX4_read 0 = .ok (.aload_n 0, 1) := by decide +kernel
theorem dX4_read_1 : decode cX4_read 1 = .ok (.aload_n 1, 1) := by decide +kernel
theorem dX4_read_2 : decode cX4_read 2 = .ok (.putfield 9, 3) := by decide +kernel
theorem dX4_read_5 : decode cX4_read 5 = .ok (.aload_n 0, 1) := by decide +kernel
theorem dX4_read_6 : decode cX4_read 6 = .ok (.iload_n 2, 1) := by decide +kernel
theorem dX4_read_7 : decode cX4_read 7 = .ok (.aload_n 1, 1) := by decide +kernel
theorem dX4_read_8 : decode cX4_read 8 = .ok (.arraylength, 1) := by decide +kernel
theorem dX4_read_9 : decode cX4_read 9 = .ok (.invokestatic 48, 3) := by decide +kernel
theorem dX4_read_12 : decode cX4_read 12 = .ok (.putfield 15, 3) := by decide +kernel
theorem dX4_read_15 : decode cX4_read 15 = .ok (.aload_n 0, 1) := by decide +kernel
theorem dX4_read_16 : decode cX4_read 16 = .ok (.iload_n 3, 1) := by decide +kernel
theorem dX4_read_17 : decode cX4_read 17 = .ok (.putfield 19, 3) := by decide +kernel
theorem dX4_read_20 : decode cX4_read 20 = .ok (.aload_n 0, 1) := by decide +kernel
theorem dX4_read_21 : decode cX4_read 21 = .ok (.aload 4, 2) := by decide +kernel
theorem dX4_read_23 : decode cX4_read 23 = .ok (.putfield 23, 3) := by decide +kernel
theorem dX4_read_26 : decode cX4_read 26 = .ok (.aload_n 0, 1) := by decide +kernel
theorem dX4_read_27 : decode cX4_read 27 = .ok (.getfield 23, 3) := by decide +kernel
theorem dX4_read_30 : decode cX4_read 30 = .ok (.invokevirtual 54, 3) := by decide +kernel
theorem dX4_read_33 : decode cX4_read 33 = .ok (.aload_n 0, 1) := by decide +kernel
theorem dX4_read_34 : decode cX4_read 34 = .ok (.iconst 0, 1) := by decide +kernel
theorem dX4_read_35 : decode cX4_read 35 = .ok (.putfield 33, 3) := by decide +kernel
theorem dX4_read_38 : decode cX4_read 38 = .ok (.aload_n 0, 1) := by decide +kernel
theorem dX4_read_39 : decode cX4_read 39 = .ok (.iconst 0, 1) := by decide +kernel
theorem dX4_read_40 : decode cX4_read 40 = .ok (.putfield 39, 3) := by decide +kernel
theorem dX4_read_43 : decode cX4_read 43 = .ok (.aload_n 0, 1) := by decide +kernel
theorem dX4_read_44 : decode cX4_read 44 = .ok (.iconst 0, 1) := by decide +kernel
theorem dX4_read_45 : decode cX4_read 45 = .ok (.putfield 42, 3) := by decide +kernel
theorem dX4_read_48 : decode cX4_read 48 = .ok (.aload_n 0, 1) := by decide +kernel
theorem dX4_read_49 : decode cX4_read 49 = .ok (.iconst (-1), 1) := by decide +kernel
theorem dX4_read_50 : decode cX4_read 50 = .ok (.putfield 45, 3) := by decide +kernel
theorem dX4_read_53 : decode cX4_read 53 = .ok (.aload_n 0, 1) := by decide +kernel
theorem dX4_read_54 : decode cX4_read 54 = .ok (.invokevirtual 59, 3) := by decide +kernel
theorem dX4_read_57 : decode cX4_read 57 = .ok (.iconst 0, 1) := by decide +kernel
theorem dX4_read_58 : decode cX4_read 58 = .ok (.istore 5, 2) := by decide +kernel
theorem dX4_read_60 : decode cX4_read 60 = .ok (.iload 5, 2) := by decide +kernel
theorem dX4_read_62 : decode cX4_read 62 = .ok (.bipush 12, 2) := by decide +kernel
theorem dX4_read_64 : decode cX4_read 64 = .ok (.if_icmp .gt 58, 3) := by decide +kernel
theorem dX4_read_67 : decode cX4_read 67 = .ok (.aload_n 0, 1) := by decide +kernel
theorem dX4_read_68 : decode cX4_read 68 = .ok (.getfield 45, 3) := by decide +kernel
theorem dX4_read_71 : decode cX4_read 71 = .ok (.iconst (-1), 1) := by decide +kernel
theorem dX4_read_72 : decode cX4_read 72 = .ok (.if_icmp .ne 50, 3) := by decide +kernel
theorem dX4_read_75 : decode cX4_read 75 = .ok (.iload 5, 2) := by decide +kernel
theorem dX4_read_77 : decode cX4_read 77 = .ok (.bipush 12, 2) := by decide +kernel
theorem dX4_read_79 : decode cX4_read 79 = .ok (.if_icmp .ne 10, 3) := by decide +kernel
theorem dX4_read_89 : decode cX4_read 89 = .ok (.aload_n 0, 1) := by decide +kernel
theorem dX4_read_90 : decode cX4_read 90 = .ok (.invokevirtual 65, 3) := by decide +kernel
theorem dX4_read_93 : decode cX4_read 93 = .ok (.aload_n 0, 1) := by decide +kernel
theorem dX4_read_94 : decode cX4_read 94 = .ok (.getfield 45, 3) := by decide +kernel
theorem dX4_read_97 : decode cX4_read 97 = .ok (.iconst (-1), 1) := by decide +kernel
theorem dX4_read_98 : decode cX4_read 98 = .ok (.if_icmp .ne 12, 3) := by decide +kernel
theorem dX4_read_110 : decode cX4_read 110 = .ok (.aload_n 0, 1) := by decide +kernel
theorem dX4_read_111 : decode cX4_read 111 = .ok (.bipush 59, 2) := by decide +kernel
theorem dX4_read_113 : decode cX4_read 113 = .ok (.invokevirtual 68, 3) := by decide +kernel
theorem dX4_read_116 : decode cX4_read 116 = .ok (.iinc 5 1, 3) := by decide +kernel
theorem dX4_read_119 : decode cX4_read 119 = .ok (.goto (-59), 3) := by decide +kernel
theorem dX4_read_122 : decode cX4_read 122 = .ok (.aload_n 0, 1) := by decide +kernel
theorem dX4_read_123 : decode cX4_read 123 = .ok (.getfield 45, 3) := by decide +kernel
theorem dX4_read_126 : decode cX4_read 126 = .ok (.ireturn, 1) := by decide +kernel
set_option maxRecDepth 20000 in
theorem ggX4_readClause_X4_wordIn : GoodIn wsX4_readClause wsX4_wordIn := goodIn_r _ [8, 9, 10, 11, 12, 13, 14, 15, 16, 17, 18, 19, 20, 21, 22, 23, 24, 25, 26, 27, 28, 29, 30, 31, 32, 33, 34, 35, 36, 37, 38, 39, 40, 41, 42, 43, 44, 45, 46, 47, 48, 49, 50, 51, 52, 53, 54, 55, 56, 57, 58, 59, 60, 61, 7, 62, 63, 64, 65, 170, 171, 172, 173, 174, 175, 176, 177, 178, 179, 180] rfl (by decide +kernel)
set_option maxRecDepth 20000 in
theorem gX4_readClause_X4_wordIn : GoodIn wsX4_readClause (wsV RX4 76 RX4 yX4_wordIn wsX4_wordIn) := goodIn_app (goodIn_of _ (by decide +kernel)) ggX4_readClause_X4_wordIn
set_option maxRecDepth 20000 in
theorem ggX4_readClause_X4_fail : GoodIn wsX4_readClause wsX4_fail := goodIn_r _ [69, 3, 64, 170, 171, 172, 173, 174, 175, 176, 177, 178, 179, 180] rfl (by decide +kernel)
set_option maxRecDepth 20000 in
theorem gX4_readClause_X4_fail : GoodIn wsX4_readClause (wsV RX4 62 RX4 yX4_fail wsX4_fail) := goodIn_app (goodIn_of _ (by decide +kernel)) ggX4_readClause_X4_fail
theorem dX4_readClause_0 : decode cX4_readClause 0 = .ok (.aload_n 0, 1) := by decide +kernel
theorem dX4_readClause_1 : decode cX4_readClause 1 = .ok (.aload_n 0, 1) := by decide +kernel
theorem dX4_readClause_2 : decode cX4_readClause 2 = .ok (.getfield 19, 3) := by decide +kernel
theorem dX4_readClause_5 : decode cX4_readClause 5 = .ok (.ifCond .eq 8, 3) := by decide +kernel
theorem dX4_readClause_8 : decode cX4_readClause 8 = .ok (.ldc 72, 2) := by decide +kernel
theorem dX4_readClause_10 : decode cX4_readClause 10 = .ok (.goto 5, 3) := by decide +kernel
theorem dX4_readClause_13 : decode cX4_readClause 13 = .ok (.ldc 74, 2) := by decide +kernel
theorem dX4_readClause_15 : decode cX4_readClause 15 = .ok (.invokevirtual 76, 3) := by decide +kernel
theorem dX4_readClause_18 : decode cX4_readClause 18 = .ok (.istore_n 1, 1) := by decide +kernel
theorem dX4_readClause_19 : decode cX4_readClause 19 = .ok (.iload_n 1, 1) := by decide +kernel
theorem dX4_readClause_20 : decode cX4_readClause 20 = .ok (.iconst (-1), 1) := by decide +kernel
theorem dX4_readClause_21 : decode cX4_readClause 21 = .ok (.if_icmp .ne 8, 3) := by decide +kernel
theorem dX4_readClause_24 : decode cX4_readClause 24 = .ok (.aload_n 0, 1) := by decide +kernel
theorem dX4_readClause_25 : decode cX4_readClause 25 = .ok (.invokevirtual 62, 3) := by decide +kernel
theorem dX4_readClause_28 : decode cX4_readClause 28 = .ok (.return_, 1) := by decide +kernel
set_option maxRecDepth 20000 in
theorem ggX4_expectSign_X4_isSign : GoodIn wsX4_expectSign wsX4_isSign := goodIn_r _ [5, 6, 7, 8, 9, 28, 29, 30, 31, 32, 33, 34, 35, 36, 37, 38] rfl (by decide +kernel)
set_option maxRecDepth 20000 in
theorem gX4_expectSign_X4_isSign : GoodIn wsX4_expectSign (wsV RX4 130 RX4 yX4_isSign wsX4_isSign) := goodIn_app (goodIn_of _ (by decide +kernel)) ggX4_expectSign_X4_isSign
set_option maxRecDepth 20000 in
theorem ggX4_expectSign_X4_fail : GoodIn wsX4_expectSign wsX4_fail := goodIn_r _ [27, 14, 7, 28, 29, 30, 31, 32, 33, 34, 35, 36, 37, 38] rfl (by decide +kernel)
set_option maxRecDepth 20000 in
theorem gX4_expectSign_X4_fail : GoodIn wsX4_expectSign (wsV RX4 62 RX4 yX4_fail wsX4_fail) := goodIn_app (goodIn_of _ (by decide +kernel)) ggX4_expectSign_X4_fail
theorem dX4_expectSign_0 : decode cX4_expectSign 0 = .ok (.aload_n 0, 1) := by decide +kernel
theorem dX4_expectSign_1 : decode cX4_expectSign 1 = .ok (.iload_n 1, 1) := by decide +kernel
theorem dX4_expectSign_2 : decode cX4_expectSign 2 = .ok (.invokevirtual 130, 3) := by decide +kernel
theorem dX4_expectSign_5 : decode cX4_expectSign 5 = .ok (.ifCond .eq 10, 3) := by decide +kernel
theorem dX4_expectSign_15 : decode cX4_expectSign 15 = .ok (.aload_n 0, 1) := by decide +kernel
theorem dX4_expectSign_16 : decode cX4_expectSign 16 = .ok (.invokevirtual 62, 3) := by decide +kernel
theorem dX4_expectSign_19 : decode cX4_expectSign 19 = .ok (.return_, 1) := by decide +kernel
theorem dX4_fail_0 : decode cX4_fail 0 = .ok (.aload_n 0, 1) := by decide +kernel
theorem dX4_fail_1 : decode cX4_fail 1 = .ok (.getfield 45, 3) := by decide +kernel
theorem dX4_fail_4 : decode cX4_fail 4 = .ok (.iconst (-1), 1) := by decide +kernel
theorem dX4_fail_5 : decode cX4_fail 5 = .ok (.if_icmp .ne 11, 3) := by decide +kernel
theorem dX4_fail_8 : decode cX4_fail 8 = .ok (.aload_n 0, 1) := by decide +kernel
theorem dX4_fail_9 : decode cX4_fail 9 = .ok (.aload_n 0, 1) := by decide +kernel
theorem dX4_fail_10 : decode cX4_fail 10 = .ok (.getfield 30, 3) := by decide +kernel
theorem dX4_fail_13 : decode cX4_fail 13 = .ok (.putfield 45, 3) := by decide +kernel
theorem dX4_fail_16 : decode cX4_fail 16 = .ok (.return_, 1) := by decide +kernel
theorem dX4_step_0 : decode cX4_step 0 = .ok (.aload_n 0, 1) := by decide +kernel
theorem dX4_step_1 : decode cX4_step 1 = .ok (.getfield 45, 3) := by decide +kernel
theorem dX4_step_4 : decode cX4_step 4 = .ok (.iconst (-1), 1) := by decide +kernel
theorem dX4_step_5 : decode cX4_step 5 = .ok (.if_icmp .eq 4, 3) := by decide +kernel
theorem dX4_step_9 : decode cX4_step 9 = .ok (.aload_n 0, 1) := by decide +kernel
theorem dX4_step_10 : decode cX4_step 10 = .ok (.aload_n 0, 1) := by decide +kernel
theorem dX4_step_11 : decode cX4_step 11 = .ok (.getfield 33, 3) := by decide +kernel
theorem dX4_step_14 : decode cX4_step 14 = .ok (.putfield 30, 3) := by decide +kernel
theorem dX4_step_17 : decode cX4_step 17 = .ok (.aload_n 0, 1) := by decide +kernel
theorem dX4_step_18 : decode cX4_step 18 = .ok (.getfield 30, 3) := by decide +kernel
theorem dX4_step_21 : decode cX4_step 21 = .ok (.aload_n 0, 1) := by decide +kernel
theorem dX4_step_22 : decode cX4_step 22 = .ok (.getfield 15, 3) := by decide +kernel
theorem dX4_step_25 : decode cX4_step 25 = .ok (.if_icmp .ge 30, 3) := by decide +kernel
theorem dX4_step_55 : decode cX4_step 55 = .ok (.aload_n 0, 1) := by decide +kernel
theorem dX4_step_56 : decode cX4_step 56 = .ok (.aload_n 0, 1) := by decide +kernel
theorem dX4_step_57 : decode cX4_step 57 = .ok (.getfield 30, 3) := by decide +kernel
theorem dX4_step_60 : decode cX4_step 60 = .ok (.putfield 33, 3) := by decide +kernel
theorem dX4_step_63 : decode cX4_step 63 = .ok (.aload_n 0, 1) := by decide +kernel
theorem dX4_step_64 : decode cX4_step 64 = .ok (.iconst 0, 1) := by decide +kernel
theorem dX4_step_65 : decode cX4_step 65 = .ok (.putfield 36, 3) := by decide +kernel
theorem dX4_step_68 : decode cX4_step 68 = .ok (.aload_n 0, 1) := by decide +kernel
theorem dX4_step_69 : decode cX4_step 69 = .ok (.iconst 0, 1) := by decide +kernel
theorem dX4_step_70 : decode cX4_step 70 = .ok (.putfield 27, 3) := by decide +kernel
theorem dX4_step_73 : decode cX4_step 73 = .ok (.aload_n 0, 1) := by decide +kernel
theorem dX4_step_74 : decode cX4_step 74 = .ok (.getfield 30, 3) := by decide +kernel
theorem dX4_step_77 : decode cX4_step 77 = .ok (.aload_n 0, 1) := by decide +kernel
theorem dX4_step_78 : decode cX4_step 78 = .ok (.getfield 15, 3) := by decide +kernel
theorem dX4_step_81 : decode cX4_step 81 = .ok (.if_icmp .lt 4, 3) := by decide +kernel
theorem dX4_step_84 : decode cX4_step 84 = .ok (.return_, 1) := by decide +kernel
theorem dX4_isSign_0 : decode cX4_isSign 0 = .ok (.aload_n 0, 1) := by decide +kernel
theorem dX4_isSign_1 : decode cX4_isSign 1 = .ok (.getfield 27, 3) := by decide +kernel
theorem dX4_isSign_4 : decode cX4_isSign 4 = .ok (.iconst 3, 1) := by decide +kernel
theorem dX4_isSign_5 : decode cX4_isSign 5 = .ok (.if_icmp .ne 31, 3) := by decide +kernel
theorem dX4_isSign_36 : decode cX4_isSign 36 = .ok (.iconst 0, 1) := by decide +kernel
theorem dX4_isSign_37 : decode cX4_isSign 37 = .ok (.ireturn, 1) := by decide +kernel
set_option maxRecDepth 20000 in
theorem ggX4_wordIn_J0_length_8abf5 : GoodIn wsX4_wordIn wsJ0_length_8abf5 := goodIn_r _ [6, 7, 8, 9, 10, 5, 11, 12, 13] rfl (by decide +kernel)
set_option maxRecDepth 20000 in
theorem gX4_wordIn_J0_length_8abf5 : GoodIn wsX4_wordIn (wsV RX4 167 RJ0 yJ0_length_8abf5 wsJ0_length_8abf5) := goodIn_app (goodIn_of _ (by decide +kernel)) ggX4_wordIn_J0_length_8abf5
theorem dX4_wordIn_0 : decode cX4_wordIn 0 = .ok (.iconst 0, 1) := by decide +kernel
theorem dX4_wordIn_1 : decode cX4_wordIn 1 = .ok (.istore_n 2, 1) := by decide +kernel
theorem dX4_wordIn_2 : decode cX4_wordIn 2 = .ok (.iconst 0, 1) := by decide +kernel
theorem dX4_wordIn_3 : decode cX4_wordIn 3 = .ok (.istore_n 3, 1) := by decide +kernel
theorem dX4_wordIn_4 : decode cX4_wordIn 4 = .ok (.iconst 0, 1) := by decide +kernel
theorem dX4_wordIn_5 : decode cX4_wordIn 5 = .ok (.istore 4, 2) := by decide +kernel
theorem dX4_wordIn_7 : decode cX4_wordIn 7 = .ok (.iload 4, 2) := by decide +kernel
theorem dX4_wordIn_9 : decode cX4_wordIn 9 = .ok (.aload_n 1, 1) := by decide +kernel
theorem dX4_wordIn_10 : decode cX4_wordIn 10 = .ok (.invokevirtual 167, 3) := by decide +kernel
theorem dX4_wordIn_13 : decode cX4_wordIn 13 = .ok (.if_icmp .ge 49, 3) := by decide +kernel
theorem dX4_wordIn_16 : decode cX4_wordIn 16 = .ok (.aload_n 0, 1) := by decide +kernel
theorem dX4_wordIn_17 : decode cX4_wordIn 17 = .ok (.getfield 27, 3) := by decide +kernel
theorem dX4_wordIn_20 : decode cX4_wordIn 20 = .ok (.iconst 1, 1) := by decide +kernel
theorem dX4_wordIn_21 : decode cX4_wordIn 21 = .ok (.if_icmp .ne 41, 3) := by decide +kernel
theorem dX4_wordIn_62 : decode cX4_wordIn 62 = .ok (.iconst (-1), 1) := by decide +kernel
theorem dX4_wordIn_63 : decode cX4_wordIn 63 = .ok (.ireturn, 1) := by decide +kernel
theorem dX6_isLaw_0 : decode cX6_isLaw 0 = .ok (.iload_n 1, 1) := by decide +kernel
theorem dX6_isLaw_1 : decode cX6_isLaw 1 = .ok (.ifCond .lt 15, 3) := by decide +kernel
theorem dX6_isLaw_4 : decode cX6_isLaw 4 = .ok (.iload_n 1, 1) := by decide +kernel
theorem dX6_isLaw_5 : decode cX6_isLaw 5 = .ok (.aload_n 0, 1) := by decide +kernel
theorem dX6_isLaw_6 : decode cX6_isLaw 6 = .ok (.getfield 44, 3) := by decide +kernel
theorem dX6_isLaw_9 : decode cX6_isLaw 9 = .ok (.if_icmp .ge 7, 3) := by decide +kernel
theorem dX6_isLaw_12 : decode cX6_isLaw 12 = .ok (.iconst 1, 1) := by decide +kernel
theorem dX6_isLaw_13 : decode cX6_isLaw 13 = .ok (.goto 4, 3) := by decide +kernel
theorem dX6_isLaw_16 : decode cX6_isLaw 16 = .ok (.iconst 0, 1) := by decide +kernel
theorem dX6_isLaw_17 : decode cX6_isLaw 17 = .ok (.ireturn, 1) := by decide +kernel
theorem dX7_clear_0 : decode cX7_clear 0 = .ok (.aload_n 0, 1) := by decide +kernel
theorem dX7_clear_1 : decode cX7_clear 1 = .ok (.iconst 0, 1) := by decide +kernel
theorem dX7_clear_2 : decode cX7_clear 2 = .ok (.putfield 7, 3) := by decide +kernel
theorem dX7_clear_5 : decode cX7_clear 5 = .ok (.aload_n 0, 1) := by decide +kernel
theorem dX7_clear_6 : decode cX7_clear 6 = .ok (.iconst 0, 1) := by decide +kernel
theorem dX7_clear_7 : decode cX7_clear 7 = .ok (.putfield 13, 3) := by decide +kernel
theorem dX7_clear_10 : decode cX7_clear 10 = .ok (.return_, 1) := by decide +kernel
set_option maxRecDepth 20000 in
theorem ggX9_feed_X9_feedFour : GoodIn wsX9_feed wsX9_feedFour := goodIn_r _ [6, 1, 7, 8, 9, 10, 11, 12, 13, 14, 15, 16, 17, 18, 19, 20, 21, 22, 23, 24, 25, 26] rfl (by decide +kernel)
set_option maxRecDepth 20000 in
theorem gX9_feed_X9_feedFour : GoodIn wsX9_feed (wsV RX9 176 RX9 yX9_feedFour wsX9_feedFour) := goodIn_app (goodIn_of _ (by decide +kernel)) ggX9_feed_X9_feedFour
theorem dX9_feed_0 : decode cX9_feed 0 = .ok (.aload_n 0, 1) := by decide +kernel
theorem dX9_feed_1 : decode cX9_feed 1 = .ok (.getfield 88, 3) := by decide +kernel
theorem dX9_feed_4 : decode cX9_feed 4 = .ok (.bipush 20, 2) := by decide +kernel
theorem dX9_feed_6 : decode cX9_feed 6 = .ok (.iadd, 1) := by decide +kernel
theorem dX9_feed_7 : decode cX9_feed 7 = .ok (.sipush 400, 3) := by decide +kernel
theorem dX9_feed_10 : decode cX9_feed 10 = .ok (.if_icmp .le 5, 3) := by decide +kernel
theorem dX9_feed_15 : decode cX9_feed 15 = .ok (.aload_n 0, 1) := by decide +kernel
theorem dX9_feed_16 : decode cX9_feed 16 = .ok (.iload_n 1, 1) := by decide +kernel
theorem dX9_feed_17 : decode cX9_feed 17 = .ok (.invokevirtual 176, 3) := by decide +kernel
theorem dX9_feed_20 : decode cX9_feed 20 = .ok (.aload_n 0, 1) := by decide +kernel
theorem dX9_feed_21 : decode cX9_feed 21 = .ok (.iload_n 2, 1) := by decide +kernel
theorem dX9_feed_22 : decode cX9_feed 22 = .ok (.invokevirtual 176, 3) := by decide +kernel
theorem dX9_feed_25 : decode cX9_feed 25 = .ok (.aload_n 0, 1) := by decide +kernel
theorem dX9_feed_26 : decode cX9_feed 26 = .ok (.iload_n 3, 1) := by decide +kernel
theorem dX9_feed_27 : decode cX9_feed 27 = .ok (.invokevirtual 176, 3) := by decide +kernel
theorem dX9_feed_30 : decode cX9_feed 30 = .ok (.aload_n 0, 1) := by decide +kernel
theorem dX9_feed_31 : decode cX9_feed 31 = .ok (.iload 4, 2) := by decide +kernel
theorem dX9_feed_33 : decode cX9_feed 33 = .ok (.invokevirtual 176, 3) := by decide +kernel
theorem dX9_feed_36 : decode cX9_feed 36 = .ok (.aload_n 0, 1) := by decide +kernel
theorem dX9_feed_37 : decode cX9_feed 37 = .ok (.iload 5, 2) := by decide +kernel
theorem dX9_feed_39 : decode cX9_feed 39 = .ok (.invokevirtual 176, 3) := by decide +kernel
theorem dX9_feed_42 : decode cX9_feed 42 = .ok (.aload_n 0, 1) := by decide +kernel
theorem dX9_feed_43 : decode cX9_feed 43 = .ok (.getfield 88, 3) := by decide +kernel
theorem dX9_feed_46 : decode cX9_feed 46 = .ok (.ireturn, 1) := by decide +kernel
theorem dX9_end_0 : decode cX9_end 0 = .ok (.iload_n 1, 1) := by decide +kernel
theorem dX9_end_1 : decode cX9_end 1 = .ok (.ifCond .lt 11, 3) := by decide +kernel
theorem dX9_end_4 : decode cX9_end 4 = .ok (.iload_n 1, 1) := by decide +kernel
theorem dX9_end_5 : decode cX9_end 5 = .ok (.aload_n 0, 1) := by decide +kernel
theorem dX9_end_6 : decode cX9_end 6 = .ok (.getfield 88, 3) := by decide +kernel
theorem dX9_end_9 : decode cX9_end 9 = .ok (.if_icmp .le 5, 3) := by decide +kernel
theorem dX9_end_12 : decode cX9_end 12 = .ok (.iconst (-1), 1) := by decide +kernel
theorem dX9_end_13 : decode cX9_end 13 = .ok (.ireturn, 1) := by decide +kernel
theorem dX9_end_14 : decode cX9_end 14 = .ok (.aload_n 0, 1) := by decide +kernel
theorem dX9_end_15 : decode cX9_end 15 = .ok (.iload_n 1, 1) := by decide +kernel
theorem dX9_end_16 : decode cX9_end 16 = .ok (.putfield 88, 3) := by decide +kernel
theorem dX9_end_19 : decode cX9_end 19 = .ok (.iload_n 1, 1) := by decide +kernel
theorem dX9_end_20 : decode cX9_end 20 = .ok (.ireturn, 1) := by decide +kernel
set_option maxRecDepth 20000 in
theorem ggX9_row_X9_refuse : GoodIn wsX9_row wsX9_refuse := goodIn_r _ [10, 11, 12, 45, 46, 47, 48, 49, 50, 51, 52, 53, 54, 55, 56, 57, 58, 59, 60, 61, 62, 63] rfl (by decide +kernel)
set_option maxRecDepth 20000 in
theorem gX9_row_X9_refuse : GoodIn wsX9_row (wsV RX9 118 RX9 yX9_refuse wsX9_refuse) := goodIn_app (goodIn_of _ (by decide +kernel)) ggX9_row_X9_refuse
theorem dX9_row_0 : decode cX9_row 0 = .ok (.aload_n 0, 1) := by decide +kernel
theorem dX9_row_1 : decode cX9_row 1 = .ok (.getfield 88, 3) := by decide +kernel
theorem dX9_row_4 : decode cX9_row 4 = .ok (.ifCond .ne 10, 3) := by decide +kernel
theorem dX9_row_7 : decode cX9_row 7 = .ok (.aload_n 0, 1) := by decide +kernel
theorem dX9_row_8 : decode cX9_row 8 = .ok (.bipush (-6), 2) := by decide +kernel
theorem dX9_row_10 : decode cX9_row 10 = .ok (.invokevirtual 118, 3) := by decide +kernel
theorem dX9_row_13 : decode cX9_row 13 = .ok (.ireturn, 1) := by decide +kernel
theorem dX9_bricks_0 : decode cX9_bricks 0 = .ok (.aload_n 0, 1) := by decide +kernel
theorem dX9_bricks_1 : decode cX9_bricks 1 = .ok (.getfield 95, 3) := by decide +kernel
theorem dX9_bricks_4 : decode cX9_bricks 4 = .ok (.ireturn, 1) := by decide +kernel
set_option maxRecDepth 20000 in
theorem ggX9_law_X9_refuse : GoodIn wsX9_law wsX9_refuse := goodIn_r _ [11, 12, 13, 216, 217, 218, 219, 220, 221, 222, 223, 224, 225, 226, 227, 228, 229, 230, 231, 232, 233, 234] rfl (by decide +kernel)
set_option maxRecDepth 20000 in
theorem gX9_law_X9_refuse : GoodIn wsX9_law (wsV RX9 118 RX9 yX9_refuse wsX9_refuse) := goodIn_app (goodIn_of _ (by decide +kernel)) ggX9_law_X9_refuse
set_option maxRecDepth 20000 in
theorem ggX9_law_X4_read : GoodIn wsX9_law wsX4_read := goodIn_r _ [18, 19, 20, 21, 22, 23, 24, 25, 26, 27, 28, 29, 30, 31, 32, 33, 34, 35, 36, 37, 38, 39, 40, 41, 17, 42, 43, 44, 45, 46, 47, 48, 49, 50, 51, 52, 53, 54, 55, 56, 57, 58, 59, 60, 61, 62, 63, 64, 65, 66, 67, 68, 69, 70, 71, 72, 73, 74, 75, 76, 77, 78, 79, 80, 81, 82, 83, 84, 85, 86, 87, 88, 89, 90, 91, 92, 93, 94, 95, 96, 97, 98, 99, 100, 101, 102, 103, 104, 105, 106, 107, 108, 109, 110, 111, 112, 113, 114, 115, 116, 117, 118, 119, 120, 121, 122, 123, 124, 125, 126, 127, 128, 129, 130, 131, 132, 133, 134, 135, 136, 137, 138, 139, 140, 141, 142, 143, 144, 145, 146, 147, 148, 149, 150, 151, 152, 153, 154, 155, 156, 157, 158, 159, 160, 161, 162, 163, 164, 165, 166, 167, 168, 169, 170, 171, 172, 173, 174, 175, 176, 177, 178, 179, 180, 181, 182, 183, 184, 185, 186, 187, 188, 189, 190, 191, 192, 193, 194, 245, 246, 247, 248, 249, 250, 251, 252, 253, 254, 255, 256, 257, 258, 259, 260, 261, 262, 263] rfl (by decide +kernel)
set_option maxRecDepth 20000 in
theorem gX9_law_X4_read : GoodIn wsX9_law (wsV RX9 186 RX4 yX4_read wsX4_read) := goodIn_app (goodIn_of _ (by decide +kernel)) ggX9_law_X4_read
theorem dX9_law_0 : decode cX9_law 0 = .ok (.aload_n 0, 1) := by decide +kernel
theorem dX9_law_1 : decode cX9_law 1 = .ok (.getfield 88, 3) := by decide +kernel
theorem dX9_law_4 : decode cX9_law 4 = .ok (.istore_n 1, 1) := by decide +kernel
theorem dX9_law_5 : decode cX9_law 5 = .ok (.aload_n 0, 1) := by decide +kernel
theorem dX9_law_6 : decode cX9_law 6 = .ok (.iconst 0, 1) := by decide +kernel
theorem dX9_law_7 : decode cX9_law 7 = .ok (.putfield 88, 3) := by decide +kernel
theorem dX9_law_10 : decode cX9_law 10 = .ok (.aload_n 0, 1) := by decide +kernel
theorem dX9_law_11 : decode cX9_law 11 = .ok (.getfield 10, 3) := by decide +kernel
theorem dX9_law_14 : decode cX9_law 14 = .ok (.getfield 183, 3) := by decide +kernel
theorem dX9_law_17 : decode cX9_law 17 = .ok (.bipush 6, 2) := by decide +kernel
theorem dX9_law_19 : decode cX9_law 19 = .ok (.if_icmp .lt 10, 3) := by decide +kernel
theorem dX9_law_29 : decode cX9_law 29 = .ok (.aload_n 0, 1) := by decide +kernel
theorem dX9_law_30 : decode cX9_law 30 = .ok (.aload_n 0, 1) := by decide +kernel
theorem dX9_law_31 : decode cX9_law 31 = .ok (.getfield 64, 3) := by decide +kernel
theorem dX9_law_34 : decode cX9_law 34 = .ok (.aload_n 0, 1) := by decide +kernel
theorem dX9_law_35 : decode cX9_law 35 = .ok (.getfield 84, 3) := by decide +kernel
theorem dX9_law_38 : decode cX9_law 38 = .ok (.iload_n 1, 1) := by decide +kernel
theorem dX9_law_39 : decode cX9_law 39 = .ok (.iconst 0, 1) := by decide +kernel
theorem dX9_law_40 : decode cX9_law 40 = .ok (.aload_n 0, 1) := by decide +kernel
theorem dX9_law_41 : decode cX9_law 41 = .ok (.getfield 73, 3) := by decide +kernel
theorem dX9_law_44 : decode cX9_law 44 = .ok (.invokevirtual 186, 3) := by decide +kernel
theorem dX9_law_47 : decode cX9_law 47 = .ok (.putfield 92, 3) := by decide +kernel
theorem dX9_law_50 : decode cX9_law 50 = .ok (.aload_n 0, 1) := by decide +kernel
theorem dX9_law_51 : decode cX9_law 51 = .ok (.getfield 92, 3) := by decide +kernel
theorem dX9_law_54 : decode cX9_law 54 = .ok (.iconst (-1), 1) := by decide +kernel
theorem dX9_law_55 : decode cX9_law 55 = .ok (.if_icmp .eq 10, 3) := by decide +kernel
theorem dX9_law_58 : decode cX9_law 58 = .ok (.aload_n 0, 1) := by decide +kernel
theorem dX9_law_59 : decode cX9_law 59 = .ok (.bipush (-6), 2) := by decide +kernel
theorem dX9_law_61 : decode cX9_law 61 = .ok (.invokevirtual 118, 3) := by decide +kernel
theorem dX9_law_64 : decode cX9_law 64 = .ok (.ireturn, 1) := by decide +kernel
set_option maxRecDepth 20000 in
theorem ggX9_orders_X4_read : GoodIn wsX9_orders wsX4_read := goodIn_r _ [14, 15, 16, 17, 18, 19, 20, 21, 22, 23, 24, 25, 26, 27, 28, 29, 30, 31, 32, 33, 34, 35, 36, 37, 13, 38, 39, 40, 41, 42, 43, 44, 45, 46, 47, 48, 49, 50, 51, 52, 53, 54, 55, 56, 57, 58, 59, 60, 61, 62, 63, 64, 65, 66, 67, 68, 69, 70, 71, 72, 73, 74, 75, 76, 77, 78, 79, 80, 81, 82, 83, 84, 85, 86, 87, 88, 89, 90, 91, 92, 93, 94, 95, 96, 97, 98, 99, 100, 101, 102, 103, 104, 105, 106, 107, 108, 109, 110, 111, 112, 113, 114, 115, 116, 117, 118, 119, 120, 121, 122, 123, 124, 125, 126, 127, 128, 129, 130, 131, 132, 133, 134, 135, 136, 137, 138, 139, 140, 141, 142, 143, 144, 145, 146, 147, 148, 149, 150, 151, 152, 153, 154, 155, 156, 157, 158, 159, 160, 161, 162, 163, 164, 165, 166, 167, 168, 169, 170, 171, 172, 173, 174, 175, 176, 177, 178, 179, 180, 181, 182, 183, 184, 185, 186, 187, 188, 189, 190, 418, 419, 420, 421, 422, 423, 424, 425, 426, 427, 428, 429, 430, 431, 432, 433, 434, 435, 436] rfl (by decide +kernel)
set_option maxRecDepth 20000 in
theorem gX9_orders_X4_read : GoodIn wsX9_orders (wsV RX9 186 RX4 yX4_read wsX4_read) := goodIn_app (goodIn_of _ (by decide +kernel)) ggX9_orders_X4_read
set_option maxRecDepth 20000 in
theorem ggX9_orders_X9_refuse : GoodIn wsX9_orders wsX9_refuse := goodIn_r _ [195, 196, 197, 385, 386, 387, 388, 389, 390, 391, 392, 393, 394, 395, 396, 397, 398, 399, 400, 401, 402, 403] rfl (by decide +kernel)
set_option maxRecDepth 20000 in
theorem gX9_orders_X9_refuse : GoodIn wsX9_orders (wsV RX9 118 RX9 yX9_refuse wsX9_refuse) := goodIn_app (goodIn_of _ (by decide +kernel)) ggX9_orders_X9_refuse
theorem dX9_orders_0 : decode cX9_orders 0 = .ok (.aload_n 0, 1) := by decide +kernel
theorem dX9_orders_1 : decode cX9_orders 1 = .ok (.getfield 88, 3) := by decide +kernel
theorem dX9_orders_4 : decode cX9_orders 4 = .ok (.istore_n 1, 1) := by decide +kernel
theorem dX9_orders_5 : decode cX9_orders 5 = .ok (.aload_n 0, 1) := by decide +kernel
theorem dX9_orders_6 : decode cX9_orders 6 = .ok (.iconst 0, 1) := by decide +kernel
theorem dX9_orders_7 : decode cX9_orders 7 = .ok (.putfield 88, 3) := by decide +kernel
theorem dX9_orders_10 : decode cX9_orders 10 = .ok (.aload_n 0, 1) := by decide +kernel
theorem dX9_orders_11 : decode cX9_orders 11 = .ok (.iconst (-1), 1) := by decide +kernel
theorem dX9_orders_12 : decode cX9_orders 12 = .ok (.putfield 98, 3) := by decide +kernel
theorem dX9_orders_15 : decode cX9_orders 15 = .ok (.aload_n 0, 1) := by decide +kernel
theorem dX9_orders_16 : decode cX9_orders 16 = .ok (.aload_n 0, 1) := by decide +kernel
theorem dX9_orders_17 : decode cX9_orders 17 = .ok (.getfield 64, 3) := by decide +kernel
theorem dX9_orders_20 : decode cX9_orders 20 = .ok (.aload_n 0, 1) := by decide +kernel
theorem dX9_orders_21 : decode cX9_orders 21 = .ok (.getfield 84, 3) := by decide +kernel
theorem dX9_orders_24 : decode cX9_orders 24 = .ok (.iload_n 1, 1) := by decide +kernel
theorem dX9_orders_25 : decode cX9_orders 25 = .ok (.iconst 1, 1) := by decide +kernel
theorem dX9_orders_26 : decode cX9_orders 26 = .ok (.aload_n 0, 1) := by decide +kernel
theorem dX9_orders_27 : decode cX9_orders 27 = .ok (.getfield 73, 3) := by decide +kernel
theorem dX9_orders_30 : decode cX9_orders 30 = .ok (.invokevirtual 186, 3) := by decide +kernel
theorem dX9_orders_33 : decode cX9_orders 33 = .ok (.putfield 92, 3) := by decide +kernel
theorem dX9_orders_36 : decode cX9_orders 36 = .ok (.aload_n 0, 1) := by decide +kernel
theorem dX9_orders_37 : decode cX9_orders 37 = .ok (.getfield 92, 3) := by decide +kernel
theorem dX9_orders_40 : decode cX9_orders 40 = .ok (.iconst (-1), 1) := by decide +kernel
theorem dX9_orders_41 : decode cX9_orders 41 = .ok (.if_icmp .eq 10, 3) := by decide +kernel
theorem dX9_orders_44 : decode cX9_orders 44 = .ok (.aload_n 0, 1) := by decide +kernel
theorem dX9_orders_45 : decode cX9_orders 45 = .ok (.bipush (-6), 2) := by decide +kernel
theorem dX9_orders_47 : decode cX9_orders 47 = .ok (.invokevirtual 118, 3) := by decide +kernel
theorem dX9_orders_50 : decode cX9_orders 50 = .ok (.ireturn, 1) := by decide +kernel
theorem dX9_fault_0 : decode cX9_fault 0 = .ok (.aload_n 0, 1) := by decide +kernel
theorem dX9_fault_1 : decode cX9_fault 1 = .ok (.getfield 92, 3) := by decide +kernel
theorem dX9_fault_4 : decode cX9_fault 4 = .ok (.ireturn, 1) := by decide +kernel
theorem dX9_stopped_0 : decode cX9_stopped 0 = .ok (.aload_n 0, 1) := by decide +kernel
theorem dX9_stopped_1 : decode cX9_stopped 1 = .ok (.getfield 98, 3) := by decide +kernel
theorem dX9_stopped_4 : decode cX9_stopped 4 = .ok (.ireturn, 1) := by decide +kernel
set_option maxRecDepth 20000 in
theorem ggJ0_length_8abf5_J0_coder_7d493 : GoodIn wsJ0_length_8abf5 wsJ0_coder_7d493 := goodIn_r _ [6, 7, 8] rfl (by decide +kernel)
set_option maxRecDepth 20000 in
theorem gJ0_length_8abf5_J0_coder_7d493 : GoodIn wsJ0_length_8abf5 (wsV RJ0 335 RJ0 yJ0_coder_7d493 wsJ0_coder_7d493) := goodIn_app (goodIn_of _ (by decide +kernel)) ggJ0_length_8abf5_J0_coder_7d493
theorem dJ0_length_8abf5_0 : decode cJ0_length_8abf5 0 = .ok (.aload_n 0, 1) := by decide +kernel
theorem dJ0_length_8abf5_1 : decode cJ0_length_8abf5 1 = .ok (.getfield 9, 3) := by decide +kernel
theorem dJ0_length_8abf5_4 : decode cJ0_length_8abf5 4 = .ok (.arraylength, 1) := by decide +kernel
theorem dJ0_length_8abf5_5 : decode cJ0_length_8abf5 5 = .ok (.aload_n 0, 1) := by decide +kernel
theorem dJ0_length_8abf5_6 : decode cJ0_length_8abf5 6 = .ok (.invokevirtual 335, 3) := by decide +kernel
theorem dJ0_length_8abf5_9 : decode cJ0_length_8abf5 9 = .ok (.ishr, 1) := by decide +kernel
theorem dJ0_length_8abf5_10 : decode cJ0_length_8abf5 10 = .ok (.ireturn, 1) := by decide +kernel
theorem dJ0_coder_7d493_0 : decode cJ0_coder_7d493 0 = .ok (.getstatic 38, 3) := by decide +kernel
theorem dJ0_coder_7d493_3 : decode cJ0_coder_7d493 3 = .ok (.ifCond .eq 10, 3) := by decide +kernel
theorem dJ0_coder_7d493_6 : decode cJ0_coder_7d493 6 = .ok (.aload_n 0, 1) := by decide +kernel
theorem dJ0_coder_7d493_7 : decode cJ0_coder_7d493 7 = .ok (.getfield 15, 3) := by decide +kernel
theorem dJ0_coder_7d493_10 : decode cJ0_coder_7d493 10 = .ok (.goto 4, 3) := by decide +kernel
theorem dJ0_coder_7d493_14 : decode cJ0_coder_7d493 14 = .ok (.ireturn, 1) := by decide +kernel
theorem dJ0_isLatin1_aae02_0 : decode cJ0_isLatin1_aae02 0 = .ok (.getstatic 38, 3) := by decide +kernel
theorem dJ0_isLatin1_aae02_3 : decode cJ0_isLatin1_aae02 3 = .ok (.ifCond .eq 14, 3) := by decide +kernel
theorem dJ0_isLatin1_aae02_6 : decode cJ0_isLatin1_aae02 6 = .ok (.aload_n 0, 1) := by decide +kernel
theorem dJ0_isLatin1_aae02_7 : decode cJ0_isLatin1_aae02 7 = .ok (.getfield 15, 3) := by decide +kernel
theorem dJ0_isLatin1_aae02_10 : decode cJ0_isLatin1_aae02 10 = .ok (.ifCond .ne 7, 3) := by decide +kernel
theorem dJ0_isLatin1_aae02_13 : decode cJ0_isLatin1_aae02 13 = .ok (.iconst 1, 1) := by decide +kernel
theorem dJ0_isLatin1_aae02_14 : decode cJ0_isLatin1_aae02 14 = .ok (.goto 4, 3) := by decide +kernel
theorem dJ0_isLatin1_aae02_18 : decode cJ0_isLatin1_aae02 18 = .ok (.ireturn, 1) := by decide +kernel
