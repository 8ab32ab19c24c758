theorem da9_dX0_backToMark_0 : (decode cX0_backToMark 0 = .ok (.aload_n 0, 1)) ∧ (decode cX0_backToMark 1 = .ok (.getfield 23, 3)) ∧ (decode cX0_backToMark 4 = .ok (.iconst 0, 1)) ∧ (decode cX0_backToMark 5 = .ok (.aload_n 0, 1)) ∧ (decode cX0_backToMark 6 = .ok (.getfield 9, 3)) ∧ (decode cX0_backToMark 9 = .ok (.iconst 0, 1)) ∧ (decode cX0_backToMark 10 = .ok (.bipush 16, 2)) ∧ (decode cX0_backToMark 12 = .ok (.invokestatic 32, 3)) ∧ (decode cX0_backToMark 15 = .ok (.aload_n 0, 1)) ∧ (decode cX0_backToMark 16 = .ok (.getfield 26, 3)) ∧ (decode cX0_backToMark 19 = .ok (.iconst 0, 1)) ∧ (decode cX0_backToMark 20 = .ok (.aload_n 0, 1)) ∧ (decode cX0_backToMark 21 = .ok (.getfield 15, 3)) ∧ (decode cX0_backToMark 24 = .ok (.iconst 0, 1)) ∧ (decode cX0_backToMark 25 = .ok (.bipush 16, 2)) ∧ (decode cX0_backToMark 27 = .ok (.invokestatic 32, 3)) := by decide +kernel
theorem dX0_backToMark_0 : decode cX0_backToMark 0 = .ok (.aload_n 0, 1) := da9_dX0_backToMark_0.1
theorem dX0_backToMark_1 : decode cX0_backToMark 1 = .ok (.getfield 23, 3) := da9_dX0_backToMark_0.2.1
theorem dX0_backToMark_4 : decode cX0_backToMark 4 = .ok (.iconst 0, 1) := da9_dX0_backToMark_0.2.2.1
theorem dX0_backToMark_5 : decode cX0_backToMark 5 = .ok (.aload_n 0, 1) := da9_dX0_backToMark_0.2.2.2.1
theorem dX0_backToMark_6 : decode cX0_backToMark 6 = .ok (.getfield 9, 3) := da9_dX0_backToMark_0.2.2.2.2.1
theorem dX0_backToMark_9 : decode cX0_backToMark 9 = .ok (.iconst 0, 1) := da9_dX0_backToMark_0.2.2.2.2.2.1
theorem dX0_backToMark_10 : decode cX0_backToMark 10 = .ok (.bipush 16, 2) := da9_dX0_backToMark_0.2.2.2.2.2.2.1
theorem dX0_backToMark_12 : decode cX0_backToMark 12 = .ok (.invokestatic 32, 3) := da9_dX0_backToMark_0.2.2.2.2.2.2.2.1
theorem dX0_backToMark_15 : decode cX0_backToMark 15 = .ok (.aload_n 0, 1) := da9_dX0_backToMark_0.2.2.2.2.2.2.2.2.1
theorem dX0_backToMark_16 : decode cX0_backToMark 16 = .ok (.getfield 26, 3) := da9_dX0_backToMark_0.2.2.2.2.2.2.2.2.2.1
theorem dX0_backToMark_19 : decode cX0_backToMark 19 = .ok (.iconst 0, 1) := da9_dX0_backToMark_0.2.2.2.2.2.2.2.2.2.2.1
theorem dX0_backToMark_20 : decode cX0_backToMark 20 = .ok (.aload_n 0, 1) := da9_dX0_backToMark_0.2.2.2.2.2.2.2.2.2.2.2.1
theorem dX0_backToMark_21 : decode cX0_backToMark 21 = .ok (.getfield 15, 3) := da9_dX0_backToMark_0.2.2.2.2.2.2.2.2.2.2.2.2.1
theorem dX0_backToMark_24 : decode cX0_backToMark 24 = .ok (.iconst 0, 1) := da9_dX0_backToMark_0.2.2.2.2.2.2.2.2.2.2.2.2.2.1
theorem dX0_backToMark_25 : decode cX0_backToMark 25 = .ok (.bipush 16, 2) := da9_dX0_backToMark_0.2.2.2.2.2.2.2.2.2.2.2.2.2.2.1
theorem dX0_backToMark_27 : decode cX0_backToMark 27 = .ok (.invokestatic 32, 3) := da9_dX0_backToMark_0.2.2.2.2.2.2.2.2.2.2.2.2.2.2.2
theorem da9_dX0_backToMark_30 : (decode cX0_backToMark 30 = .ok (.aload_n 0, 1)) ∧ (decode cX0_backToMark 31 = .ok (.aload_n 0, 1)) ∧ (decode cX0_backToMark 32 = .ok (.getfield 29, 3)) ∧ (decode cX0_backToMark 35 = .ok (.putfield 19, 3)) ∧ (decode cX0_backToMark 38 = .ok (.return_, 1)) := by decide +kernel
theorem dX0_backToMark_30 : decode cX0_backToMark 30 = .ok (.aload_n 0, 1) := da9_dX0_backToMark_30.1
theorem dX0_backToMark_31 : decode cX0_backToMark 31 = .ok (.aload_n 0, 1) := da9_dX0_backToMark_30.2.1
theorem dX0_backToMark_32 : decode cX0_backToMark 32 = .ok (.getfield 29, 3) := da9_dX0_backToMark_30.2.2.1
theorem dX0_backToMark_35 : decode cX0_backToMark 35 = .ok (.putfield 19, 3) := da9_dX0_backToMark_30.2.2.2.1
theorem dX0_backToMark_38 : decode cX0_backToMark 38 = .ok (.return_, 1) := da9_dX0_backToMark_30.2.2.2.2
set_option maxRecDepth 20000 in
theorem ggX5_run_X8_pack : GoodIn wsX5_run wsX8_pack := goodIn_r _ [9, 10, 11, 12, 13, 14, 178, 179, 180, 181, 182] rfl (by decide +kernel)
set_option maxRecDepth 20000 in
theorem gX5_run_X8_pack : GoodIn wsX5_run (wsV RX5 26 RX8 yX8_pack wsX8_pack) := goodIn_app (goodIn_of _ (by decide +kernel)) ggX5_run_X8_pack
set_option maxRecDepth 20000 in
theorem ggX5_run_X0_mark : GoodIn wsX5_run wsX0_mark := goodIn_r _ [19, 20, 21, 22, 23, 24, 25, 26, 27, 28, 29, 183, 184, 185, 186, 187, 188] rfl (by decide +kernel)
set_option maxRecDepth 20000 in
theorem gX5_run_X0_mark : GoodIn wsX5_run (wsV RX5 32 RX0 yX0_mark wsX0_mark) := goodIn_app (goodIn_of _ (by decide +kernel)) ggX5_run_X0_mark
set_option maxRecDepth 20000 in
theorem ggX5_run_X5_setWords : GoodIn wsX5_run wsX5_setWords := goodIn_r _ [34, 4, 1, 2, 35, 36, 37, 8, 38, 10, 11, 39, 40, 41, 42, 43, 44, 45, 46, 47, 48, 49, 50, 51, 52, 53, 54, 55, 56, 12, 57, 58, 59, 60, 61, 62, 164, 165, 166, 167, 178, 179, 180, 181, 182] rfl (by decide +kernel)
set_option maxRecDepth 20000 in
theorem gX5_run_X5_setWords : GoodIn wsX5_run (wsV RX5 45 RX5 yX5_setWords wsX5_setWords) := goodIn_app (goodIn_of _ (by decide +kernel)) ggX5_run_X5_setWords
set_option maxRecDepth 20000 in
theorem ggX5_run_X2_valueOf : GoodIn wsX5_run wsX2_valueOf := goodIn_r _ [67, 68, 69, 70, 40, 41, 42, 71, 72, 73, 66, 74, 75, 76, 176, 177, 168, 169, 170, 171, 172, 173, 174, 175] rfl (by decide +kernel)
set_option maxRecDepth 20000 in
theorem gX5_run_X2_valueOf : GoodIn wsX5_run (wsV RX5 55 RX2 yX2_valueOf wsX2_valueOf) := goodIn_app (goodIn_of _ (by decide +kernel)) ggX5_run_X2_valueOf
set_option maxRecDepth 20000 in
theorem ggX5_run_X8_act : GoodIn wsX5_run wsX8_act := goodIn_r _ [80, 81, 82, 83, 8, 84, 10, 12, 13, 39, 40, 41, 42, 85, 86, 87, 88, 89, 90, 91, 92, 93, 94, 95, 96, 97, 98, 99, 54, 55, 56, 11, 57, 58, 59, 60, 61, 51, 62, 100, 101, 102, 103, 104, 105, 106, 107, 108, 109, 110, 64, 65, 66, 67, 68, 69, 70, 71, 72, 73, 74, 75, 76, 111, 112, 113, 114, 115, 116, 117, 118, 119, 120, 44, 45, 121, 122, 123, 124, 125, 126, 127, 128, 129, 130, 131, 132, 133, 134, 135, 136, 14, 137, 138, 139, 140, 141, 50, 52, 142, 143, 144, 145, 146, 147, 148, 178, 179, 180, 181, 182, 189, 190, 191, 168, 169, 170, 171, 172, 173, 174, 175, 176, 177] rfl (by decide +kernel)
set_option maxRecDepth 20000 in
theorem gX5_run_X8_act : GoodIn wsX5_run (wsV RX5 71 RX8 yX8_act wsX8_act) := goodIn_app (goodIn_of _ (by decide +kernel)) ggX5_run_X8_act
set_option maxRecDepth 20000 in
theorem ggX5_run_X8_unpack : GoodIn wsX5_run wsX8_unpack := goodIn_r _ [152, 153, 14, 154, 13, 12, 11, 155, 39, 40, 41, 42, 10, 178, 179, 180, 181, 182] rfl (by decide +kernel)
set_option maxRecDepth 20000 in
theorem gX5_run_X8_unpack : GoodIn wsX5_run (wsV RX5 75 RX8 yX8_unpack wsX8_unpack) := goodIn_app (goodIn_of _ (by decide +kernel)) ggX5_run_X8_unpack
set_option maxRecDepth 20000 in
theorem ggX5_run_X0_backToMark : GoodIn wsX5_run wsX0_backToMark := goodIn_r _ [159, 21, 20, 22, 23, 24, 25, 27, 26, 29, 28, 183, 184, 185, 186, 187, 188] rfl (by decide +kernel)
set_option maxRecDepth 20000 in
theorem gX5_run_X0_backToMark : GoodIn wsX5_run (wsV RX5 79 RX0 yX0_backToMark wsX0_backToMark) := goodIn_app (goodIn_of _ (by decide +kernel)) ggX5_run_X0_backToMark
set_option maxRecDepth 20000 in
theorem ggX5_run_X0_keep : GoodIn wsX5_run wsX0_keep := goodIn_r _ [163, 28, 20, 22, 23, 24, 25, 26, 183, 184, 185, 186, 187, 188] rfl (by decide +kernel)
set_option maxRecDepth 20000 in
theorem gX5_run_X0_keep : GoodIn wsX5_run (wsV RX5 82 RX0 yX0_keep wsX0_keep) := goodIn_app (goodIn_of _ (by decide +kernel)) ggX5_run_X0_keep
theorem da9_dX5_run_0 : (decode cX5_run 0 = .ok (.aload_n 2, 1)) ∧ (decode cX5_run 1 = .ok (.invokevirtual 26, 3)) ∧ (decode cX5_run 4 = .ok (.lstore 5, 2)) ∧ (decode cX5_run 6 = .ok (.aload 4, 2)) ∧ (decode cX5_run 8 = .ok (.invokevirtual 32, 3)) ∧ (decode cX5_run 11 = .ok (.aload_n 0, 1)) ∧ (decode cX5_run 12 = .ok (.iconst 0, 1)) ∧ (decode cX5_run 13 = .ok (.putfield 15, 3)) ∧ (decode cX5_run 16 = .ok (.aload_n 0, 1)) ∧ (decode cX5_run 17 = .ok (.iconst (-1), 1)) ∧ (decode cX5_run 18 = .ok (.putfield 19, 3)) ∧ (decode cX5_run 21 = .ok (.iconst 0, 1)) ∧ (decode cX5_run 22 = .ok (.istore 7, 2)) ∧ (decode cX5_run 24 = .ok (.iload 7, 2)) ∧ (decode cX5_run 26 = .ok (.aload_n 1, 1)) ∧ (decode cX5_run 27 = .ok (.getfield 37, 3)) := by decide +kernel
theorem dX5_run_0 : decode cX5_run 0 = .ok (.aload_n 2, 1) := da9_dX5_run_0.1
theorem dX5_run_1 : decode cX5_run 1 = .ok (.invokevirtual 26, 3) := da9_dX5_run_0.2.1
theorem dX5_run_4 : decode cX5_run 4 = .ok (.lstore 5, 2) := da9_dX5_run_0.2.2.1
theorem dX5_run_6 : decode cX5_run 6 = .ok (.aload 4, 2) := da9_dX5_run_0.2.2.2.1
theorem dX5_run_8 : decode cX5_run 8 = .ok (.invokevirtual 32, 3) := da9_dX5_run_0.2.2.2.2.1
theorem dX5_run_11 : decode cX5_run 11 = .ok (.aload_n 0, 1) := da9_dX5_run_0.2.2.2.2.2.1
theorem dX5_run_12 : decode cX5_run 12 = .ok (.iconst 0, 1) := da9_dX5_run_0.2.2.2.2.2.2.1
theorem dX5_run_13 : decode cX5_run 13 = .ok (.putfield 15, 3) := da9_dX5_run_0.2.2.2.2.2.2.2.1
theorem dX5_run_16 : decode cX5_run 16 = .ok (.aload_n 0, 1) := da9_dX5_run_0.2.2.2.2.2.2.2.2.1
theorem dX5_run_17 : decode cX5_run 17 = .ok (.iconst (-1), 1) := da9_dX5_run_0.2.2.2.2.2.2.2.2.2.1
theorem dX5_run_18 : decode cX5_run 18 = .ok (.putfield 19, 3) := da9_dX5_run_0.2.2.2.2.2.2.2.2.2.2.1
theorem dX5_run_21 : decode cX5_run 21 = .ok (.iconst 0, 1) := da9_dX5_run_0.2.2.2.2.2.2.2.2.2.2.2.1
theorem dX5_run_22 : decode cX5_run 22 = .ok (.istore 7, 2) := da9_dX5_run_0.2.2.2.2.2.2.2.2.2.2.2.2.1
theorem dX5_run_24 : decode cX5_run 24 = .ok (.iload 7, 2) := da9_dX5_run_0.2.2.2.2.2.2.2.2.2.2.2.2.2.1
theorem dX5_run_26 : decode cX5_run 26 = .ok (.aload_n 1, 1) := da9_dX5_run_0.2.2.2.2.2.2.2.2.2.2.2.2.2.2.1
theorem dX5_run_27 : decode cX5_run 27 = .ok (.getfield 37, 3) := da9_dX5_run_0.2.2.2.2.2.2.2.2.2.2.2.2.2.2.2
theorem da9_dX5_run_30 : (decode cX5_run 30 = .ok (.if_icmp .ge 190, 3)) ∧ (decode cX5_run 33 = .ok (.iconst 0, 1)) ∧ (decode cX5_run 34 = .ok (.istore 8, 2)) ∧ (decode cX5_run 36 = .ok (.iload 8, 2)) ∧ (decode cX5_run 38 = .ok (.aload_n 1, 1)) ∧ (decode cX5_run 39 = .ok (.getfield 42, 3)) ∧ (decode cX5_run 42 = .ok (.iload 7, 2)) ∧ (decode cX5_run 44 = .ok (.iaload, 1)) ∧ (decode cX5_run 45 = .ok (.if_icmp .ge 169, 3)) ∧ (decode cX5_run 48 = .ok (.aload_n 0, 1)) ∧ (decode cX5_run 49 = .ok (.aload_n 2, 1)) ∧ (decode cX5_run 50 = .ok (.invokevirtual 45, 3)) ∧ (decode cX5_run 53 = .ok (.aload_n 0, 1)) ∧ (decode cX5_run 54 = .ok (.getfield 22, 3)) ∧ (decode cX5_run 57 = .ok (.aload_n 1, 1)) ∧ (decode cX5_run 58 = .ok (.aload_n 1, 1)) := by decide +kernel
theorem dX5_run_30 : decode cX5_run 30 = .ok (.if_icmp .ge 190, 3) := da9_dX5_run_30.1
theorem dX5_run_33 : decode cX5_run 33 = .ok (.iconst 0, 1) := da9_dX5_run_30.2.1
theorem dX5_run_34 : decode cX5_run 34 = .ok (.istore 8, 2) := da9_dX5_run_30.2.2.1
theorem dX5_run_36 : decode cX5_run 36 = .ok (.iload 8, 2) := da9_dX5_run_30.2.2.2.1
theorem dX5_run_38 : decode cX5_run 38 = .ok (.aload_n 1, 1) := da9_dX5_run_30.2.2.2.2.1
theorem dX5_run_39 : decode cX5_run 39 = .ok (.getfield 42, 3) := da9_dX5_run_30.2.2.2.2.2.1
theorem dX5_run_42 : decode cX5_run 42 = .ok (.iload 7, 2) := da9_dX5_run_30.2.2.2.2.2.2.1
theorem dX5_run_44 : decode cX5_run 44 = .ok (.iaload, 1) := da9_dX5_run_30.2.2.2.2.2.2.2.1
theorem dX5_run_45 : decode cX5_run 45 = .ok (.if_icmp .ge 169, 3) := da9_dX5_run_30.2.2.2.2.2.2.2.2.1
theorem dX5_run_48 : decode cX5_run 48 = .ok (.aload_n 0, 1) := da9_dX5_run_30.2.2.2.2.2.2.2.2.2.1
theorem dX5_run_49 : decode cX5_run 49 = .ok (.aload_n 2, 1) := da9_dX5_run_30.2.2.2.2.2.2.2.2.2.2.1
theorem dX5_run_50 : decode cX5_run 50 = .ok (.invokevirtual 45, 3) := da9_dX5_run_30.2.2.2.2.2.2.2.2.2.2.2.1
theorem dX5_run_53 : decode cX5_run 53 = .ok (.aload_n 0, 1) := da9_dX5_run_30.2.2.2.2.2.2.2.2.2.2.2.2.1
theorem dX5_run_54 : decode cX5_run 54 = .ok (.getfield 22, 3) := da9_dX5_run_30.2.2.2.2.2.2.2.2.2.2.2.2.2.1
theorem dX5_run_57 : decode cX5_run 57 = .ok (.aload_n 1, 1) := da9_dX5_run_30.2.2.2.2.2.2.2.2.2.2.2.2.2.2.1
theorem dX5_run_58 : decode cX5_run 58 = .ok (.aload_n 1, 1) := da9_dX5_run_30.2.2.2.2.2.2.2.2.2.2.2.2.2.2.2
theorem da9_dX5_run_59 : (decode cX5_run 59 = .ok (.getfield 49, 3)) ∧ (decode cX5_run 62 = .ok (.iload 7, 2)) ∧ (decode cX5_run 64 = .ok (.iaload, 1)) ∧ (decode cX5_run 65 = .ok (.aload_n 1, 1)) ∧ (decode cX5_run 66 = .ok (.getfield 52, 3)) ∧ (decode cX5_run 69 = .ok (.iload 7, 2)) ∧ (decode cX5_run 71 = .ok (.iaload, 1)) ∧ (decode cX5_run 72 = .ok (.aload_n 0, 1)) ∧ (decode cX5_run 73 = .ok (.getfield 11, 3)) ∧ (decode cX5_run 76 = .ok (.invokevirtual 55, 3)) ∧ (decode cX5_run 79 = .ok (.iconst 1, 1)) ∧ (decode cX5_run 80 = .ok (.if_icmp .ne 128, 3)) ∧ (decode cX5_run 83 = .ok (.aload_n 2, 1)) ∧ (decode cX5_run 84 = .ok (.invokevirtual 26, 3)) ∧ (decode cX5_run 87 = .ok (.lstore 9, 2)) ∧ (decode cX5_run 89 = .ok (.aload_n 1, 1)) := by decide +kernel
theorem dX5_run_59 : decode cX5_run 59 = .ok (.getfield 49, 3) := da9_dX5_run_59.1
theorem dX5_run_62 : decode cX5_run 62 = .ok (.iload 7, 2) := da9_dX5_run_59.2.1
theorem dX5_run_64 : decode cX5_run 64 = .ok (.iaload, 1) := da9_dX5_run_59.2.2.1
theorem dX5_run_65 : decode cX5_run 65 = .ok (.aload_n 1, 1) := da9_dX5_run_59.2.2.2.1
theorem dX5_run_66 : decode cX5_run 66 = .ok (.getfield 52, 3) := da9_dX5_run_59.2.2.2.2.1
theorem dX5_run_69 : decode cX5_run 69 = .ok (.iload 7, 2) := da9_dX5_run_59.2.2.2.2.2.1
theorem dX5_run_71 : decode cX5_run 71 = .ok (.iaload, 1) := da9_dX5_run_59.2.2.2.2.2.2.1
theorem dX5_run_72 : decode cX5_run 72 = .ok (.aload_n 0, 1) := da9_dX5_run_59.2.2.2.2.2.2.2.1
theorem dX5_run_73 : decode cX5_run 73 = .ok (.getfield 11, 3) := da9_dX5_run_59.2.2.2.2.2.2.2.2.1
theorem dX5_run_76 : decode cX5_run 76 = .ok (.invokevirtual 55, 3) := da9_dX5_run_59.2.2.2.2.2.2.2.2.2.1
theorem dX5_run_79 : decode cX5_run 79 = .ok (.iconst 1, 1) := da9_dX5_run_59.2.2.2.2.2.2.2.2.2.2.1
theorem dX5_run_80 : decode cX5_run 80 = .ok (.if_icmp .ne 128, 3) := da9_dX5_run_59.2.2.2.2.2.2.2.2.2.2.2.1
theorem dX5_run_83 : decode cX5_run 83 = .ok (.aload_n 2, 1) := da9_dX5_run_59.2.2.2.2.2.2.2.2.2.2.2.2.1
theorem dX5_run_84 : decode cX5_run 84 = .ok (.invokevirtual 26, 3) := da9_dX5_run_59.2.2.2.2.2.2.2.2.2.2.2.2.2.1
theorem dX5_run_87 : decode cX5_run 87 = .ok (.lstore 9, 2) := da9_dX5_run_59.2.2.2.2.2.2.2.2.2.2.2.2.2.2.1
theorem dX5_run_89 : decode cX5_run 89 = .ok (.aload_n 1, 1) := da9_dX5_run_59.2.2.2.2.2.2.2.2.2.2.2.2.2.2.2
theorem da9_dX5_run_90 : (decode cX5_run 90 = .ok (.getfield 61, 3)) ∧ (decode cX5_run 93 = .ok (.iload 7, 2)) ∧ (decode cX5_run 95 = .ok (.iaload, 1)) ∧ (decode cX5_run 96 = .ok (.istore 11, 2)) ∧ (decode cX5_run 98 = .ok (.aload_n 0, 1)) ∧ (decode cX5_run 99 = .ok (.getfield 22, 3)) ∧ (decode cX5_run 102 = .ok (.aload_n 1, 1)) ∧ (decode cX5_run 103 = .ok (.aload_n 1, 1)) ∧ (decode cX5_run 104 = .ok (.getfield 64, 3)) ∧ (decode cX5_run 107 = .ok (.iload 7, 2)) ∧ (decode cX5_run 109 = .ok (.iaload, 1)) ∧ (decode cX5_run 110 = .ok (.aload_n 1, 1)) ∧ (decode cX5_run 111 = .ok (.getfield 49, 3)) ∧ (decode cX5_run 114 = .ok (.iload 7, 2)) ∧ (decode cX5_run 116 = .ok (.iaload, 1)) ∧ (decode cX5_run 117 = .ok (.aload_n 0, 1)) := by decide +kernel
theorem dX5_run_90 : decode cX5_run 90 = .ok (.getfield 61, 3) := da9_dX5_run_90.1
theorem dX5_run_93 : decode cX5_run 93 = .ok (.iload 7, 2) := da9_dX5_run_90.2.1
theorem dX5_run_95 : decode cX5_run 95 = .ok (.iaload, 1) := da9_dX5_run_90.2.2.1
theorem dX5_run_96 : decode cX5_run 96 = .ok (.istore 11, 2) := da9_dX5_run_90.2.2.2.1
theorem dX5_run_98 : decode cX5_run 98 = .ok (.aload_n 0, 1) := da9_dX5_run_90.2.2.2.2.1
theorem dX5_run_99 : decode cX5_run 99 = .ok (.getfield 22, 3) := da9_dX5_run_90.2.2.2.2.2.1
theorem dX5_run_102 : decode cX5_run 102 = .ok (.aload_n 1, 1) := da9_dX5_run_90.2.2.2.2.2.2.1
theorem dX5_run_103 : decode cX5_run 103 = .ok (.aload_n 1, 1) := da9_dX5_run_90.2.2.2.2.2.2.2.1
theorem dX5_run_104 : decode cX5_run 104 = .ok (.getfield 64, 3) := da9_dX5_run_90.2.2.2.2.2.2.2.2.1
theorem dX5_run_107 : decode cX5_run 107 = .ok (.iload 7, 2) := da9_dX5_run_90.2.2.2.2.2.2.2.2.2.1
theorem dX5_run_109 : decode cX5_run 109 = .ok (.iaload, 1) := da9_dX5_run_90.2.2.2.2.2.2.2.2.2.2.1
theorem dX5_run_110 : decode cX5_run 110 = .ok (.aload_n 1, 1) := da9_dX5_run_90.2.2.2.2.2.2.2.2.2.2.2.1
theorem dX5_run_111 : decode cX5_run 111 = .ok (.getfield 49, 3) := da9_dX5_run_90.2.2.2.2.2.2.2.2.2.2.2.2.1
theorem dX5_run_114 : decode cX5_run 114 = .ok (.iload 7, 2) := da9_dX5_run_90.2.2.2.2.2.2.2.2.2.2.2.2.2.1
theorem dX5_run_116 : decode cX5_run 116 = .ok (.iaload, 1) := da9_dX5_run_90.2.2.2.2.2.2.2.2.2.2.2.2.2.2.1
theorem dX5_run_117 : decode cX5_run 117 = .ok (.aload_n 0, 1) := da9_dX5_run_90.2.2.2.2.2.2.2.2.2.2.2.2.2.2.2
theorem da9_dX5_run_118 : (decode cX5_run 118 = .ok (.getfield 11, 3)) ∧ (decode cX5_run 121 = .ok (.invokevirtual 55, 3)) ∧ (decode cX5_run 124 = .ok (.istore 12, 2)) ∧ (decode cX5_run 126 = .ok (.aload_n 0, 1)) ∧ (decode cX5_run 127 = .ok (.getfield 22, 3)) ∧ (decode cX5_run 130 = .ok (.getfield 67, 3)) ∧ (decode cX5_run 133 = .ok (.ifCond .eq 8, 3)) ∧ (decode cX5_run 136 = .ok (.bipush (-3), 2)) ∧ (decode cX5_run 138 = .ok (.goto 12, 3)) ∧ (decode cX5_run 141 = .ok (.aload_n 2, 1)) ∧ (decode cX5_run 142 = .ok (.iload 11, 2)) ∧ (decode cX5_run 144 = .ok (.iload 12, 2)) ∧ (decode cX5_run 146 = .ok (.aload_n 3, 1)) ∧ (decode cX5_run 147 = .ok (.invokevirtual 71, 3)) ∧ (decode cX5_run 150 = .ok (.istore 13, 2)) ∧ (decode cX5_run 152 = .ok (.iload 13, 2)) := by decide +kernel
theorem dX5_run_118 : decode cX5_run 118 = .ok (.getfield 11, 3) := da9_dX5_run_118.1
theorem dX5_run_121 : decode cX5_run 121 = .ok (.invokevirtual 55, 3) := da9_dX5_run_118.2.1
theorem dX5_run_124 : decode cX5_run 124 = .ok (.istore 12, 2) := da9_dX5_run_118.2.2.1
theorem dX5_run_126 : decode cX5_run 126 = .ok (.aload_n 0, 1) := da9_dX5_run_118.2.2.2.1
theorem dX5_run_127 : decode cX5_run 127 = .ok (.getfield 22, 3) := da9_dX5_run_118.2.2.2.2.1
theorem dX5_run_130 : decode cX5_run 130 = .ok (.getfield 67, 3) := da9_dX5_run_118.2.2.2.2.2.1
theorem dX5_run_133 : decode cX5_run 133 = .ok (.ifCond .eq 8, 3) := da9_dX5_run_118.2.2.2.2.2.2.1
theorem dX5_run_136 : decode cX5_run 136 = .ok (.bipush (-3), 2) := da9_dX5_run_118.2.2.2.2.2.2.2.1
theorem dX5_run_138 : decode cX5_run 138 = .ok (.goto 12, 3) := da9_dX5_run_118.2.2.2.2.2.2.2.2.1
theorem dX5_run_141 : decode cX5_run 141 = .ok (.aload_n 2, 1) := da9_dX5_run_118.2.2.2.2.2.2.2.2.2.1
theorem dX5_run_142 : decode cX5_run 142 = .ok (.iload 11, 2) := da9_dX5_run_118.2.2.2.2.2.2.2.2.2.2.1
theorem dX5_run_144 : decode cX5_run 144 = .ok (.iload 12, 2) := da9_dX5_run_118.2.2.2.2.2.2.2.2.2.2.2.1
theorem dX5_run_146 : decode cX5_run 146 = .ok (.aload_n 3, 1) := da9_dX5_run_118.2.2.2.2.2.2.2.2.2.2.2.2.1
theorem dX5_run_147 : decode cX5_run 147 = .ok (.invokevirtual 71, 3) := da9_dX5_run_118.2.2.2.2.2.2.2.2.2.2.2.2.2.1
theorem dX5_run_150 : decode cX5_run 150 = .ok (.istore 13, 2) := da9_dX5_run_118.2.2.2.2.2.2.2.2.2.2.2.2.2.2.1
theorem dX5_run_152 : decode cX5_run 152 = .ok (.iload 13, 2) := da9_dX5_run_118.2.2.2.2.2.2.2.2.2.2.2.2.2.2.2
theorem da9_dX5_run_154 : (decode cX5_run 154 = .ok (.ifCond .ge 17, 3)) ∧ (decode cX5_run 157 = .ok (.aload_n 2, 1)) ∧ (decode cX5_run 158 = .ok (.lload 5, 2)) ∧ (decode cX5_run 160 = .ok (.invokevirtual 75, 3)) ∧ (decode cX5_run 163 = .ok (.aload 4, 2)) ∧ (decode cX5_run 165 = .ok (.invokevirtual 79, 3)) ∧ (decode cX5_run 168 = .ok (.iload 7, 2)) ∧ (decode cX5_run 170 = .ok (.ireturn, 1)) ∧ (decode cX5_run 171 = .ok (.aload 4, 2)) ∧ (decode cX5_run 173 = .ok (.iload 11, 2)) ∧ (decode cX5_run 175 = .ok (.lload 9, 2)) ∧ (decode cX5_run 177 = .ok (.invokevirtual 82, 3)) ∧ (decode cX5_run 180 = .ok (.aload_n 0, 1)) ∧ (decode cX5_run 181 = .ok (.dup, 1)) ∧ (decode cX5_run 182 = .ok (.getfield 15, 3)) ∧ (decode cX5_run 185 = .ok (.iconst 1, 1)) := by decide +kernel
theorem dX5_run_154 : decode cX5_run 154 = .ok (.ifCond .ge 17, 3) := da9_dX5_run_154.1
theorem dX5_run_157 : decode cX5_run 157 = .ok (.aload_n 2, 1) := da9_dX5_run_154.2.1
theorem dX5_run_158 : decode cX5_run 158 = .ok (.lload 5, 2) := da9_dX5_run_154.2.2.1
theorem dX5_run_160 : decode cX5_run 160 = .ok (.invokevirtual 75, 3) := da9_dX5_run_154.2.2.2.1
theorem dX5_run_163 : decode cX5_run 163 = .ok (.aload 4, 2) := da9_dX5_run_154.2.2.2.2.1
theorem dX5_run_165 : decode cX5_run 165 = .ok (.invokevirtual 79, 3) := da9_dX5_run_154.2.2.2.2.2.1
theorem dX5_run_168 : decode cX5_run 168 = .ok (.iload 7, 2) := da9_dX5_run_154.2.2.2.2.2.2.1
theorem dX5_run_170 : decode cX5_run 170 = .ok (.ireturn, 1) := da9_dX5_run_154.2.2.2.2.2.2.2.1
theorem dX5_run_171 : decode cX5_run 171 = .ok (.aload 4, 2) := da9_dX5_run_154.2.2.2.2.2.2.2.2.1
theorem dX5_run_173 : decode cX5_run 173 = .ok (.iload 11, 2) := da9_dX5_run_154.2.2.2.2.2.2.2.2.2.1
theorem dX5_run_175 : decode cX5_run 175 = .ok (.lload 9, 2) := da9_dX5_run_154.2.2.2.2.2.2.2.2.2.2.1
theorem dX5_run_177 : decode cX5_run 177 = .ok (.invokevirtual 82, 3) := da9_dX5_run_154.2.2.2.2.2.2.2.2.2.2.2.1
theorem dX5_run_180 : decode cX5_run 180 = .ok (.aload_n 0, 1) := da9_dX5_run_154.2.2.2.2.2.2.2.2.2.2.2.2.1
theorem dX5_run_181 : decode cX5_run 181 = .ok (.dup, 1) := da9_dX5_run_154.2.2.2.2.2.2.2.2.2.2.2.2.2.1
theorem dX5_run_182 : decode cX5_run 182 = .ok (.getfield 15, 3) := da9_dX5_run_154.2.2.2.2.2.2.2.2.2.2.2.2.2.2.1
theorem dX5_run_185 : decode cX5_run 185 = .ok (.iconst 1, 1) := da9_dX5_run_154.2.2.2.2.2.2.2.2.2.2.2.2.2.2.2
theorem da9_dX5_run_186 : (decode cX5_run 186 = .ok (.iadd, 1)) ∧ (decode cX5_run 187 = .ok (.putfield 15, 3)) ∧ (decode cX5_run 190 = .ok (.aload_n 0, 1)) ∧ (decode cX5_run 191 = .ok (.iload 11, 2)) ∧ (decode cX5_run 193 = .ok (.ifCond .ne 8, 3)) ∧ (decode cX5_run 196 = .ok (.iload 13, 2)) ∧ (decode cX5_run 198 = .ok (.goto 7, 3)) ∧ (decode cX5_run 201 = .ok (.aload_n 0, 1)) ∧ (decode cX5_run 202 = .ok (.getfield 19, 3)) ∧ (decode cX5_run 205 = .ok (.putfield 19, 3)) ∧ (decode cX5_run 208 = .ok (.iinc 8 1, 3)) ∧ (decode cX5_run 211 = .ok (.goto (-175), 3)) ∧ (decode cX5_run 214 = .ok (.iinc 7 1, 3)) ∧ (decode cX5_run 217 = .ok (.goto (-193), 3)) ∧ (decode cX5_run 220 = .ok (.iconst (-1), 1)) ∧ (decode cX5_run 221 = .ok (.ireturn, 1)) := by decide +kernel
theorem dX5_run_186 : decode cX5_run 186 = .ok (.iadd, 1) := da9_dX5_run_186.1
theorem dX5_run_187 : decode cX5_run 187 = .ok (.putfield 15, 3) := da9_dX5_run_186.2.1
theorem dX5_run_190 : decode cX5_run 190 = .ok (.aload_n 0, 1) := da9_dX5_run_186.2.2.1
theorem dX5_run_191 : decode cX5_run 191 = .ok (.iload 11, 2) := da9_dX5_run_186.2.2.2.1
theorem dX5_run_193 : decode cX5_run 193 = .ok (.ifCond .ne 8, 3) := da9_dX5_run_186.2.2.2.2.1
theorem dX5_run_196 : decode cX5_run 196 = .ok (.iload 13, 2) := da9_dX5_run_186.2.2.2.2.2.1
theorem dX5_run_198 : decode cX5_run 198 = .ok (.goto 7, 3) := da9_dX5_run_186.2.2.2.2.2.2.1
theorem dX5_run_201 : decode cX5_run 201 = .ok (.aload_n 0, 1) := da9_dX5_run_186.2.2.2.2.2.2.2.1
theorem dX5_run_202 : decode cX5_run 202 = .ok (.getfield 19, 3) := da9_dX5_run_186.2.2.2.2.2.2.2.2.1
theorem dX5_run_205 : decode cX5_run 205 = .ok (.putfield 19, 3) := da9_dX5_run_186.2.2.2.2.2.2.2.2.2.1
theorem dX5_run_208 : decode cX5_run 208 = .ok (.iinc 8 1, 3) := da9_dX5_run_186.2.2.2.2.2.2.2.2.2.2.1
theorem dX5_run_211 : decode cX5_run 211 = .ok (.goto (-175), 3) := da9_dX5_run_186.2.2.2.2.2.2.2.2.2.2.2.1
theorem dX5_run_214 : decode cX5_run 214 = .ok (.iinc 7 1, 3) := da9_dX5_run_186.2.2.2.2.2.2.2.2.2.2.2.2.1
theorem dX5_run_217 : decode cX5_run 217 = .ok (.goto (-193), 3) := da9_dX5_run_186.2.2.2.2.2.2.2.2.2.2.2.2.2.1
theorem dX5_run_220 : decode cX5_run 220 = .ok (.iconst (-1), 1) := da9_dX5_run_186.2.2.2.2.2.2.2.2.2.2.2.2.2.2.1
theorem dX5_run_221 : decode cX5_run 221 = .ok (.ireturn, 1) := da9_dX5_run_186.2.2.2.2.2.2.2.2.2.2.2.2.2.2.2
set_option maxRecDepth 20000 in
theorem ggX9_orders_X4_read : GoodIn wsX9_orders wsX4_read := goodIn_r _ [14, 15, 16, 17, 18, 19, 20, 21, 22, 23, 24, 25, 26, 27, 28, 29, 30, 31, 32, 33, 34, 35, 36, 37, 13, 38, 39, 40, 41, 42, 43, 44, 45, 46, 47, 48, 49, 50, 51, 52, 53, 54, 55, 56, 57, 58, 59, 60, 61, 62, 63, 64, 65, 66, 67, 68, 69, 70, 71, 72, 73, 74, 75, 76, 77, 78, 79, 80, 81, 82, 83, 84, 85, 86, 87, 88, 89, 90, 91, 92, 93, 94, 95, 96, 97, 98, 99, 100, 101, 102, 103, 104, 105, 106, 107, 108, 109, 110, 111, 112, 113, 114, 115, 116, 117, 118, 119, 120, 121, 122, 123, 124, 125, 126, 127, 128, 129, 130, 131, 132, 133, 134, 135, 136, 137, 138, 139, 140, 141, 142, 143, 144, 145, 146, 147, 148, 149, 150, 151, 152, 153, 154, 155, 156, 157, 158, 159, 160, 161, 162, 163, 164, 165, 166, 167, 168, 169, 170, 171, 172, 173, 174, 175, 176, 177, 178, 179, 180, 181, 182, 183, 184, 185, 186, 187, 188, 189, 190, 418, 419, 420, 421, 422, 423, 424, 425, 426, 427, 428, 429, 430, 431, 432, 433, 434, 435, 436] rfl (by decide +kernel)
set_option maxRecDepth 20000 in
theorem gX9_orders_X4_read : GoodIn wsX9_orders (wsV RX9 186 RX4 yX4_read wsX4_read) := goodIn_app (goodIn_of _ (by decide +kernel)) ggX9_orders_X4_read
set_option maxRecDepth 20000 in
theorem ggX9_orders_X9_refuse : GoodIn wsX9_orders wsX9_refuse := goodIn_r _ [195, 196, 197, 385, 386, 387, 388, 389, 390, 391, 392, 393, 394, 395, 396, 397, 398, 399, 400, 401, 402, 403] rfl (by decide +kernel)
set_option maxRecDepth 20000 in
theorem gX9_orders_X9_refuse : GoodIn wsX9_orders (wsV RX9 118 RX9 yX9_refuse wsX9_refuse) := goodIn_app (goodIn_of _ (by decide +kernel)) ggX9_orders_X9_refuse
set_option maxRecDepth 20000 in
theorem ggX9_orders_X9_seated : GoodIn wsX9_orders wsX9_seated := goodIn_r _ [201, 202, 8, 203, 204, 205, 206, 207, 208, 209, 210, 211, 212, 213, 214, 215, 216, 217, 218, 219, 220, 385, 386, 387, 388, 389, 390, 391, 392, 393, 394, 395, 396, 397, 398, 399, 400, 401, 402, 403, 404, 405, 406, 407, 408, 409, 410, 411, 412, 413, 437, 438, 439] rfl (by decide +kernel)
set_option maxRecDepth 20000 in
theorem gX9_orders_X9_seated : GoodIn wsX9_orders (wsV RX9 144 RX9 yX9_seated wsX9_seated) := goodIn_app (goodIn_of _ (by decide +kernel)) ggX9_orders_X9_seated
set_option maxRecDepth 20000 in
theorem ggX9_orders_X5_run : GoodIn wsX9_orders wsX5_run := goodIn_r _ [225, 226, 227, 228, 229, 230, 231, 232, 233, 234, 235, 236, 237, 238, 239, 240, 241, 242, 243, 244, 245, 246, 247, 248, 249, 250, 251, 252, 253, 254, 255, 256, 257, 224, 258, 259, 260, 261, 262, 263, 17, 18, 19, 264, 265, 266, 267, 268, 269, 270, 271, 194, 272, 273, 274, 275, 276, 277, 278, 279, 280, 281, 282, 283, 284, 285, 286, 287, 288, 289, 290, 291, 292, 293, 294, 295, 296, 297, 298, 299, 300, 301, 302, 303, 304, 305, 306, 307, 217, 308, 309, 310, 311, 312, 313, 314, 315, 316, 220, 317, 318, 319, 320, 321, 322, 323, 324, 325, 219, 326, 327, 328, 329, 330, 331, 332, 333, 334, 335, 336, 337, 338, 339, 340, 341, 342, 343, 344, 345, 346, 347, 348, 349, 350, 351, 352, 353, 354, 355, 356, 357, 358, 359, 360, 361, 362, 363, 364, 365, 366, 367, 368, 369, 370, 371, 372, 373, 374, 375, 376, 377, 378, 379, 380, 414, 415, 416, 417, 429, 430, 431, 432, 433, 434, 435, 436, 440, 441, 442, 443, 444, 445, 446, 447, 448, 449, 450, 451, 452, 437, 438, 439] rfl (by decide +kernel)
set_option maxRecDepth 20000 in
theorem gX9_orders_X5_run : GoodIn wsX9_orders (wsV RX9 198 RX5 yX5_run wsX5_run) := goodIn_app (goodIn_of _ (by decide +kernel)) ggX9_orders_X5_run
set_option maxRecDepth 20000 in
theorem ggX9_orders_X9_accept : GoodIn wsX9_orders wsX9_accept := goodIn_r _ [384, 196, 385, 386, 387, 388, 389, 390, 391, 392, 393, 394, 395, 396, 397, 398, 399, 400, 401, 402, 403] rfl (by decide +kernel)
set_option maxRecDepth 20000 in
theorem gX9_orders_X9_accept : GoodIn wsX9_orders (wsV RX9 138 RX9 yX9_accept wsX9_accept) := goodIn_app (goodIn_of _ (by decide +kernel)) ggX9_orders_X9_accept
theorem da9_dX9_orders_0 : (decode cX9_orders 0 = .ok (.aload_n 0, 1)) ∧ (decode cX9_orders 1 = .ok (.getfield 88, 3)) ∧ (decode cX9_orders 4 = .ok (.istore_n 1, 1)) ∧ (decode cX9_orders 5 = .ok (.aload_n 0, 1)) ∧ (decode cX9_orders 6 = .ok (.iconst 0, 1)) ∧ (decode cX9_orders 7 = .ok (.putfield 88, 3)) ∧ (decode cX9_orders 10 = .ok (.aload_n 0, 1)) ∧ (decode cX9_orders 11 = .ok (.iconst (-1), 1)) ∧ (decode cX9_orders 12 = .ok (.putfield 98, 3)) ∧ (decode cX9_orders 15 = .ok (.aload_n 0, 1)) ∧ (decode cX9_orders 16 = .ok (.aload_n 0, 1)) ∧ (decode cX9_orders 17 = .ok (.getfield 64, 3)) ∧ (decode cX9_orders 20 = .ok (.aload_n 0, 1)) ∧ (decode cX9_orders 21 = .ok (.getfield 84, 3)) ∧ (decode cX9_orders 24 = .ok (.iload_n 1, 1)) ∧ (decode cX9_orders 25 = .ok (.iconst 1, 1)) := by decide +kernel
theorem dX9_orders_0 : decode cX9_orders 0 = .ok (.aload_n 0, 1) := da9_dX9_orders_0.1
theorem dX9_orders_1 : decode cX9_orders 1 = .ok (.getfield 88, 3) := da9_dX9_orders_0.2.1
theorem dX9_orders_4 : decode cX9_orders 4 = .ok (.istore_n 1, 1) := da9_dX9_orders_0.2.2.1
theorem dX9_orders_5 : decode cX9_orders 5 = .ok (.aload_n 0, 1) := da9_dX9_orders_0.2.2.2.1
theorem dX9_orders_6 : decode cX9_orders 6 = .ok (.iconst 0, 1) := da9_dX9_orders_0.2.2.2.2.1
theorem dX9_orders_7 : decode cX9_orders 7 = .ok (.putfield 88, 3) := da9_dX9_orders_0.2.2.2.2.2.1
theorem dX9_orders_10 : decode cX9_orders 10 = .ok (.aload_n 0, 1) := da9_dX9_orders_0.2.2.2.2.2.2.1
theorem dX9_orders_11 : decode cX9_orders 11 = .ok (.iconst (-1), 1) := da9_dX9_orders_0.2.2.2.2.2.2.2.1
theorem dX9_orders_12 : decode cX9_orders 12 = .ok (.putfield 98, 3) := da9_dX9_orders_0.2.2.2.2.2.2.2.2.1
theorem dX9_orders_15 : decode cX9_orders 15 = .ok (.aload_n 0, 1) := da9_dX9_orders_0.2.2.2.2.2.2.2.2.2.1
theorem dX9_orders_16 : decode cX9_orders 16 = .ok (.aload_n 0, 1) := da9_dX9_orders_0.2.2.2.2.2.2.2.2.2.2.1
theorem dX9_orders_17 : decode cX9_orders 17 = .ok (.getfield 64, 3) := da9_dX9_orders_0.2.2.2.2.2.2.2.2.2.2.2.1
theorem dX9_orders_20 : decode cX9_orders 20 = .ok (.aload_n 0, 1) := da9_dX9_orders_0.2.2.2.2.2.2.2.2.2.2.2.2.1
theorem dX9_orders_21 : decode cX9_orders 21 = .ok (.getfield 84, 3) := da9_dX9_orders_0.2.2.2.2.2.2.2.2.2.2.2.2.2.1
theorem dX9_orders_24 : decode cX9_orders 24 = .ok (.iload_n 1, 1) := da9_dX9_orders_0.2.2.2.2.2.2.2.2.2.2.2.2.2.2.1
theorem dX9_orders_25 : decode cX9_orders 25 = .ok (.iconst 1, 1) := da9_dX9_orders_0.2.2.2.2.2.2.2.2.2.2.2.2.2.2.2
theorem da9_dX9_orders_26 : (decode cX9_orders 26 = .ok (.aload_n 0, 1)) ∧ (decode cX9_orders 27 = .ok (.getfield 73, 3)) ∧ (decode cX9_orders 30 = .ok (.invokevirtual 186, 3)) ∧ (decode cX9_orders 33 = .ok (.putfield 92, 3)) ∧ (decode cX9_orders 36 = .ok (.aload_n 0, 1)) ∧ (decode cX9_orders 37 = .ok (.getfield 92, 3)) ∧ (decode cX9_orders 40 = .ok (.iconst (-1), 1)) ∧ (decode cX9_orders 41 = .ok (.if_icmp .eq 10, 3)) ∧ (decode cX9_orders 44 = .ok (.aload_n 0, 1)) ∧ (decode cX9_orders 45 = .ok (.bipush (-6), 2)) ∧ (decode cX9_orders 47 = .ok (.invokevirtual 118, 3)) ∧ (decode cX9_orders 50 = .ok (.ireturn, 1)) ∧ (decode cX9_orders 51 = .ok (.aload_n 0, 1)) ∧ (decode cX9_orders 52 = .ok (.aload_n 0, 1)) ∧ (decode cX9_orders 53 = .ok (.getfield 57, 3)) ∧ (decode cX9_orders 56 = .ok (.aload_n 0, 1)) := by decide +kernel
theorem dX9_orders_26 : decode cX9_orders 26 = .ok (.aload_n 0, 1) := da9_dX9_orders_26.1
theorem dX9_orders_27 : decode cX9_orders 27 = .ok (.getfield 73, 3) := da9_dX9_orders_26.2.1
theorem dX9_orders_30 : decode cX9_orders 30 = .ok (.invokevirtual 186, 3) := da9_dX9_orders_26.2.2.1
theorem dX9_orders_33 : decode cX9_orders 33 = .ok (.putfield 92, 3) := da9_dX9_orders_26.2.2.2.1
theorem dX9_orders_36 : decode cX9_orders 36 = .ok (.aload_n 0, 1) := da9_dX9_orders_26.2.2.2.2.1
theorem dX9_orders_37 : decode cX9_orders 37 = .ok (.getfield 92, 3) := da9_dX9_orders_26.2.2.2.2.2.1
theorem dX9_orders_40 : decode cX9_orders 40 = .ok (.iconst (-1), 1) := da9_dX9_orders_26.2.2.2.2.2.2.1
theorem dX9_orders_41 : decode cX9_orders 41 = .ok (.if_icmp .eq 10, 3) := da9_dX9_orders_26.2.2.2.2.2.2.2.1
theorem dX9_orders_44 : decode cX9_orders 44 = .ok (.aload_n 0, 1) := da9_dX9_orders_26.2.2.2.2.2.2.2.2.1
theorem dX9_orders_45 : decode cX9_orders 45 = .ok (.bipush (-6), 2) := da9_dX9_orders_26.2.2.2.2.2.2.2.2.2.1
theorem dX9_orders_47 : decode cX9_orders 47 = .ok (.invokevirtual 118, 3) := da9_dX9_orders_26.2.2.2.2.2.2.2.2.2.2.1
theorem dX9_orders_50 : decode cX9_orders 50 = .ok (.ireturn, 1) := da9_dX9_orders_26.2.2.2.2.2.2.2.2.2.2.2.1
theorem dX9_orders_51 : decode cX9_orders 51 = .ok (.aload_n 0, 1) := da9_dX9_orders_26.2.2.2.2.2.2.2.2.2.2.2.2.1
theorem dX9_orders_52 : decode cX9_orders 52 = .ok (.aload_n 0, 1) := da9_dX9_orders_26.2.2.2.2.2.2.2.2.2.2.2.2.2.1
theorem dX9_orders_53 : decode cX9_orders 53 = .ok (.getfield 57, 3) := da9_dX9_orders_26.2.2.2.2.2.2.2.2.2.2.2.2.2.2.1
theorem dX9_orders_56 : decode cX9_orders 56 = .ok (.aload_n 0, 1) := da9_dX9_orders_26.2.2.2.2.2.2.2.2.2.2.2.2.2.2.2
theorem da9_dX9_orders_57 : (decode cX9_orders 57 = .ok (.getfield 73, 3)) ∧ (decode cX9_orders 60 = .ok (.aload_n 0, 1)) ∧ (decode cX9_orders 61 = .ok (.getfield 10, 3)) ∧ (decode cX9_orders 64 = .ok (.getfield 122, 3)) ∧ (decode cX9_orders 67 = .ok (.aload_n 0, 1)) ∧ (decode cX9_orders 68 = .ok (.invokevirtual 144, 3)) ∧ (decode cX9_orders 71 = .ok (.aload_n 0, 1)) ∧ (decode cX9_orders 72 = .ok (.getfield 27, 3)) ∧ (decode cX9_orders 75 = .ok (.invokevirtual 198, 3)) ∧ (decode cX9_orders 78 = .ok (.putfield 98, 3)) ∧ (decode cX9_orders 81 = .ok (.aload_n 0, 1)) ∧ (decode cX9_orders 82 = .ok (.getfield 98, 3)) ∧ (decode cX9_orders 85 = .ok (.iconst (-1), 1)) ∧ (decode cX9_orders 86 = .ok (.if_icmp .ne 17, 3)) ∧ (decode cX9_orders 89 = .ok (.aload_n 0, 1)) ∧ (decode cX9_orders 90 = .ok (.aload_n 0, 1)) := by decide +kernel
theorem dX9_orders_57 : decode cX9_orders 57 = .ok (.getfield 73, 3) := da9_dX9_orders_57.1
theorem dX9_orders_60 : decode cX9_orders 60 = .ok (.aload_n 0, 1) := da9_dX9_orders_57.2.1
theorem dX9_orders_61 : decode cX9_orders 61 = .ok (.getfield 10, 3) := da9_dX9_orders_57.2.2.1
theorem dX9_orders_64 : decode cX9_orders 64 = .ok (.getfield 122, 3) := da9_dX9_orders_57.2.2.2.1
theorem dX9_orders_67 : decode cX9_orders 67 = .ok (.aload_n 0, 1) := da9_dX9_orders_57.2.2.2.2.1
theorem dX9_orders_68 : decode cX9_orders 68 = .ok (.invokevirtual 144, 3) := da9_dX9_orders_57.2.2.2.2.2.1
theorem dX9_orders_71 : decode cX9_orders 71 = .ok (.aload_n 0, 1) := da9_dX9_orders_57.2.2.2.2.2.2.1
theorem dX9_orders_72 : decode cX9_orders 72 = .ok (.getfield 27, 3) := da9_dX9_orders_57.2.2.2.2.2.2.2.1
theorem dX9_orders_75 : decode cX9_orders 75 = .ok (.invokevirtual 198, 3) := da9_dX9_orders_57.2.2.2.2.2.2.2.2.1
theorem dX9_orders_78 : decode cX9_orders 78 = .ok (.putfield 98, 3) := da9_dX9_orders_57.2.2.2.2.2.2.2.2.2.1
theorem dX9_orders_81 : decode cX9_orders 81 = .ok (.aload_n 0, 1) := da9_dX9_orders_57.2.2.2.2.2.2.2.2.2.2.1
theorem dX9_orders_82 : decode cX9_orders 82 = .ok (.getfield 98, 3) := da9_dX9_orders_57.2.2.2.2.2.2.2.2.2.2.2.1
theorem dX9_orders_85 : decode cX9_orders 85 = .ok (.iconst (-1), 1) := da9_dX9_orders_57.2.2.2.2.2.2.2.2.2.2.2.2.1
theorem dX9_orders_86 : decode cX9_orders 86 = .ok (.if_icmp .ne 17, 3) := da9_dX9_orders_57.2.2.2.2.2.2.2.2.2.2.2.2.2.1
theorem dX9_orders_89 : decode cX9_orders 89 = .ok (.aload_n 0, 1) := da9_dX9_orders_57.2.2.2.2.2.2.2.2.2.2.2.2.2.2.1
theorem dX9_orders_90 : decode cX9_orders 90 = .ok (.aload_n 0, 1) := da9_dX9_orders_57.2.2.2.2.2.2.2.2.2.2.2.2.2.2.2
theorem da9_dX9_orders_91 : (decode cX9_orders 91 = .ok (.getfield 57, 3)) ∧ (decode cX9_orders 94 = .ok (.getfield 202, 3)) ∧ (decode cX9_orders 97 = .ok (.invokevirtual 138, 3)) ∧ (decode cX9_orders 100 = .ok (.goto 9, 3)) ∧ (decode cX9_orders 103 = .ok (.aload_n 0, 1)) ∧ (decode cX9_orders 104 = .ok (.bipush (-3), 2)) ∧ (decode cX9_orders 106 = .ok (.invokevirtual 118, 3)) ∧ (decode cX9_orders 109 = .ok (.ireturn, 1)) := by decide +kernel
theorem dX9_orders_91 : decode cX9_orders 91 = .ok (.getfield 57, 3) := da9_dX9_orders_91.1
theorem dX9_orders_94 : decode cX9_orders 94 = .ok (.getfield 202, 3) := da9_dX9_orders_91.2.1
theorem dX9_orders_97 : decode cX9_orders 97 = .ok (.invokevirtual 138, 3) := da9_dX9_orders_91.2.2.1
theorem dX9_orders_100 : decode cX9_orders 100 = .ok (.goto 9, 3) := da9_dX9_orders_91.2.2.2.1
theorem dX9_orders_103 : decode cX9_orders 103 = .ok (.aload_n 0, 1) := da9_dX9_orders_91.2.2.2.2.1
theorem dX9_orders_104 : decode cX9_orders 104 = .ok (.bipush (-3), 2) := da9_dX9_orders_91.2.2.2.2.2.1
theorem dX9_orders_106 : decode cX9_orders 106 = .ok (.invokevirtual 118, 3) := da9_dX9_orders_91.2.2.2.2.2.2.1
theorem dX9_orders_109 : decode cX9_orders 109 = .ok (.ireturn, 1) := da9_dX9_orders_91.2.2.2.2.2.2.2
theorem da9_dX9_fault_0 : (decode cX9_fault 0 = .ok (.aload_n 0, 1)) ∧ (decode cX9_fault 1 = .ok (.getfield 92, 3)) ∧ (decode cX9_fault 4 = .ok (.ireturn, 1)) := by decide +kernel
theorem dX9_fault_0 : decode cX9_fault 0 = .ok (.aload_n 0, 1) := da9_dX9_fault_0.1
theorem dX9_fault_1 : decode cX9_fault 1 = .ok (.getfield 92, 3) := da9_dX9_fault_0.2.1
theorem dX9_fault_4 : decode cX9_fault 4 = .ok (.ireturn, 1) := da9_dX9_fault_0.2.2
theorem da9_dX9_stopped_0 : (decode cX9_stopped 0 = .ok (.aload_n 0, 1)) ∧ (decode cX9_stopped 1 = .ok (.getfield 98, 3)) ∧ (decode cX9_stopped 4 = .ok (.ireturn, 1)) := by decide +kernel
theorem dX9_stopped_0 : decode cX9_stopped 0 = .ok (.aload_n 0, 1) := da9_dX9_stopped_0.1
theorem dX9_stopped_1 : decode cX9_stopped 1 = .ok (.getfield 98, 3) := da9_dX9_stopped_0.2.1
theorem dX9_stopped_4 : decode cX9_stopped 4 = .ok (.ireturn, 1) := da9_dX9_stopped_0.2.2
set_option maxRecDepth 20000 in
theorem ggX9_force_X6_isLaw : GoodIn wsX9_force wsX6_isLaw := goodIn_r _ [6, 7, 38, 39, 40, 41, 42, 43, 44, 45, 46, 47] rfl (by decide +kernel)
set_option maxRecDepth 20000 in
theorem gX9_force_X6_isLaw : GoodIn wsX9_force (wsV RX9 205 RX6 yX6_isLaw wsX6_isLaw) := goodIn_app (goodIn_of _ (by decide +kernel)) ggX9_force_X6_isLaw
set_option maxRecDepth 20000 in
theorem ggX9_force_X9_refuse : GoodIn wsX9_force wsX9_refuse := goodIn_r _ [12, 13, 14, 19, 20, 21, 22, 23, 24, 25, 26, 27, 28, 29, 30, 31, 32, 33, 34, 35, 36, 37] rfl (by decide +kernel)
set_option maxRecDepth 20000 in
theorem gX9_force_X9_refuse : GoodIn wsX9_force (wsV RX9 118 RX9 yX9_refuse wsX9_refuse) := goodIn_app (goodIn_of _ (by decide +kernel)) ggX9_force_X9_refuse
set_option maxRecDepth 20000 in
theorem ggX9_force_X9_accept : GoodIn wsX9_force wsX9_accept := goodIn_r _ [18, 13, 19, 20, 21, 22, 23, 24, 25, 26, 27, 28, 29, 30, 31, 32, 33, 34, 35, 36, 37] rfl (by decide +kernel)
set_option maxRecDepth 20000 in
theorem gX9_force_X9_accept : GoodIn wsX9_force (wsV RX9 138 RX9 yX9_accept wsX9_accept) := goodIn_app (goodIn_of _ (by decide +kernel)) ggX9_force_X9_accept
theorem da9_dX9_force_0 : (decode cX9_force 0 = .ok (.iload_n 1, 1)) ∧ (decode cX9_force 1 = .ok (.iconst (-1), 1)) ∧ (decode cX9_force 2 = .ok (.if_icmp .eq 21, 3)) ∧ (decode cX9_force 5 = .ok (.aload_n 0, 1)) ∧ (decode cX9_force 6 = .ok (.getfield 10, 3)) ∧ (decode cX9_force 9 = .ok (.iload_n 1, 1)) ∧ (decode cX9_force 10 = .ok (.invokevirtual 205, 3)) ∧ (decode cX9_force 13 = .ok (.ifCond .ne 10, 3)) ∧ (decode cX9_force 16 = .ok (.aload_n 0, 1)) ∧ (decode cX9_force 17 = .ok (.bipush (-2), 2)) ∧ (decode cX9_force 19 = .ok (.invokevirtual 118, 3)) ∧ (decode cX9_force 22 = .ok (.ireturn, 1)) ∧ (decode cX9_force 23 = .ok (.aload_n 0, 1)) ∧ (decode cX9_force 24 = .ok (.getfield 10, 3)) ∧ (decode cX9_force 27 = .ok (.getfield 208, 3)) ∧ (decode cX9_force 30 = .ok (.istore_n 2, 1)) := by decide +kernel
theorem dX9_force_0 : decode cX9_force 0 = .ok (.iload_n 1, 1) := da9_dX9_force_0.1
theorem dX9_force_1 : decode cX9_force 1 = .ok (.iconst (-1), 1) := da9_dX9_force_0.2.1
theorem dX9_force_2 : decode cX9_force 2 = .ok (.if_icmp .eq 21, 3) := da9_dX9_force_0.2.2.1
theorem dX9_force_5 : decode cX9_force 5 = .ok (.aload_n 0, 1) := da9_dX9_force_0.2.2.2.1
theorem dX9_force_6 : decode cX9_force 6 = .ok (.getfield 10, 3) := da9_dX9_force_0.2.2.2.2.1
theorem dX9_force_9 : decode cX9_force 9 = .ok (.iload_n 1, 1) := da9_dX9_force_0.2.2.2.2.2.1
theorem dX9_force_10 : decode cX9_force 10 = .ok (.invokevirtual 205, 3) := da9_dX9_force_0.2.2.2.2.2.2.1
theorem dX9_force_13 : decode cX9_force 13 = .ok (.ifCond .ne 10, 3) := da9_dX9_force_0.2.2.2.2.2.2.2.1
theorem dX9_force_16 : decode cX9_force 16 = .ok (.aload_n 0, 1) := da9_dX9_force_0.2.2.2.2.2.2.2.2.1
theorem dX9_force_17 : decode cX9_force 17 = .ok (.bipush (-2), 2) := da9_dX9_force_0.2.2.2.2.2.2.2.2.2.1
theorem dX9_force_19 : decode cX9_force 19 = .ok (.invokevirtual 118, 3) := da9_dX9_force_0.2.2.2.2.2.2.2.2.2.2.1
theorem dX9_force_22 : decode cX9_force 22 = .ok (.ireturn, 1) := da9_dX9_force_0.2.2.2.2.2.2.2.2.2.2.2.1
theorem dX9_force_23 : decode cX9_force 23 = .ok (.aload_n 0, 1) := da9_dX9_force_0.2.2.2.2.2.2.2.2.2.2.2.2.1
theorem dX9_force_24 : decode cX9_force 24 = .ok (.getfield 10, 3) := da9_dX9_force_0.2.2.2.2.2.2.2.2.2.2.2.2.2.1
theorem dX9_force_27 : decode cX9_force 27 = .ok (.getfield 208, 3) := da9_dX9_force_0.2.2.2.2.2.2.2.2.2.2.2.2.2.2.1
theorem dX9_force_30 : decode cX9_force 30 = .ok (.istore_n 2, 1) := da9_dX9_force_0.2.2.2.2.2.2.2.2.2.2.2.2.2.2.2
theorem da9_dX9_force_31 : (decode cX9_force 31 = .ok (.aload_n 0, 1)) ∧ (decode cX9_force 32 = .ok (.getfield 10, 3)) ∧ (decode cX9_force 35 = .ok (.iload_n 1, 1)) ∧ (decode cX9_force 36 = .ok (.putfield 208, 3)) ∧ (decode cX9_force 39 = .ok (.aload_n 0, 1)) ∧ (decode cX9_force 40 = .ok (.iload_n 2, 1)) ∧ (decode cX9_force 41 = .ok (.invokevirtual 138, 3)) ∧ (decode cX9_force 44 = .ok (.ireturn, 1)) := by decide +kernel
theorem dX9_force_31 : decode cX9_force 31 = .ok (.aload_n 0, 1) := da9_dX9_force_31.1
theorem dX9_force_32 : decode cX9_force 32 = .ok (.getfield 10, 3) := da9_dX9_force_31.2.1
theorem dX9_force_35 : decode cX9_force 35 = .ok (.iload_n 1, 1) := da9_dX9_force_31.2.2.1
theorem dX9_force_36 : decode cX9_force 36 = .ok (.putfield 208, 3) := da9_dX9_force_31.2.2.2.1
theorem dX9_force_39 : decode cX9_force 39 = .ok (.aload_n 0, 1) := da9_dX9_force_31.2.2.2.2.1
theorem dX9_force_40 : decode cX9_force 40 = .ok (.iload_n 2, 1) := da9_dX9_force_31.2.2.2.2.2.1
theorem dX9_force_41 : decode cX9_force 41 = .ok (.invokevirtual 138, 3) := da9_dX9_force_31.2.2.2.2.2.2.1
theorem dX9_force_44 : decode cX9_force 44 = .ok (.ireturn, 1) := da9_dX9_force_31.2.2.2.2.2.2.2
set_option maxRecDepth 20000 in
theorem ggX9_turn_X9_move : GoodIn wsX9_turn wsX9_move := goodIn_r _ [5, 6, 7, 8, 9, 10, 11, 12, 13, 14, 15, 16, 17, 18, 19, 20, 4, 21, 22, 23, 24, 25, 26, 27, 28, 29, 30, 31, 32, 33, 34, 35, 36, 37, 38, 39, 40, 41, 42, 43, 44, 45, 46, 47, 48, 49, 50, 51, 52, 53, 54, 55, 56, 57, 58, 59, 60, 61, 62, 63, 64, 65, 66, 67, 68, 69, 70, 71, 72, 73, 74, 75, 76, 77, 78, 79, 80, 81, 82, 83, 84, 85, 86, 87, 88, 89, 90, 91, 92, 93, 94, 95, 96, 97, 98, 99, 100, 101, 102, 103, 104, 105, 106, 107, 108, 109, 110, 111, 112, 113, 114, 115, 116, 117, 118, 119, 120, 121, 122, 123, 124, 125, 126, 127, 128, 129, 130, 131, 132, 133, 134, 135, 136, 137, 138, 139, 140, 141, 142, 143, 144, 145, 146, 147, 148, 149, 150, 151, 152, 153, 154, 155, 156, 157, 158, 159, 160, 161, 162, 163, 164, 165, 166, 167, 168, 169, 170, 171, 172, 173, 174, 175, 176, 177, 178, 179, 180, 181, 182, 183, 184, 185, 186, 187, 188, 189, 190, 191, 192, 193, 194, 195, 196, 197, 198, 199, 200, 201, 202, 203, 204, 205, 206, 207, 208, 209, 210, 211, 212, 213, 214] rfl (by decide +kernel)
set_option maxRecDepth 20000 in
theorem gX9_turn_X9_move : GoodIn wsX9_turn (wsV RX9 211 RX9 yX9_move wsX9_move) := goodIn_app (goodIn_of _ (by decide +kernel)) ggX9_turn_X9_move
theorem da9_dX9_turn_0 : (decode cX9_turn 0 = .ok (.aload_n 0, 1)) ∧ (decode cX9_turn 1 = .ok (.iconst 0, 1)) ∧ (decode cX9_turn 2 = .ok (.iload_n 1, 1)) ∧ (decode cX9_turn 3 = .ok (.invokevirtual 211, 3)) ∧ (decode cX9_turn 6 = .ok (.ireturn, 1)) := by decide +kernel
theorem dX9_turn_0 : decode cX9_turn 0 = .ok (.aload_n 0, 1) := da9_dX9_turn_0.1
theorem dX9_turn_1 : decode cX9_turn 1 = .ok (.iconst 0, 1) := da9_dX9_turn_0.2.1
theorem dX9_turn_2 : decode cX9_turn 2 = .ok (.iload_n 1, 1) := da9_dX9_turn_0.2.2.1
theorem dX9_turn_3 : decode cX9_turn 3 = .ok (.invokevirtual 211, 3) := da9_dX9_turn_0.2.2.2.1
theorem dX9_turn_6 : decode cX9_turn 6 = .ok (.ireturn, 1) := da9_dX9_turn_0.2.2.2.2
set_option maxRecDepth 20000 in
theorem ggX9_right_X9_move : GoodIn wsX9_right wsX9_move := goodIn_r _ [5, 6, 7, 8, 9, 10, 11, 12, 13, 14, 15, 16, 17, 18, 19, 20, 4, 21, 22, 23, 24, 25, 26, 27, 28, 29, 30, 31, 32, 33, 34, 35, 36, 37, 38, 39, 40, 41, 42, 43, 44, 45, 46, 47, 48, 49, 50, 51, 52, 53, 54, 55, 56, 57, 58, 59, 60, 61, 62, 63, 64, 65, 66, 67, 68, 69, 70, 71, 72, 73, 74, 75, 76, 77, 78, 79, 80, 81, 82, 83, 84, 85, 86, 87, 88, 89, 90, 91, 92, 93, 94, 95, 96, 97, 98, 99, 100, 101, 102, 103, 104, 105, 106, 107, 108, 109, 110, 111, 112, 113, 114, 115, 116, 117, 118, 119, 120, 121, 122, 123, 124, 125, 126, 127, 128, 129, 130, 131, 132, 133, 134, 135, 136, 137, 138, 139, 140, 141, 142, 143, 144, 145, 146, 147, 148, 149, 150, 151, 152, 153, 154, 155, 156, 157, 158, 159, 160, 161, 162, 163, 164, 165, 166, 167, 168, 169, 170, 171, 172, 173, 174, 175, 176, 177, 178, 179, 180, 181, 182, 183, 184, 185, 186, 187, 188, 189, 190, 191, 192, 193, 194, 195, 196, 197, 198, 199, 200, 201, 202, 203, 204, 205, 206, 207, 208, 209, 210, 211, 212, 213, 214] rfl (by decide +kernel)
set_option maxRecDepth 20000 in
theorem gX9_right_X9_move : GoodIn wsX9_right (wsV RX9 211 RX9 yX9_move wsX9_move) := goodIn_app (goodIn_of _ (by decide +kernel)) ggX9_right_X9_move
theorem da9_dX9_right_0 : (decode cX9_right 0 = .ok (.aload_n 0, 1)) ∧ (decode cX9_right 1 = .ok (.iconst 1, 1)) ∧ (decode cX9_right 2 = .ok (.iload_n 1, 1)) ∧ (decode cX9_right 3 = .ok (.invokevirtual 211, 3)) ∧ (decode cX9_right 6 = .ok (.ireturn, 1)) := by decide +kernel
theorem dX9_right_0 : decode cX9_right 0 = .ok (.aload_n 0, 1) := da9_dX9_right_0.1
theorem dX9_right_1 : decode cX9_right 1 = .ok (.iconst 1, 1) := da9_dX9_right_0.2.1
theorem dX9_right_2 : decode cX9_right 2 = .ok (.iload_n 1, 1) := da9_dX9_right_0.2.2.1
theorem dX9_right_3 : decode cX9_right 3 = .ok (.invokevirtual 211, 3) := da9_dX9_right_0.2.2.2.1
theorem dX9_right_6 : decode cX9_right 6 = .ok (.ireturn, 1) := da9_dX9_right_0.2.2.2.2
set_option maxRecDepth 20000 in
theorem ggX9_swap_X9_move : GoodIn wsX9_swap wsX9_move := goodIn_r _ [5, 6, 7, 8, 9, 10, 11, 12, 13, 14, 15, 16, 17, 18, 19, 20, 4, 21, 22, 23, 24, 25, 26, 27, 28, 29, 30, 31, 32, 33, 34, 35, 36, 37, 38, 39, 40, 41, 42, 43, 44, 45, 46, 47, 48, 49, 50, 51, 52, 53, 54, 55, 56, 57, 58, 59, 60, 61, 62, 63, 64, 65, 66, 67, 68, 69, 70, 71, 72, 73, 74, 75, 76, 77, 78, 79, 80, 81, 82, 83, 84, 85, 86, 87, 88, 89, 90, 91, 92, 93, 94, 95, 96, 97, 98, 99, 100, 101, 102, 103, 104, 105, 106, 107, 108, 109, 110, 111, 112, 113, 114, 115, 116, 117, 118, 119, 120, 121, 122, 123, 124, 125, 126, 127, 128, 129, 130, 131, 132, 133, 134, 135, 136, 137, 138, 139, 140, 141, 142, 143, 144, 145, 146, 147, 148, 149, 150, 151, 152, 153, 154, 155, 156, 157, 158, 159, 160, 161, 162, 163, 164, 165, 166, 167, 168, 169, 170, 171, 172, 173, 174, 175, 176, 177, 178, 179, 180, 181, 182, 183, 184, 185, 186, 187, 188, 189, 190, 191, 192, 193, 194, 195, 196, 197, 198, 199, 200, 201, 202, 203, 204, 205, 206, 207, 208, 209, 210, 211, 212, 213, 214] rfl (by decide +kernel)
set_option maxRecDepth 20000 in
theorem gX9_swap_X9_move : GoodIn wsX9_swap (wsV RX9 211 RX9 yX9_move wsX9_move) := goodIn_app (goodIn_of _ (by decide +kernel)) ggX9_swap_X9_move
theorem da9_dX9_swap_0 : (decode cX9_swap 0 = .ok (.aload_n 0, 1)) ∧ (decode cX9_swap 1 = .ok (.iconst 2, 1)) ∧ (decode cX9_swap 2 = .ok (.iload_n 1, 1)) ∧ (decode cX9_swap 3 = .ok (.invokevirtual 211, 3)) ∧ (decode cX9_swap 6 = .ok (.ireturn, 1)) := by decide +kernel
theorem dX9_swap_0 : decode cX9_swap 0 = .ok (.aload_n 0, 1) := da9_dX9_swap_0.1
theorem dX9_swap_1 : decode cX9_swap 1 = .ok (.iconst 2, 1) := da9_dX9_swap_0.2.1
theorem dX9_swap_2 : decode cX9_swap 2 = .ok (.iload_n 1, 1) := da9_dX9_swap_0.2.2.1
theorem dX9_swap_3 : decode cX9_swap 3 = .ok (.invokevirtual 211, 3) := da9_dX9_swap_0.2.2.2.1
theorem dX9_swap_6 : decode cX9_swap 6 = .ok (.ireturn, 1) := da9_dX9_swap_0.2.2.2.2
set_option maxRecDepth 20000 in
theorem ggX9_move_X8_pack : GoodIn wsX9_move wsX8_pack := goodIn_r _ [7, 8, 9, 10, 11, 12, 187, 188, 189, 190, 191] rfl (by decide +kernel)
set_option maxRecDepth 20000 in
theorem gX9_move_X8_pack : GoodIn wsX9_move (wsV RX9 318 RX8 yX8_pack wsX8_pack) := goodIn_app (goodIn_of _ (by decide +kernel)) ggX9_move_X8_pack
set_option maxRecDepth 20000 in
theorem ggX9_move_X9_seated : GoodIn wsX9_move wsX9_seated := goodIn_r _ [17, 18, 1, 19, 20, 21, 22, 23, 24, 25, 26, 27, 28, 29, 30, 31, 32, 33, 34, 35, 36, 158, 159, 160, 161, 162, 163, 164, 165, 166, 167, 168, 169, 170, 171, 172, 173, 174, 175, 176, 177, 178, 179, 180, 181, 182, 183, 184, 185, 186, 192, 193, 194] rfl (by decide +kernel)
set_option maxRecDepth 20000 in
theorem gX9_move_X9_seated : GoodIn wsX9_move (wsV RX9 144 RX9 yX9_seated wsX9_seated) := goodIn_app (goodIn_of _ (by decide +kernel)) ggX9_move_X9_seated
set_option maxRecDepth 20000 in
theorem ggX9_move_X8_act : GoodIn wsX9_move wsX8_act := goodIn_r _ [40, 41, 42, 43, 6, 44, 8, 10, 11, 45, 46, 47, 48, 49, 50, 51, 33, 52, 53, 54, 55, 56, 57, 58, 59, 60, 36, 61, 62, 63, 64, 9, 65, 66, 67, 68, 69, 16, 70, 71, 72, 73, 74, 75, 76, 77, 78, 35, 79, 80, 81, 82, 83, 84, 85, 86, 87, 88, 89, 90, 91, 92, 93, 94, 95, 96, 97, 98, 99, 100, 101, 102, 103, 104, 105, 106, 107, 108, 109, 110, 111, 112, 113, 114, 115, 116, 117, 118, 119, 120, 121, 12, 122, 123, 124, 125, 126, 127, 128, 129, 130, 131, 132, 133, 134, 135, 187, 188, 189, 190, 191, 192, 193, 194, 195, 196, 197, 198, 199, 200, 201, 202, 203, 204] rfl (by decide +kernel)
set_option maxRecDepth 20000 in
theorem gX9_move_X8_act : GoodIn wsX9_move (wsV RX9 325 RX8 yX8_act wsX8_act) := goodIn_app (goodIn_of _ (by decide +kernel)) ggX9_move_X8_act
set_option maxRecDepth 20000 in
theorem ggX9_move_X9_refuse : GoodIn wsX9_move wsX9_refuse := goodIn_r _ [139, 140, 141, 158, 159, 160, 161, 162, 163, 164, 165, 166, 167, 168, 169, 170, 171, 172, 173, 174, 175, 176] rfl (by decide +kernel)
set_option maxRecDepth 20000 in
theorem gX9_move_X9_refuse : GoodIn wsX9_move (wsV RX9 118 RX9 yX9_refuse wsX9_refuse) := goodIn_app (goodIn_of _ (by decide +kernel)) ggX9_move_X9_refuse
set_option maxRecDepth 20000 in
theorem ggX9_move_X0_keep : GoodIn wsX9_move wsX0_keep := goodIn_r _ [146, 147, 148, 149, 150, 151, 152, 153, 205, 206, 207, 208, 209, 210] rfl (by decide +kernel)
set_option maxRecDepth 20000 in
theorem gX9_move_X0_keep : GoodIn wsX9_move (wsV RX9 342 RX0 yX0_keep wsX0_keep) := goodIn_app (goodIn_of _ (by decide +kernel)) ggX9_move_X0_keep
set_option maxRecDepth 20000 in
theorem ggX9_move_X9_accept : GoodIn wsX9_move wsX9_accept := goodIn_r _ [157, 140, 158, 159, 160, 161, 162, 163, 164, 165, 166, 167, 168, 169, 170, 171, 172, 173, 174, 175, 176] rfl (by decide +kernel)
set_option maxRecDepth 20000 in
theorem gX9_move_X9_accept : GoodIn wsX9_move (wsV RX9 138 RX9 yX9_accept wsX9_accept) := goodIn_app (goodIn_of _ (by decide +kernel)) ggX9_move_X9_accept
theorem da9_dX9_move_0 : (decode cX9_move 0 = .ok (.aload_n 0, 1)) ∧ (decode cX9_move 1 = .ok (.getfield 10, 3)) ∧ (decode cX9_move 4 = .ok (.getfield 122, 3)) ∧ (decode cX9_move 7 = .ok (.invokevirtual 318, 3)) ∧ (decode cX9_move 10 = .ok (.lstore_n 3, 1)) ∧ (decode cX9_move 11 = .ok (.aload_n 0, 1)) ∧ (decode cX9_move 12 = .ok (.getfield 10, 3)) ∧ (decode cX9_move 15 = .ok (.getfield 122, 3)) ∧ (decode cX9_move 18 = .ok (.iload_n 1, 1)) ∧ (decode cX9_move 19 = .ok (.iload_n 2, 1)) ∧ (decode cX9_move 20 = .ok (.aload_n 0, 1)) ∧ (decode cX9_move 21 = .ok (.invokevirtual 144, 3)) ∧ (decode cX9_move 24 = .ok (.invokevirtual 325, 3)) ∧ (decode cX9_move 27 = .ok (.istore 5, 2)) ∧ (decode cX9_move 29 = .ok (.iload 5, 2)) ∧ (decode cX9_move 31 = .ok (.ifCond .ge 10, 3)) := by decide +kernel
theorem dX9_move_0 : decode cX9_move 0 = .ok (.aload_n 0, 1) := da9_dX9_move_0.1
theorem dX9_move_1 : decode cX9_move 1 = .ok (.getfield 10, 3) := da9_dX9_move_0.2.1
theorem dX9_move_4 : decode cX9_move 4 = .ok (.getfield 122, 3) := da9_dX9_move_0.2.2.1
theorem dX9_move_7 : decode cX9_move 7 = .ok (.invokevirtual 318, 3) := da9_dX9_move_0.2.2.2.1
theorem dX9_move_10 : decode cX9_move 10 = .ok (.lstore_n 3, 1) := da9_dX9_move_0.2.2.2.2.1
theorem dX9_move_11 : decode cX9_move 11 = .ok (.aload_n 0, 1) := da9_dX9_move_0.2.2.2.2.2.1
theorem dX9_move_12 : decode cX9_move 12 = .ok (.getfield 10, 3) := da9_dX9_move_0.2.2.2.2.2.2.1
theorem dX9_move_15 : decode cX9_move 15 = .ok (.getfield 122, 3) := da9_dX9_move_0.2.2.2.2.2.2.2.1
theorem dX9_move_18 : decode cX9_move 18 = .ok (.iload_n 1, 1) := da9_dX9_move_0.2.2.2.2.2.2.2.2.1
theorem dX9_move_19 : decode cX9_move 19 = .ok (.iload_n 2, 1) := da9_dX9_move_0.2.2.2.2.2.2.2.2.2.1
theorem dX9_move_20 : decode cX9_move 20 = .ok (.aload_n 0, 1) := da9_dX9_move_0.2.2.2.2.2.2.2.2.2.2.1
theorem dX9_move_21 : decode cX9_move 21 = .ok (.invokevirtual 144, 3) := da9_dX9_move_0.2.2.2.2.2.2.2.2.2.2.2.1
theorem dX9_move_24 : decode cX9_move 24 = .ok (.invokevirtual 325, 3) := da9_dX9_move_0.2.2.2.2.2.2.2.2.2.2.2.2.1
theorem dX9_move_27 : decode cX9_move 27 = .ok (.istore 5, 2) := da9_dX9_move_0.2.2.2.2.2.2.2.2.2.2.2.2.2.1
theorem dX9_move_29 : decode cX9_move 29 = .ok (.iload 5, 2) := da9_dX9_move_0.2.2.2.2.2.2.2.2.2.2.2.2.2.2.1
theorem dX9_move_31 : decode cX9_move 31 = .ok (.ifCond .ge 10, 3) := da9_dX9_move_0.2.2.2.2.2.2.2.2.2.2.2.2.2.2.2
theorem da9_dX9_move_34 : (decode cX9_move 34 = .ok (.aload_n 0, 1)) ∧ (decode cX9_move 35 = .ok (.iload 5, 2)) ∧ (decode cX9_move 37 = .ok (.invokevirtual 118, 3)) ∧ (decode cX9_move 40 = .ok (.ireturn, 1)) ∧ (decode cX9_move 41 = .ok (.aload_n 0, 1)) ∧ (decode cX9_move 42 = .ok (.getfield 27, 3)) ∧ (decode cX9_move 45 = .ok (.iload_n 1, 1)) ∧ (decode cX9_move 46 = .ok (.lload_n 3, 1)) ∧ (decode cX9_move 47 = .ok (.invokevirtual 342, 3)) ∧ (decode cX9_move 50 = .ok (.aload_n 0, 1)) ∧ (decode cX9_move 51 = .ok (.iload 5, 2)) ∧ (decode cX9_move 53 = .ok (.invokevirtual 138, 3)) ∧ (decode cX9_move 56 = .ok (.ireturn, 1)) := by decide +kernel
theorem dX9_move_34 : decode cX9_move 34 = .ok (.aload_n 0, 1) := da9_dX9_move_34.1
theorem dX9_move_35 : decode cX9_move 35 = .ok (.iload 5, 2) := da9_dX9_move_34.2.1
theorem dX9_move_37 : decode cX9_move 37 = .ok (.invokevirtual 118, 3) := da9_dX9_move_34.2.2.1
theorem dX9_move_40 : decode cX9_move 40 = .ok (.ireturn, 1) := da9_dX9_move_34.2.2.2.1
theorem dX9_move_41 : decode cX9_move 41 = .ok (.aload_n 0, 1) := da9_dX9_move_34.2.2.2.2.1
theorem dX9_move_42 : decode cX9_move 42 = .ok (.getfield 27, 3) := da9_dX9_move_34.2.2.2.2.2.1
theorem dX9_move_45 : decode cX9_move 45 = .ok (.iload_n 1, 1) := da9_dX9_move_34.2.2.2.2.2.2.1
theorem dX9_move_46 : decode cX9_move 46 = .ok (.lload_n 3, 1) := da9_dX9_move_34.2.2.2.2.2.2.2.1
theorem dX9_move_47 : decode cX9_move 47 = .ok (.invokevirtual 342, 3) := da9_dX9_move_34.2.2.2.2.2.2.2.2.1
theorem dX9_move_50 : decode cX9_move 50 = .ok (.aload_n 0, 1) := da9_dX9_move_34.2.2.2.2.2.2.2.2.2.1
theorem dX9_move_51 : decode cX9_move 51 = .ok (.iload 5, 2) := da9_dX9_move_34.2.2.2.2.2.2.2.2.2.2.1
theorem dX9_move_53 : decode cX9_move 53 = .ok (.invokevirtual 138, 3) := da9_dX9_move_34.2.2.2.2.2.2.2.2.2.2.2.1
theorem dX9_move_56 : decode cX9_move 56 = .ok (.ireturn, 1) := da9_dX9_move_34.2.2.2.2.2.2.2.2.2.2.2.2
