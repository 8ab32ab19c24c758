set_option maxRecDepth 20000 in
theorem ggX9_years_X9_refuse : GoodIn wsX9_years wsX9_refuse := goodIn_r _ [9, 10, 11, 160, 161, 162, 163, 164, 165, 166, 167, 168, 169, 170, 171, 172, 173, 174, 175, 176, 177, 178] rfl (by decide +kernel)
set_option maxRecDepth 20000 in
theorem gX9_years_X9_refuse : GoodIn wsX9_years (wsV RX9 118 RX9 yX9_refuse wsX9_refuse) := goodIn_app (goodIn_of _ (by decide +kernel)) ggX9_years_X9_refuse
set_option maxRecDepth 20000 in
theorem ggX9_years_X8_pack : GoodIn wsX9_years wsX8_pack := goodIn_r _ [16, 17, 18, 19, 20, 21, 189, 190, 191, 192, 193] rfl (by decide +kernel)
set_option maxRecDepth 20000 in
theorem gX9_years_X8_pack : GoodIn wsX9_years (wsV RX9 318 RX8 yX8_pack wsX8_pack) := goodIn_app (goodIn_of _ (by decide +kernel)) ggX9_years_X8_pack
set_option maxRecDepth 20000 in
theorem ggX9_years_X8_unpack : GoodIn wsX9_years wsX8_unpack := goodIn_r _ [25, 26, 21, 27, 20, 19, 18, 28, 29, 30, 31, 32, 17, 189, 190, 191, 192, 193] rfl (by decide +kernel)
set_option maxRecDepth 20000 in
theorem gX9_years_X8_unpack : GoodIn wsX9_years (wsV RX9 219 RX8 yX8_unpack wsX8_unpack) := goodIn_app (goodIn_of _ (by decide +kernel)) ggX9_years_X8_unpack
set_option maxRecDepth 20000 in
theorem ggX9_years_X9_seated : GoodIn wsX9_years wsX9_seated := goodIn_r _ [36, 4, 2, 37, 38, 39, 40, 41, 42, 43, 44, 45, 46, 47, 48, 49, 50, 51, 52, 53, 54, 160, 161, 162, 163, 164, 165, 166, 167, 168, 169, 170, 171, 172, 173, 174, 175, 176, 177, 178, 179, 180, 181, 182, 183, 184, 185, 186, 187, 188, 194, 195, 196] rfl (by decide +kernel)
set_option maxRecDepth 20000 in
theorem gX9_years_X9_seated : GoodIn wsX9_years (wsV RX9 144 RX9 yX9_seated wsX9_seated) := goodIn_app (goodIn_of _ (by decide +kernel)) ggX9_years_X9_seated
set_option maxRecDepth 20000 in
theorem ggX9_years_X9_nextDraw : GoodIn wsX9_years wsX9_nextDraw := goodIn_r _ [57, 58, 59, 60] rfl (by decide +kernel)
set_option maxRecDepth 20000 in
theorem gX9_years_X9_nextDraw : GoodIn wsX9_years (va_wsS RX9 322 yX9_nextDraw wsX9_nextDraw) := goodIn_app (goodIn_of _ (by decide +kernel)) ggX9_years_X9_nextDraw
set_option maxRecDepth 20000 in
theorem ggX9_years_X8_act : GoodIn wsX9_years wsX8_act := goodIn_r _ [64, 65, 66, 67, 15, 68, 17, 19, 20, 29, 30, 31, 32, 69, 70, 71, 51, 72, 73, 74, 75, 76, 77, 78, 79, 80, 54, 81, 82, 83, 84, 18, 85, 86, 87, 88, 89, 8, 90, 91, 92, 93, 94, 95, 96, 97, 98, 53, 99, 100, 101, 102, 103, 104, 105, 106, 107, 108, 109, 110, 111, 112, 113, 114, 115, 116, 117, 118, 119, 120, 121, 122, 123, 124, 125, 126, 127, 128, 129, 130, 131, 132, 133, 134, 135, 136, 137, 138, 139, 140, 141, 21, 142, 143, 144, 145, 146, 147, 148, 149, 150, 151, 152, 153, 154, 155, 189, 190, 191, 192, 193, 194, 195, 196, 197, 198, 199, 200, 201, 202, 203, 204, 205, 206] rfl (by decide +kernel)
set_option maxRecDepth 20000 in
theorem gX9_years_X8_act : GoodIn wsX9_years (wsV RX9 325 RX8 yX8_act wsX8_act) := goodIn_app (goodIn_of _ (by decide +kernel)) ggX9_years_X8_act
set_option maxRecDepth 20000 in
theorem ggX9_years_X9_accept : GoodIn wsX9_years wsX9_accept := goodIn_r _ [159, 10, 160, 161, 162, 163, 164, 165, 166, 167, 168, 169, 170, 171, 172, 173, 174, 175, 176, 177, 178] rfl (by decide +kernel)
set_option maxRecDepth 20000 in
theorem gX9_years_X9_accept : GoodIn wsX9_years (wsV RX9 138 RX9 yX9_accept wsX9_accept) := goodIn_app (goodIn_of _ (by decide +kernel)) ggX9_years_X9_accept
theorem da9_dX9_years_0 : (decode cX9_years 0 = .ok (.iload_n 1, 1)) ∧ (decode cX9_years 1 = .ok (.ifCond .lt 21, 3)) ∧ (decode cX9_years 4 = .ok (.iload_n 1, 1)) ∧ (decode cX9_years 5 = .ok (.ldc_w 317, 3)) ∧ (decode cX9_years 8 = .ok (.if_icmp .gt 14, 3)) ∧ (decode cX9_years 11 = .ok (.iload_n 2, 1)) ∧ (decode cX9_years 12 = .ok (.iconst 1, 1)) ∧ (decode cX9_years 13 = .ok (.if_icmp .lt 9, 3)) ∧ (decode cX9_years 16 = .ok (.iload_n 2, 1)) ∧ (decode cX9_years 17 = .ok (.bipush 60, 2)) ∧ (decode cX9_years 19 = .ok (.if_icmp .le 9, 3)) ∧ (decode cX9_years 22 = .ok (.aload_n 0, 1)) ∧ (decode cX9_years 23 = .ok (.iconst (-1), 1)) ∧ (decode cX9_years 24 = .ok (.invokevirtual 118, 3)) ∧ (decode cX9_years 27 = .ok (.ireturn, 1)) ∧ (decode cX9_years 28 = .ok (.aload_n 0, 1)) := by decide +kernel
theorem dX9_years_0 : decode cX9_years 0 = .ok (.iload_n 1, 1) := da9_dX9_years_0.1
theorem dX9_years_1 : decode cX9_years 1 = .ok (.ifCond .lt 21, 3) := da9_dX9_years_0.2.1
theorem dX9_years_4 : decode cX9_years 4 = .ok (.iload_n 1, 1) := da9_dX9_years_0.2.2.1
theorem dX9_years_5 : decode cX9_years 5 = .ok (.ldc_w 317, 3) := da9_dX9_years_0.2.2.2.1
theorem dX9_years_8 : decode cX9_years 8 = .ok (.if_icmp .gt 14, 3) := da9_dX9_years_0.2.2.2.2.1
theorem dX9_years_11 : decode cX9_years 11 = .ok (.iload_n 2, 1) := da9_dX9_years_0.2.2.2.2.2.1
theorem dX9_years_12 : decode cX9_years 12 = .ok (.iconst 1, 1) := da9_dX9_years_0.2.2.2.2.2.2.1
theorem dX9_years_13 : decode cX9_years 13 = .ok (.if_icmp .lt 9, 3) := da9_dX9_years_0.2.2.2.2.2.2.2.1
theorem dX9_years_16 : decode cX9_years 16 = .ok (.iload_n 2, 1) := da9_dX9_years_0.2.2.2.2.2.2.2.2.1
theorem dX9_years_17 : decode cX9_years 17 = .ok (.bipush 60, 2) := da9_dX9_years_0.2.2.2.2.2.2.2.2.2.1
theorem dX9_years_19 : decode cX9_years 19 = .ok (.if_icmp .le 9, 3) := da9_dX9_years_0.2.2.2.2.2.2.2.2.2.2.1
theorem dX9_years_22 : decode cX9_years 22 = .ok (.aload_n 0, 1) := da9_dX9_years_0.2.2.2.2.2.2.2.2.2.2.2.1
theorem dX9_years_23 : decode cX9_years 23 = .ok (.iconst (-1), 1) := da9_dX9_years_0.2.2.2.2.2.2.2.2.2.2.2.2.1
theorem dX9_years_24 : decode cX9_years 24 = .ok (.invokevirtual 118, 3) := da9_dX9_years_0.2.2.2.2.2.2.2.2.2.2.2.2.2.1
theorem dX9_years_27 : decode cX9_years 27 = .ok (.ireturn, 1) := da9_dX9_years_0.2.2.2.2.2.2.2.2.2.2.2.2.2.2.1
theorem dX9_years_28 : decode cX9_years 28 = .ok (.aload_n 0, 1) := da9_dX9_years_0.2.2.2.2.2.2.2.2.2.2.2.2.2.2.2
theorem da9_dX9_years_29 : (decode cX9_years 29 = .ok (.getfield 10, 3)) ∧ (decode cX9_years 32 = .ok (.getfield 122, 3)) ∧ (decode cX9_years 35 = .ok (.getfield 135, 3)) ∧ (decode cX9_years 38 = .ok (.ifCond .ne 10, 3)) ∧ (decode cX9_years 41 = .ok (.aload_n 0, 1)) ∧ (decode cX9_years 42 = .ok (.bipush (-3), 2)) ∧ (decode cX9_years 44 = .ok (.invokevirtual 118, 3)) ∧ (decode cX9_years 47 = .ok (.ireturn, 1)) ∧ (decode cX9_years 48 = .ok (.aload_n 0, 1)) ∧ (decode cX9_years 49 = .ok (.getfield 34, 3)) ∧ (decode cX9_years 52 = .ok (.aload_n 0, 1)) ∧ (decode cX9_years 53 = .ok (.getfield 10, 3)) ∧ (decode cX9_years 56 = .ok (.getfield 122, 3)) ∧ (decode cX9_years 59 = .ok (.invokevirtual 318, 3)) ∧ (decode cX9_years 62 = .ok (.invokevirtual 219, 3)) ∧ (decode cX9_years 65 = .ok (.aload_n 0, 1)) := by decide +kernel
theorem dX9_years_29 : decode cX9_years 29 = .ok (.getfield 10, 3) := da9_dX9_years_29.1
theorem dX9_years_32 : decode cX9_years 32 = .ok (.getfield 122, 3) := da9_dX9_years_29.2.1
theorem dX9_years_35 : decode cX9_years 35 = .ok (.getfield 135, 3) := da9_dX9_years_29.2.2.1
theorem dX9_years_38 : decode cX9_years 38 = .ok (.ifCond .ne 10, 3) := da9_dX9_years_29.2.2.2.1
theorem dX9_years_41 : decode cX9_years 41 = .ok (.aload_n 0, 1) := da9_dX9_years_29.2.2.2.2.1
theorem dX9_years_42 : decode cX9_years 42 = .ok (.bipush (-3), 2) := da9_dX9_years_29.2.2.2.2.2.1
theorem dX9_years_44 : decode cX9_years 44 = .ok (.invokevirtual 118, 3) := da9_dX9_years_29.2.2.2.2.2.2.1
theorem dX9_years_47 : decode cX9_years 47 = .ok (.ireturn, 1) := da9_dX9_years_29.2.2.2.2.2.2.2.1
theorem dX9_years_48 : decode cX9_years 48 = .ok (.aload_n 0, 1) := da9_dX9_years_29.2.2.2.2.2.2.2.2.1
theorem dX9_years_49 : decode cX9_years 49 = .ok (.getfield 34, 3) := da9_dX9_years_29.2.2.2.2.2.2.2.2.2.1
theorem dX9_years_52 : decode cX9_years 52 = .ok (.aload_n 0, 1) := da9_dX9_years_29.2.2.2.2.2.2.2.2.2.2.1
theorem dX9_years_53 : decode cX9_years 53 = .ok (.getfield 10, 3) := da9_dX9_years_29.2.2.2.2.2.2.2.2.2.2.2.1
theorem dX9_years_56 : decode cX9_years 56 = .ok (.getfield 122, 3) := da9_dX9_years_29.2.2.2.2.2.2.2.2.2.2.2.2.1
theorem dX9_years_59 : decode cX9_years 59 = .ok (.invokevirtual 318, 3) := da9_dX9_years_29.2.2.2.2.2.2.2.2.2.2.2.2.2.1
theorem dX9_years_62 : decode cX9_years 62 = .ok (.invokevirtual 219, 3) := da9_dX9_years_29.2.2.2.2.2.2.2.2.2.2.2.2.2.2.1
theorem dX9_years_65 : decode cX9_years 65 = .ok (.aload_n 0, 1) := da9_dX9_years_29.2.2.2.2.2.2.2.2.2.2.2.2.2.2.2
theorem da9_dX9_years_66 : (decode cX9_years 66 = .ok (.invokevirtual 144, 3)) ∧ (decode cX9_years 69 = .ok (.pop, 1)) ∧ (decode cX9_years 70 = .ok (.iload_n 1, 1)) ∧ (decode cX9_years 71 = .ok (.istore_n 3, 1)) ∧ (decode cX9_years 72 = .ok (.iconst 0, 1)) ∧ (decode cX9_years 73 = .ok (.istore 4, 2)) ∧ (decode cX9_years 75 = .ok (.iload 4, 2)) ∧ (decode cX9_years 77 = .ok (.iload_n 2, 1)) ∧ (decode cX9_years 78 = .ok (.if_icmp .ge 94, 3)) ∧ (decode cX9_years 81 = .ok (.aload_n 0, 1)) ∧ (decode cX9_years 82 = .ok (.getfield 34, 3)) ∧ (decode cX9_years 85 = .ok (.getfield 240, 3)) ∧ (decode cX9_years 88 = .ok (.sipush 999, 3)) ∧ (decode cX9_years 91 = .ok (.if_icmp .ge 81, 3)) ∧ (decode cX9_years 94 = .ok (.iload_n 3, 1)) ∧ (decode cX9_years 95 = .ok (.invokestatic 322, 3)) := by decide +kernel
theorem dX9_years_66 : decode cX9_years 66 = .ok (.invokevirtual 144, 3) := da9_dX9_years_66.1
theorem dX9_years_69 : decode cX9_years 69 = .ok (.pop, 1) := da9_dX9_years_66.2.1
theorem dX9_years_70 : decode cX9_years 70 = .ok (.iload_n 1, 1) := da9_dX9_years_66.2.2.1
theorem dX9_years_71 : decode cX9_years 71 = .ok (.istore_n 3, 1) := da9_dX9_years_66.2.2.2.1
theorem dX9_years_72 : decode cX9_years 72 = .ok (.iconst 0, 1) := da9_dX9_years_66.2.2.2.2.1
theorem dX9_years_73 : decode cX9_years 73 = .ok (.istore 4, 2) := da9_dX9_years_66.2.2.2.2.2.1
theorem dX9_years_75 : decode cX9_years 75 = .ok (.iload 4, 2) := da9_dX9_years_66.2.2.2.2.2.2.1
theorem dX9_years_77 : decode cX9_years 77 = .ok (.iload_n 2, 1) := da9_dX9_years_66.2.2.2.2.2.2.2.1
theorem dX9_years_78 : decode cX9_years 78 = .ok (.if_icmp .ge 94, 3) := da9_dX9_years_66.2.2.2.2.2.2.2.2.1
theorem dX9_years_81 : decode cX9_years 81 = .ok (.aload_n 0, 1) := da9_dX9_years_66.2.2.2.2.2.2.2.2.2.1
theorem dX9_years_82 : decode cX9_years 82 = .ok (.getfield 34, 3) := da9_dX9_years_66.2.2.2.2.2.2.2.2.2.2.1
theorem dX9_years_85 : decode cX9_years 85 = .ok (.getfield 240, 3) := da9_dX9_years_66.2.2.2.2.2.2.2.2.2.2.2.1
theorem dX9_years_88 : decode cX9_years 88 = .ok (.sipush 999, 3) := da9_dX9_years_66.2.2.2.2.2.2.2.2.2.2.2.2.1
theorem dX9_years_91 : decode cX9_years 91 = .ok (.if_icmp .ge 81, 3) := da9_dX9_years_66.2.2.2.2.2.2.2.2.2.2.2.2.2.1
theorem dX9_years_94 : decode cX9_years 94 = .ok (.iload_n 3, 1) := da9_dX9_years_66.2.2.2.2.2.2.2.2.2.2.2.2.2.2.1
theorem dX9_years_95 : decode cX9_years 95 = .ok (.invokestatic 322, 3) := da9_dX9_years_66.2.2.2.2.2.2.2.2.2.2.2.2.2.2.2
theorem da9_dX9_years_98 : (decode cX9_years 98 = .ok (.istore_n 3, 1)) ∧ (decode cX9_years 99 = .ok (.iload_n 3, 1)) ∧ (decode cX9_years 100 = .ok (.bipush 6, 2)) ∧ (decode cX9_years 102 = .ok (.irem, 1)) ∧ (decode cX9_years 103 = .ok (.istore 5, 2)) ∧ (decode cX9_years 105 = .ok (.iload_n 3, 1)) ∧ (decode cX9_years 106 = .ok (.invokestatic 322, 3)) ∧ (decode cX9_years 109 = .ok (.istore_n 3, 1)) ∧ (decode cX9_years 110 = .ok (.iload_n 3, 1)) ∧ (decode cX9_years 111 = .ok (.iconst 3, 1)) ∧ (decode cX9_years 112 = .ok (.irem, 1)) ∧ (decode cX9_years 113 = .ok (.iconst 2, 1)) ∧ (decode cX9_years 114 = .ok (.if_icmp .ne 21, 3)) ∧ (decode cX9_years 117 = .ok (.aload_n 0, 1)) ∧ (decode cX9_years 118 = .ok (.getfield 34, 3)) ∧ (decode cX9_years 121 = .ok (.iconst 1, 1)) := by decide +kernel
theorem dX9_years_98 : decode cX9_years 98 = .ok (.istore_n 3, 1) := da9_dX9_years_98.1
theorem dX9_years_99 : decode cX9_years 99 = .ok (.iload_n 3, 1) := da9_dX9_years_98.2.1
theorem dX9_years_100 : decode cX9_years 100 = .ok (.bipush 6, 2) := da9_dX9_years_98.2.2.1
theorem dX9_years_102 : decode cX9_years 102 = .ok (.irem, 1) := da9_dX9_years_98.2.2.2.1
theorem dX9_years_103 : decode cX9_years 103 = .ok (.istore 5, 2) := da9_dX9_years_98.2.2.2.2.1
theorem dX9_years_105 : decode cX9_years 105 = .ok (.iload_n 3, 1) := da9_dX9_years_98.2.2.2.2.2.1
theorem dX9_years_106 : decode cX9_years 106 = .ok (.invokestatic 322, 3) := da9_dX9_years_98.2.2.2.2.2.2.1
theorem dX9_years_109 : decode cX9_years 109 = .ok (.istore_n 3, 1) := da9_dX9_years_98.2.2.2.2.2.2.2.1
theorem dX9_years_110 : decode cX9_years 110 = .ok (.iload_n 3, 1) := da9_dX9_years_98.2.2.2.2.2.2.2.2.1
theorem dX9_years_111 : decode cX9_years 111 = .ok (.iconst 3, 1) := da9_dX9_years_98.2.2.2.2.2.2.2.2.2.1
theorem dX9_years_112 : decode cX9_years 112 = .ok (.irem, 1) := da9_dX9_years_98.2.2.2.2.2.2.2.2.2.2.1
theorem dX9_years_113 : decode cX9_years 113 = .ok (.iconst 2, 1) := da9_dX9_years_98.2.2.2.2.2.2.2.2.2.2.2.1
theorem dX9_years_114 : decode cX9_years 114 = .ok (.if_icmp .ne 21, 3) := da9_dX9_years_98.2.2.2.2.2.2.2.2.2.2.2.2.1
theorem dX9_years_117 : decode cX9_years 117 = .ok (.aload_n 0, 1) := da9_dX9_years_98.2.2.2.2.2.2.2.2.2.2.2.2.2.1
theorem dX9_years_118 : decode cX9_years 118 = .ok (.getfield 34, 3) := da9_dX9_years_98.2.2.2.2.2.2.2.2.2.2.2.2.2.2.1
theorem dX9_years_121 : decode cX9_years 121 = .ok (.iconst 1, 1) := da9_dX9_years_98.2.2.2.2.2.2.2.2.2.2.2.2.2.2.2
theorem da9_dX9_years_122 : (decode cX9_years 122 = .ok (.iload 5, 2)) ∧ (decode cX9_years 124 = .ok (.aload_n 0, 1)) ∧ (decode cX9_years 125 = .ok (.getfield 50, 3)) ∧ (decode cX9_years 128 = .ok (.invokevirtual 325, 3)) ∧ (decode cX9_years 131 = .ok (.pop, 1)) ∧ (decode cX9_years 132 = .ok (.goto 20, 3)) ∧ (decode cX9_years 135 = .ok (.aload_n 0, 1)) ∧ (decode cX9_years 136 = .ok (.getfield 34, 3)) ∧ (decode cX9_years 139 = .ok (.iconst 0, 1)) ∧ (decode cX9_years 140 = .ok (.iload 5, 2)) ∧ (decode cX9_years 142 = .ok (.iconst 1, 1)) ∧ (decode cX9_years 143 = .ok (.iadd, 1)) ∧ (decode cX9_years 144 = .ok (.aload_n 0, 1)) ∧ (decode cX9_years 145 = .ok (.getfield 50, 3)) ∧ (decode cX9_years 148 = .ok (.invokevirtual 325, 3)) ∧ (decode cX9_years 151 = .ok (.pop, 1)) := by decide +kernel
theorem dX9_years_122 : decode cX9_years 122 = .ok (.iload 5, 2) := da9_dX9_years_122.1
theorem dX9_years_124 : decode cX9_years 124 = .ok (.aload_n 0, 1) := da9_dX9_years_122.2.1
theorem dX9_years_125 : decode cX9_years 125 = .ok (.getfield 50, 3) := da9_dX9_years_122.2.2.1
theorem dX9_years_128 : decode cX9_years 128 = .ok (.invokevirtual 325, 3) := da9_dX9_years_122.2.2.2.1
theorem dX9_years_131 : decode cX9_years 131 = .ok (.pop, 1) := da9_dX9_years_122.2.2.2.2.1
theorem dX9_years_132 : decode cX9_years 132 = .ok (.goto 20, 3) := da9_dX9_years_122.2.2.2.2.2.1
theorem dX9_years_135 : decode cX9_years 135 = .ok (.aload_n 0, 1) := da9_dX9_years_122.2.2.2.2.2.2.1
theorem dX9_years_136 : decode cX9_years 136 = .ok (.getfield 34, 3) := da9_dX9_years_122.2.2.2.2.2.2.2.1
theorem dX9_years_139 : decode cX9_years 139 = .ok (.iconst 0, 1) := da9_dX9_years_122.2.2.2.2.2.2.2.2.1
theorem dX9_years_140 : decode cX9_years 140 = .ok (.iload 5, 2) := da9_dX9_years_122.2.2.2.2.2.2.2.2.2.1
theorem dX9_years_142 : decode cX9_years 142 = .ok (.iconst 1, 1) := da9_dX9_years_122.2.2.2.2.2.2.2.2.2.2.1
theorem dX9_years_143 : decode cX9_years 143 = .ok (.iadd, 1) := da9_dX9_years_122.2.2.2.2.2.2.2.2.2.2.2.1
theorem dX9_years_144 : decode cX9_years 144 = .ok (.aload_n 0, 1) := da9_dX9_years_122.2.2.2.2.2.2.2.2.2.2.2.2.1
theorem dX9_years_145 : decode cX9_years 145 = .ok (.getfield 50, 3) := da9_dX9_years_122.2.2.2.2.2.2.2.2.2.2.2.2.2.1
theorem dX9_years_148 : decode cX9_years 148 = .ok (.invokevirtual 325, 3) := da9_dX9_years_122.2.2.2.2.2.2.2.2.2.2.2.2.2.2.1
theorem dX9_years_151 : decode cX9_years 151 = .ok (.pop, 1) := da9_dX9_years_122.2.2.2.2.2.2.2.2.2.2.2.2.2.2.2
theorem da9_dX9_years_152 : (decode cX9_years 152 = .ok (.aload_n 0, 1)) ∧ (decode cX9_years 153 = .ok (.getfield 34, 3)) ∧ (decode cX9_years 156 = .ok (.iconst 3, 1)) ∧ (decode cX9_years 157 = .ok (.iconst 0, 1)) ∧ (decode cX9_years 158 = .ok (.aload_n 0, 1)) ∧ (decode cX9_years 159 = .ok (.getfield 50, 3)) ∧ (decode cX9_years 162 = .ok (.invokevirtual 325, 3)) ∧ (decode cX9_years 165 = .ok (.pop, 1)) ∧ (decode cX9_years 166 = .ok (.iinc 4 1, 3)) ∧ (decode cX9_years 169 = .ok (.goto (-94), 3)) ∧ (decode cX9_years 172 = .ok (.aload_n 0, 1)) ∧ (decode cX9_years 173 = .ok (.aload_n 0, 1)) ∧ (decode cX9_years 174 = .ok (.getfield 34, 3)) ∧ (decode cX9_years 177 = .ok (.getfield 329, 3)) ∧ (decode cX9_years 180 = .ok (.aload_n 0, 1)) ∧ (decode cX9_years 181 = .ok (.getfield 10, 3)) := by decide +kernel
theorem dX9_years_152 : decode cX9_years 152 = .ok (.aload_n 0, 1) := da9_dX9_years_152.1
theorem dX9_years_153 : decode cX9_years 153 = .ok (.getfield 34, 3) := da9_dX9_years_152.2.1
theorem dX9_years_156 : decode cX9_years 156 = .ok (.iconst 3, 1) := da9_dX9_years_152.2.2.1
theorem dX9_years_157 : decode cX9_years 157 = .ok (.iconst 0, 1) := da9_dX9_years_152.2.2.2.1
theorem dX9_years_158 : decode cX9_years 158 = .ok (.aload_n 0, 1) := da9_dX9_years_152.2.2.2.2.1
theorem dX9_years_159 : decode cX9_years 159 = .ok (.getfield 50, 3) := da9_dX9_years_152.2.2.2.2.2.1
theorem dX9_years_162 : decode cX9_years 162 = .ok (.invokevirtual 325, 3) := da9_dX9_years_152.2.2.2.2.2.2.1
theorem dX9_years_165 : decode cX9_years 165 = .ok (.pop, 1) := da9_dX9_years_152.2.2.2.2.2.2.2.1
theorem dX9_years_166 : decode cX9_years 166 = .ok (.iinc 4 1, 3) := da9_dX9_years_152.2.2.2.2.2.2.2.2.1
theorem dX9_years_169 : decode cX9_years 169 = .ok (.goto (-94), 3) := da9_dX9_years_152.2.2.2.2.2.2.2.2.2.1
theorem dX9_years_172 : decode cX9_years 172 = .ok (.aload_n 0, 1) := da9_dX9_years_152.2.2.2.2.2.2.2.2.2.2.1
theorem dX9_years_173 : decode cX9_years 173 = .ok (.aload_n 0, 1) := da9_dX9_years_152.2.2.2.2.2.2.2.2.2.2.2.1
theorem dX9_years_174 : decode cX9_years 174 = .ok (.getfield 34, 3) := da9_dX9_years_152.2.2.2.2.2.2.2.2.2.2.2.2.1
theorem dX9_years_177 : decode cX9_years 177 = .ok (.getfield 329, 3) := da9_dX9_years_152.2.2.2.2.2.2.2.2.2.2.2.2.2.1
theorem dX9_years_180 : decode cX9_years 180 = .ok (.aload_n 0, 1) := da9_dX9_years_152.2.2.2.2.2.2.2.2.2.2.2.2.2.2.1
theorem dX9_years_181 : decode cX9_years 181 = .ok (.getfield 10, 3) := da9_dX9_years_152.2.2.2.2.2.2.2.2.2.2.2.2.2.2.2
theorem da9_dX9_years_184 : (decode cX9_years 184 = .ok (.getfield 122, 3)) ∧ (decode cX9_years 187 = .ok (.getfield 329, 3)) ∧ (decode cX9_years 190 = .ok (.isub, 1)) ∧ (decode cX9_years 191 = .ok (.invokevirtual 138, 3)) ∧ (decode cX9_years 194 = .ok (.ireturn, 1)) := by decide +kernel
theorem dX9_years_184 : decode cX9_years 184 = .ok (.getfield 122, 3) := da9_dX9_years_184.1
theorem dX9_years_187 : decode cX9_years 187 = .ok (.getfield 329, 3) := da9_dX9_years_184.2.1
theorem dX9_years_190 : decode cX9_years 190 = .ok (.isub, 1) := da9_dX9_years_184.2.2.1
theorem dX9_years_191 : decode cX9_years 191 = .ok (.invokevirtual 138, 3) := da9_dX9_years_184.2.2.2.1
theorem dX9_years_194 : decode cX9_years 194 = .ok (.ireturn, 1) := da9_dX9_years_184.2.2.2.2
set_option maxRecDepth 20000 in
theorem ggX9_drawn_X8_tell : GoodIn wsX9_drawn wsX8_tell := goodIn_r _ [6, 7, 8, 9, 10, 11, 5, 12, 13, 14, 15, 16, 36, 37, 38, 39, 40] rfl (by decide +kernel)
set_option maxRecDepth 20000 in
theorem gX9_drawn_X8_tell : GoodIn wsX9_drawn (wsV RX9 156 RX8 yX8_tell wsX8_tell) := goodIn_app (goodIn_of _ (by decide +kernel)) ggX9_drawn_X8_tell
theorem da9_dX9_drawn_0 : (decode cX9_drawn 0 = .ok (.aload_n 0, 1)) ∧ (decode cX9_drawn 1 = .ok (.getfield 34, 3)) ∧ (decode cX9_drawn 4 = .ok (.iload_n 1, 1)) ∧ (decode cX9_drawn 5 = .ok (.iload_n 2, 1)) ∧ (decode cX9_drawn 6 = .ok (.invokevirtual 156, 3)) ∧ (decode cX9_drawn 9 = .ok (.ireturn, 1)) := by decide +kernel
theorem dX9_drawn_0 : decode cX9_drawn 0 = .ok (.aload_n 0, 1) := da9_dX9_drawn_0.1
theorem dX9_drawn_1 : decode cX9_drawn 1 = .ok (.getfield 34, 3) := da9_dX9_drawn_0.2.1
theorem dX9_drawn_4 : decode cX9_drawn 4 = .ok (.iload_n 1, 1) := da9_dX9_drawn_0.2.2.1
theorem dX9_drawn_5 : decode cX9_drawn 5 = .ok (.iload_n 2, 1) := da9_dX9_drawn_0.2.2.2.1
theorem dX9_drawn_6 : decode cX9_drawn 6 = .ok (.invokevirtual 156, 3) := da9_dX9_drawn_0.2.2.2.2.1
theorem dX9_drawn_9 : decode cX9_drawn 9 = .ok (.ireturn, 1) := da9_dX9_drawn_0.2.2.2.2.2
theorem da9_dX9_isImage_0 : (decode cX9_isImage 0 = .ok (.iload_n 0, 1)) ∧ (decode cX9_isImage 1 = .ok (.ifCond .lt 12, 3)) ∧ (decode cX9_isImage 4 = .ok (.iload_n 0, 1)) ∧ (decode cX9_isImage 5 = .ok (.iconst 2, 1)) ∧ (decode cX9_isImage 6 = .ok (.if_icmp .ge 7, 3)) ∧ (decode cX9_isImage 9 = .ok (.iconst 1, 1)) ∧ (decode cX9_isImage 10 = .ok (.goto 4, 3)) ∧ (decode cX9_isImage 13 = .ok (.iconst 0, 1)) ∧ (decode cX9_isImage 14 = .ok (.ireturn, 1)) := by decide +kernel
theorem dX9_isImage_0 : decode cX9_isImage 0 = .ok (.iload_n 0, 1) := da9_dX9_isImage_0.1
theorem dX9_isImage_1 : decode cX9_isImage 1 = .ok (.ifCond .lt 12, 3) := da9_dX9_isImage_0.2.1
theorem dX9_isImage_4 : decode cX9_isImage 4 = .ok (.iload_n 0, 1) := da9_dX9_isImage_0.2.2.1
theorem dX9_isImage_5 : decode cX9_isImage 5 = .ok (.iconst 2, 1) := da9_dX9_isImage_0.2.2.2.1
theorem dX9_isImage_6 : decode cX9_isImage 6 = .ok (.if_icmp .ge 7, 3) := da9_dX9_isImage_0.2.2.2.2.1
theorem dX9_isImage_9 : decode cX9_isImage 9 = .ok (.iconst 1, 1) := da9_dX9_isImage_0.2.2.2.2.2.1
theorem dX9_isImage_10 : decode cX9_isImage 10 = .ok (.goto 4, 3) := da9_dX9_isImage_0.2.2.2.2.2.2.1
theorem dX9_isImage_13 : decode cX9_isImage 13 = .ok (.iconst 0, 1) := da9_dX9_isImage_0.2.2.2.2.2.2.2.1
theorem dX9_isImage_14 : decode cX9_isImage 14 = .ok (.ireturn, 1) := da9_dX9_isImage_0.2.2.2.2.2.2.2.2
