set_option maxRecDepth 20000 in
theorem ggX6_copyFrom_X8_pack : GoodIn wsX6_copyFrom wsX8_pack := goodIn_r _ [15, 16, 17, 18, 19, 20, 42, 43, 44, 45, 46] rfl (by decide +kernel)
set_option maxRecDepth 20000 in
theorem gX6_copyFrom_X8_pack : GoodIn wsX6_copyFrom (wsV RX6 50 RX8 yX8_pack wsX8_pack) := goodIn_app (goodIn_of _ (by decide +kernel)) ggX6_copyFrom_X8_pack
set_option maxRecDepth 20000 in
theorem ggX6_copyFrom_X8_unpack : GoodIn wsX6_copyFrom wsX8_unpack := goodIn_r _ [24, 25, 20, 26, 19, 18, 17, 27, 28, 29, 30, 31, 16, 42, 43, 44, 45, 46] rfl (by decide +kernel)
set_option maxRecDepth 20000 in
theorem gX6_copyFrom_X8_unpack : GoodIn wsX6_copyFrom (wsV RX6 54 RX8 yX8_unpack wsX8_unpack) := goodIn_app (goodIn_of _ (by decide +kernel)) ggX6_copyFrom_X8_unpack
theorem da9_dX6_copyFrom_0 : (decode cX6_copyFrom 0 = .ok (.aload_n 0, 1)) ∧ (decode cX6_copyFrom 1 = .ok (.getfield 12, 3)) ∧ (decode cX6_copyFrom 4 = .ok (.aload_n 1, 1)) ∧ (decode cX6_copyFrom 5 = .ok (.getfield 12, 3)) ∧ (decode cX6_copyFrom 8 = .ok (.invokevirtual 50, 3)) ∧ (decode cX6_copyFrom 11 = .ok (.invokevirtual 54, 3)) ∧ (decode cX6_copyFrom 14 = .ok (.aload_n 0, 1)) ∧ (decode cX6_copyFrom 15 = .ok (.aload_n 1, 1)) ∧ (decode cX6_copyFrom 16 = .ok (.getfield 18, 3)) ∧ (decode cX6_copyFrom 19 = .ok (.putfield 18, 3)) ∧ (decode cX6_copyFrom 22 = .ok (.aload_n 0, 1)) ∧ (decode cX6_copyFrom 23 = .ok (.aload_n 1, 1)) ∧ (decode cX6_copyFrom 24 = .ok (.getfield 22, 3)) ∧ (decode cX6_copyFrom 27 = .ok (.putfield 22, 3)) ∧ (decode cX6_copyFrom 30 = .ok (.aload_n 0, 1)) ∧ (decode cX6_copyFrom 31 = .ok (.aload_n 1, 1)) := by decide +kernel
theorem dX6_copyFrom_0 : decode cX6_copyFrom 0 = .ok (.aload_n 0, 1) := da9_dX6_copyFrom_0.1
theorem dX6_copyFrom_1 : decode cX6_copyFrom 1 = .ok (.getfield 12, 3) := da9_dX6_copyFrom_0.2.1
theorem dX6_copyFrom_4 : decode cX6_copyFrom 4 = .ok (.aload_n 1, 1) := da9_dX6_copyFrom_0.2.2.1
theorem dX6_copyFrom_5 : decode cX6_copyFrom 5 = .ok (.getfield 12, 3) := da9_dX6_copyFrom_0.2.2.2.1
theorem dX6_copyFrom_8 : decode cX6_copyFrom 8 = .ok (.invokevirtual 50, 3) := da9_dX6_copyFrom_0.2.2.2.2.1
theorem dX6_copyFrom_11 : decode cX6_copyFrom 11 = .ok (.invokevirtual 54, 3) := da9_dX6_copyFrom_0.2.2.2.2.2.1
theorem dX6_copyFrom_14 : decode cX6_copyFrom 14 = .ok (.aload_n 0, 1) := da9_dX6_copyFrom_0.2.2.2.2.2.2.1
theorem dX6_copyFrom_15 : decode cX6_copyFrom 15 = .ok (.aload_n 1, 1) := da9_dX6_copyFrom_0.2.2.2.2.2.2.2.1
theorem dX6_copyFrom_16 : decode cX6_copyFrom 16 = .ok (.getfield 18, 3) := da9_dX6_copyFrom_0.2.2.2.2.2.2.2.2.1
theorem dX6_copyFrom_19 : decode cX6_copyFrom 19 = .ok (.putfield 18, 3) := da9_dX6_copyFrom_0.2.2.2.2.2.2.2.2.2.1
theorem dX6_copyFrom_22 : decode cX6_copyFrom 22 = .ok (.aload_n 0, 1) := da9_dX6_copyFrom_0.2.2.2.2.2.2.2.2.2.2.1
theorem dX6_copyFrom_23 : decode cX6_copyFrom 23 = .ok (.aload_n 1, 1) := da9_dX6_copyFrom_0.2.2.2.2.2.2.2.2.2.2.2.1
theorem dX6_copyFrom_24 : decode cX6_copyFrom 24 = .ok (.getfield 22, 3) := da9_dX6_copyFrom_0.2.2.2.2.2.2.2.2.2.2.2.2.1
theorem dX6_copyFrom_27 : decode cX6_copyFrom 27 = .ok (.putfield 22, 3) := da9_dX6_copyFrom_0.2.2.2.2.2.2.2.2.2.2.2.2.2.1
theorem dX6_copyFrom_30 : decode cX6_copyFrom 30 = .ok (.aload_n 0, 1) := da9_dX6_copyFrom_0.2.2.2.2.2.2.2.2.2.2.2.2.2.2.1
theorem dX6_copyFrom_31 : decode cX6_copyFrom 31 = .ok (.aload_n 1, 1) := da9_dX6_copyFrom_0.2.2.2.2.2.2.2.2.2.2.2.2.2.2.2
theorem da9_dX6_copyFrom_32 : (decode cX6_copyFrom 32 = .ok (.getfield 25, 3)) ∧ (decode cX6_copyFrom 35 = .ok (.putfield 25, 3)) ∧ (decode cX6_copyFrom 38 = .ok (.aload_n 0, 1)) ∧ (decode cX6_copyFrom 39 = .ok (.aload_n 1, 1)) ∧ (decode cX6_copyFrom 40 = .ok (.getfield 35, 3)) ∧ (decode cX6_copyFrom 43 = .ok (.putfield 35, 3)) ∧ (decode cX6_copyFrom 46 = .ok (.iconst 0, 1)) ∧ (decode cX6_copyFrom 47 = .ok (.istore_n 2, 1)) ∧ (decode cX6_copyFrom 48 = .ok (.iload_n 2, 1)) ∧ (decode cX6_copyFrom 49 = .ok (.bipush 6, 2)) ∧ (decode cX6_copyFrom 51 = .ok (.if_icmp .ge 33, 3)) ∧ (decode cX6_copyFrom 54 = .ok (.aload_n 0, 1)) ∧ (decode cX6_copyFrom 55 = .ok (.getfield 28, 3)) ∧ (decode cX6_copyFrom 58 = .ok (.iload_n 2, 1)) ∧ (decode cX6_copyFrom 59 = .ok (.aload_n 1, 1)) ∧ (decode cX6_copyFrom 60 = .ok (.getfield 28, 3)) := by decide +kernel
theorem dX6_copyFrom_32 : decode cX6_copyFrom 32 = .ok (.getfield 25, 3) := da9_dX6_copyFrom_32.1
theorem dX6_copyFrom_35 : decode cX6_copyFrom 35 = .ok (.putfield 25, 3) := da9_dX6_copyFrom_32.2.1
theorem dX6_copyFrom_38 : decode cX6_copyFrom 38 = .ok (.aload_n 0, 1) := da9_dX6_copyFrom_32.2.2.1
theorem dX6_copyFrom_39 : decode cX6_copyFrom 39 = .ok (.aload_n 1, 1) := da9_dX6_copyFrom_32.2.2.2.1
theorem dX6_copyFrom_40 : decode cX6_copyFrom 40 = .ok (.getfield 35, 3) := da9_dX6_copyFrom_32.2.2.2.2.1
theorem dX6_copyFrom_43 : decode cX6_copyFrom 43 = .ok (.putfield 35, 3) := da9_dX6_copyFrom_32.2.2.2.2.2.1
theorem dX6_copyFrom_46 : decode cX6_copyFrom 46 = .ok (.iconst 0, 1) := da9_dX6_copyFrom_32.2.2.2.2.2.2.1
theorem dX6_copyFrom_47 : decode cX6_copyFrom 47 = .ok (.istore_n 2, 1) := da9_dX6_copyFrom_32.2.2.2.2.2.2.2.1
theorem dX6_copyFrom_48 : decode cX6_copyFrom 48 = .ok (.iload_n 2, 1) := da9_dX6_copyFrom_32.2.2.2.2.2.2.2.2.1
theorem dX6_copyFrom_49 : decode cX6_copyFrom 49 = .ok (.bipush 6, 2) := da9_dX6_copyFrom_32.2.2.2.2.2.2.2.2.2.1
theorem dX6_copyFrom_51 : decode cX6_copyFrom 51 = .ok (.if_icmp .ge 33, 3) := da9_dX6_copyFrom_32.2.2.2.2.2.2.2.2.2.2.1
theorem dX6_copyFrom_54 : decode cX6_copyFrom 54 = .ok (.aload_n 0, 1) := da9_dX6_copyFrom_32.2.2.2.2.2.2.2.2.2.2.2.1
theorem dX6_copyFrom_55 : decode cX6_copyFrom 55 = .ok (.getfield 28, 3) := da9_dX6_copyFrom_32.2.2.2.2.2.2.2.2.2.2.2.2.1
theorem dX6_copyFrom_58 : decode cX6_copyFrom 58 = .ok (.iload_n 2, 1) := da9_dX6_copyFrom_32.2.2.2.2.2.2.2.2.2.2.2.2.2.1
theorem dX6_copyFrom_59 : decode cX6_copyFrom 59 = .ok (.aload_n 1, 1) := da9_dX6_copyFrom_32.2.2.2.2.2.2.2.2.2.2.2.2.2.2.1
theorem dX6_copyFrom_60 : decode cX6_copyFrom 60 = .ok (.getfield 28, 3) := da9_dX6_copyFrom_32.2.2.2.2.2.2.2.2.2.2.2.2.2.2.2
theorem da9_dX6_copyFrom_63 : (decode cX6_copyFrom 63 = .ok (.iload_n 2, 1)) ∧ (decode cX6_copyFrom 64 = .ok (.iaload, 1)) ∧ (decode cX6_copyFrom 65 = .ok (.iastore, 1)) ∧ (decode cX6_copyFrom 66 = .ok (.aload_n 0, 1)) ∧ (decode cX6_copyFrom 67 = .ok (.getfield 32, 3)) ∧ (decode cX6_copyFrom 70 = .ok (.iload_n 2, 1)) ∧ (decode cX6_copyFrom 71 = .ok (.aload_n 1, 1)) ∧ (decode cX6_copyFrom 72 = .ok (.getfield 32, 3)) ∧ (decode cX6_copyFrom 75 = .ok (.iload_n 2, 1)) ∧ (decode cX6_copyFrom 76 = .ok (.iaload, 1)) ∧ (decode cX6_copyFrom 77 = .ok (.iastore, 1)) ∧ (decode cX6_copyFrom 78 = .ok (.iinc 2 1, 3)) ∧ (decode cX6_copyFrom 81 = .ok (.goto (-33), 3)) ∧ (decode cX6_copyFrom 84 = .ok (.aload_n 0, 1)) ∧ (decode cX6_copyFrom 85 = .ok (.aload_n 1, 1)) ∧ (decode cX6_copyFrom 86 = .ok (.getfield 44, 3)) := by decide +kernel
theorem dX6_copyFrom_63 : decode cX6_copyFrom 63 = .ok (.iload_n 2, 1) := da9_dX6_copyFrom_63.1
theorem dX6_copyFrom_64 : decode cX6_copyFrom 64 = .ok (.iaload, 1) := da9_dX6_copyFrom_63.2.1
theorem dX6_copyFrom_65 : decode cX6_copyFrom 65 = .ok (.iastore, 1) := da9_dX6_copyFrom_63.2.2.1
theorem dX6_copyFrom_66 : decode cX6_copyFrom 66 = .ok (.aload_n 0, 1) := da9_dX6_copyFrom_63.2.2.2.1
theorem dX6_copyFrom_67 : decode cX6_copyFrom 67 = .ok (.getfield 32, 3) := da9_dX6_copyFrom_63.2.2.2.2.1
theorem dX6_copyFrom_70 : decode cX6_copyFrom 70 = .ok (.iload_n 2, 1) := da9_dX6_copyFrom_63.2.2.2.2.2.1
theorem dX6_copyFrom_71 : decode cX6_copyFrom 71 = .ok (.aload_n 1, 1) := da9_dX6_copyFrom_63.2.2.2.2.2.2.1
theorem dX6_copyFrom_72 : decode cX6_copyFrom 72 = .ok (.getfield 32, 3) := da9_dX6_copyFrom_63.2.2.2.2.2.2.2.1
theorem dX6_copyFrom_75 : decode cX6_copyFrom 75 = .ok (.iload_n 2, 1) := da9_dX6_copyFrom_63.2.2.2.2.2.2.2.2.1
theorem dX6_copyFrom_76 : decode cX6_copyFrom 76 = .ok (.iaload, 1) := da9_dX6_copyFrom_63.2.2.2.2.2.2.2.2.2.1
theorem dX6_copyFrom_77 : decode cX6_copyFrom 77 = .ok (.iastore, 1) := da9_dX6_copyFrom_63.2.2.2.2.2.2.2.2.2.2.1
theorem dX6_copyFrom_78 : decode cX6_copyFrom 78 = .ok (.iinc 2 1, 3) := da9_dX6_copyFrom_63.2.2.2.2.2.2.2.2.2.2.2.1
theorem dX6_copyFrom_81 : decode cX6_copyFrom 81 = .ok (.goto (-33), 3) := da9_dX6_copyFrom_63.2.2.2.2.2.2.2.2.2.2.2.2.1
theorem dX6_copyFrom_84 : decode cX6_copyFrom 84 = .ok (.aload_n 0, 1) := da9_dX6_copyFrom_63.2.2.2.2.2.2.2.2.2.2.2.2.2.1
theorem dX6_copyFrom_85 : decode cX6_copyFrom 85 = .ok (.aload_n 1, 1) := da9_dX6_copyFrom_63.2.2.2.2.2.2.2.2.2.2.2.2.2.2.1
theorem dX6_copyFrom_86 : decode cX6_copyFrom 86 = .ok (.getfield 44, 3) := da9_dX6_copyFrom_63.2.2.2.2.2.2.2.2.2.2.2.2.2.2.2
theorem da9_dX6_copyFrom_89 : (decode cX6_copyFrom 89 = .ok (.putfield 44, 3)) ∧ (decode cX6_copyFrom 92 = .ok (.iconst 0, 1)) ∧ (decode cX6_copyFrom 93 = .ok (.istore_n 2, 1)) ∧ (decode cX6_copyFrom 94 = .ok (.iload_n 2, 1)) ∧ (decode cX6_copyFrom 95 = .ok (.bipush 6, 2)) ∧ (decode cX6_copyFrom 97 = .ok (.if_icmp .ge 21, 3)) ∧ (decode cX6_copyFrom 100 = .ok (.aload_n 0, 1)) ∧ (decode cX6_copyFrom 101 = .ok (.getfield 40, 3)) ∧ (decode cX6_copyFrom 104 = .ok (.iload_n 2, 1)) ∧ (decode cX6_copyFrom 105 = .ok (.aload_n 1, 1)) ∧ (decode cX6_copyFrom 106 = .ok (.getfield 40, 3)) ∧ (decode cX6_copyFrom 109 = .ok (.iload_n 2, 1)) ∧ (decode cX6_copyFrom 110 = .ok (.aaload, 1)) ∧ (decode cX6_copyFrom 111 = .ok (.aastore, 1)) ∧ (decode cX6_copyFrom 112 = .ok (.iinc 2 1, 3)) ∧ (decode cX6_copyFrom 115 = .ok (.goto (-21), 3)) := by decide +kernel
theorem dX6_copyFrom_89 : decode cX6_copyFrom 89 = .ok (.putfield 44, 3) := da9_dX6_copyFrom_89.1
theorem dX6_copyFrom_92 : decode cX6_copyFrom 92 = .ok (.iconst 0, 1) := da9_dX6_copyFrom_89.2.1
theorem dX6_copyFrom_93 : decode cX6_copyFrom 93 = .ok (.istore_n 2, 1) := da9_dX6_copyFrom_89.2.2.1
theorem dX6_copyFrom_94 : decode cX6_copyFrom 94 = .ok (.iload_n 2, 1) := da9_dX6_copyFrom_89.2.2.2.1
theorem dX6_copyFrom_95 : decode cX6_copyFrom 95 = .ok (.bipush 6, 2) := da9_dX6_copyFrom_89.2.2.2.2.1
theorem dX6_copyFrom_97 : decode cX6_copyFrom 97 = .ok (.if_icmp .ge 21, 3) := da9_dX6_copyFrom_89.2.2.2.2.2.1
theorem dX6_copyFrom_100 : decode cX6_copyFrom 100 = .ok (.aload_n 0, 1) := da9_dX6_copyFrom_89.2.2.2.2.2.2.1
theorem dX6_copyFrom_101 : decode cX6_copyFrom 101 = .ok (.getfield 40, 3) := da9_dX6_copyFrom_89.2.2.2.2.2.2.2.1
theorem dX6_copyFrom_104 : decode cX6_copyFrom 104 = .ok (.iload_n 2, 1) := da9_dX6_copyFrom_89.2.2.2.2.2.2.2.2.1
theorem dX6_copyFrom_105 : decode cX6_copyFrom 105 = .ok (.aload_n 1, 1) := da9_dX6_copyFrom_89.2.2.2.2.2.2.2.2.2.1
theorem dX6_copyFrom_106 : decode cX6_copyFrom 106 = .ok (.getfield 40, 3) := da9_dX6_copyFrom_89.2.2.2.2.2.2.2.2.2.2.1
theorem dX6_copyFrom_109 : decode cX6_copyFrom 109 = .ok (.iload_n 2, 1) := da9_dX6_copyFrom_89.2.2.2.2.2.2.2.2.2.2.2.1
theorem dX6_copyFrom_110 : decode cX6_copyFrom 110 = .ok (.aaload, 1) := da9_dX6_copyFrom_89.2.2.2.2.2.2.2.2.2.2.2.2.1
theorem dX6_copyFrom_111 : decode cX6_copyFrom 111 = .ok (.aastore, 1) := da9_dX6_copyFrom_89.2.2.2.2.2.2.2.2.2.2.2.2.2.1
theorem dX6_copyFrom_112 : decode cX6_copyFrom 112 = .ok (.iinc 2 1, 3) := da9_dX6_copyFrom_89.2.2.2.2.2.2.2.2.2.2.2.2.2.2.1
theorem dX6_copyFrom_115 : decode cX6_copyFrom 115 = .ok (.goto (-21), 3) := da9_dX6_copyFrom_89.2.2.2.2.2.2.2.2.2.2.2.2.2.2.2
theorem da9_dX6_copyFrom_118 : (decode cX6_copyFrom 118 = .ok (.aload_n 0, 1)) ∧ (decode cX6_copyFrom 119 = .ok (.aload_n 1, 1)) ∧ (decode cX6_copyFrom 120 = .ok (.getfield 47, 3)) ∧ (decode cX6_copyFrom 123 = .ok (.putfield 47, 3)) ∧ (decode cX6_copyFrom 126 = .ok (.return_, 1)) := by decide +kernel
theorem dX6_copyFrom_118 : decode cX6_copyFrom 118 = .ok (.aload_n 0, 1) := da9_dX6_copyFrom_118.1
theorem dX6_copyFrom_119 : decode cX6_copyFrom 119 = .ok (.aload_n 1, 1) := da9_dX6_copyFrom_118.2.1
theorem dX6_copyFrom_120 : decode cX6_copyFrom 120 = .ok (.getfield 47, 3) := da9_dX6_copyFrom_118.2.2.1
theorem dX6_copyFrom_123 : decode cX6_copyFrom 123 = .ok (.putfield 47, 3) := da9_dX6_copyFrom_118.2.2.2.1
theorem dX6_copyFrom_126 : decode cX6_copyFrom 126 = .ok (.return_, 1) := da9_dX6_copyFrom_118.2.2.2.2
set_option maxRecDepth 20000 in
theorem ggX9_image_X9_isImage : GoodIn wsX9_image wsX9_isImage := goodIn_r _ [7] rfl (by decide +kernel)
set_option maxRecDepth 20000 in
theorem gX9_image_X9_isImage : GoodIn wsX9_image (va_wsS RX9 332 yX9_isImage wsX9_isImage) := goodIn_app (goodIn_of _ (by decide +kernel)) ggX9_image_X9_isImage
set_option maxRecDepth 20000 in
theorem ggX9_image_X9_refuse : GoodIn wsX9_image wsX9_refuse := goodIn_r _ [11, 12, 13, 54, 55, 56, 57, 58, 59, 60, 61, 62, 63, 64, 65, 66, 67, 68, 69, 70, 71, 72] rfl (by decide +kernel)
set_option maxRecDepth 20000 in
theorem gX9_image_X9_refuse : GoodIn wsX9_image (wsV RX9 118 RX9 yX9_refuse wsX9_refuse) := goodIn_app (goodIn_of _ (by decide +kernel)) ggX9_image_X9_refuse
set_option maxRecDepth 20000 in
theorem ggX9_image_X6_copyFrom : GoodIn wsX9_image wsX6_copyFrom := goodIn_r _ [18, 19, 20, 21, 22, 23, 24, 25, 26, 27, 28, 29, 30, 31, 32, 33, 34, 35, 36, 37, 38, 39, 40, 41, 42, 43, 44, 45, 46, 47, 48, 49, 73, 74, 75, 76, 77, 78, 79, 80, 81, 82, 83, 84, 85, 86, 87] rfl (by decide +kernel)
set_option maxRecDepth 20000 in
theorem gX9_image_X6_copyFrom : GoodIn wsX9_image (wsV RX9 335 RX6 yX6_copyFrom wsX6_copyFrom) := goodIn_app (goodIn_of _ (by decide +kernel)) ggX9_image_X6_copyFrom
set_option maxRecDepth 20000 in
theorem ggX9_image_X9_accept : GoodIn wsX9_image wsX9_accept := goodIn_r _ [53, 12, 54, 55, 56, 57, 58, 59, 60, 61, 62, 63, 64, 65, 66, 67, 68, 69, 70, 71, 72] rfl (by decide +kernel)
set_option maxRecDepth 20000 in
theorem gX9_image_X9_accept : GoodIn wsX9_image (wsV RX9 138 RX9 yX9_accept wsX9_accept) := goodIn_app (goodIn_of _ (by decide +kernel)) ggX9_image_X9_accept
theorem da9_dX9_image_0 : (decode cX9_image 0 = .ok (.iload_n 1, 1)) ∧ (decode cX9_image 1 = .ok (.invokestatic 332, 3)) ∧ (decode cX9_image 4 = .ok (.ifCond .ne 9, 3)) ∧ (decode cX9_image 7 = .ok (.aload_n 0, 1)) ∧ (decode cX9_image 8 = .ok (.iconst (-1), 1)) ∧ (decode cX9_image 9 = .ok (.invokevirtual 118, 3)) ∧ (decode cX9_image 12 = .ok (.ireturn, 1)) ∧ (decode cX9_image 13 = .ok (.aload_n 0, 1)) ∧ (decode cX9_image 14 = .ok (.getfield 16, 3)) ∧ (decode cX9_image 17 = .ok (.iload_n 1, 1)) ∧ (decode cX9_image 18 = .ok (.aaload, 1)) ∧ (decode cX9_image 19 = .ok (.aload_n 0, 1)) ∧ (decode cX9_image 20 = .ok (.getfield 10, 3)) ∧ (decode cX9_image 23 = .ok (.invokevirtual 335, 3)) ∧ (decode cX9_image 26 = .ok (.aload_n 0, 1)) ∧ (decode cX9_image 27 = .ok (.getfield 20, 3)) := by decide +kernel
theorem dX9_image_0 : decode cX9_image 0 = .ok (.iload_n 1, 1) := da9_dX9_image_0.1
theorem dX9_image_1 : decode cX9_image 1 = .ok (.invokestatic 332, 3) := da9_dX9_image_0.2.1
theorem dX9_image_4 : decode cX9_image 4 = .ok (.ifCond .ne 9, 3) := da9_dX9_image_0.2.2.1
theorem dX9_image_7 : decode cX9_image 7 = .ok (.aload_n 0, 1) := da9_dX9_image_0.2.2.2.1
theorem dX9_image_8 : decode cX9_image 8 = .ok (.iconst (-1), 1) := da9_dX9_image_0.2.2.2.2.1
theorem dX9_image_9 : decode cX9_image 9 = .ok (.invokevirtual 118, 3) := da9_dX9_image_0.2.2.2.2.2.1
theorem dX9_image_12 : decode cX9_image 12 = .ok (.ireturn, 1) := da9_dX9_image_0.2.2.2.2.2.2.1
theorem dX9_image_13 : decode cX9_image 13 = .ok (.aload_n 0, 1) := da9_dX9_image_0.2.2.2.2.2.2.2.1
theorem dX9_image_14 : decode cX9_image 14 = .ok (.getfield 16, 3) := da9_dX9_image_0.2.2.2.2.2.2.2.2.1
theorem dX9_image_17 : decode cX9_image 17 = .ok (.iload_n 1, 1) := da9_dX9_image_0.2.2.2.2.2.2.2.2.2.1
theorem dX9_image_18 : decode cX9_image 18 = .ok (.aaload, 1) := da9_dX9_image_0.2.2.2.2.2.2.2.2.2.2.1
theorem dX9_image_19 : decode cX9_image 19 = .ok (.aload_n 0, 1) := da9_dX9_image_0.2.2.2.2.2.2.2.2.2.2.2.1
theorem dX9_image_20 : decode cX9_image 20 = .ok (.getfield 10, 3) := da9_dX9_image_0.2.2.2.2.2.2.2.2.2.2.2.2.1
theorem dX9_image_23 : decode cX9_image 23 = .ok (.invokevirtual 335, 3) := da9_dX9_image_0.2.2.2.2.2.2.2.2.2.2.2.2.2.1
theorem dX9_image_26 : decode cX9_image 26 = .ok (.aload_n 0, 1) := da9_dX9_image_0.2.2.2.2.2.2.2.2.2.2.2.2.2.2.1
theorem dX9_image_27 : decode cX9_image 27 = .ok (.getfield 20, 3) := da9_dX9_image_0.2.2.2.2.2.2.2.2.2.2.2.2.2.2.2
theorem da9_dX9_image_30 : (decode cX9_image 30 = .ok (.iload_n 1, 1)) ∧ (decode cX9_image 31 = .ok (.iconst 1, 1)) ∧ (decode cX9_image 32 = .ok (.bastore, 1)) ∧ (decode cX9_image 33 = .ok (.aload_n 0, 1)) ∧ (decode cX9_image 34 = .ok (.iconst 0, 1)) ∧ (decode cX9_image 35 = .ok (.invokevirtual 138, 3)) ∧ (decode cX9_image 38 = .ok (.ireturn, 1)) := by decide +kernel
theorem dX9_image_30 : decode cX9_image 30 = .ok (.iload_n 1, 1) := da9_dX9_image_30.1
theorem dX9_image_31 : decode cX9_image 31 = .ok (.iconst 1, 1) := da9_dX9_image_30.2.1
theorem dX9_image_32 : decode cX9_image 32 = .ok (.bastore, 1) := da9_dX9_image_30.2.2.1
theorem dX9_image_33 : decode cX9_image 33 = .ok (.aload_n 0, 1) := da9_dX9_image_30.2.2.2.1
theorem dX9_image_34 : decode cX9_image 34 = .ok (.iconst 0, 1) := da9_dX9_image_30.2.2.2.2.1
theorem dX9_image_35 : decode cX9_image 35 = .ok (.invokevirtual 138, 3) := da9_dX9_image_30.2.2.2.2.2.1
theorem dX9_image_38 : decode cX9_image 38 = .ok (.ireturn, 1) := da9_dX9_image_30.2.2.2.2.2.2
