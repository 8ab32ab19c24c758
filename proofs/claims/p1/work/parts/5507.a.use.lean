set_option maxRecDepth 20000 in
theorem ggX6_copyFrom_X8_pack : GoodIn wsX6_copyFrom wsX8_pack := goodIn_r _ [15, 16, 17, 18, 19, 20, 42, 43, 44, 45, 46] rfl (by decide +kernel)
set_option maxRecDepth 20000 in
theorem gX6_copyFrom_X8_pack : GoodIn wsX6_copyFrom (wsV RX6 50 RX8 yX8_pack wsX8_pack) := goodIn_app (goodIn_of _ (by decide +kernel)) ggX6_copyFrom_X8_pack
set_option maxRecDepth 20000 in
theorem ggX6_copyFrom_X8_unpack : GoodIn wsX6_copyFrom wsX8_unpack := goodIn_r _ [24, 25, 20, 26, 19, 18, 17, 27, 28, 29, 30, 31, 16, 42, 43, 44, 45, 46] rfl (by decide +kernel)
set_option maxRecDepth 20000 in
theorem gX6_copyFrom_X8_unpack : GoodIn wsX6_copyFrom (wsV RX6 54 RX8 yX8_unpack wsX8_unpack) := goodIn_app (goodIn_of _ (by decide +kernel)) ggX6_copyFrom_X8_unpack
theorem dX6_copyFrom_0 : decode cX6_copyFrom 0 = .ok (.aload_n 0, 1) := by decide +kernel
theorem dX6_copyFrom_1 : decode cX6_copyFrom 1 = .ok (.getfield 12, 3) := by decide +kernel
theorem dX6_copyFrom_4 : decode cX6_copyFrom 4 = .ok (.aload_n 1, 1) := by decide +kernel
theorem dX6_copyFrom_5 : decode cX6_copyFrom 5 = .ok (.getfield 12, 3) := by decide +kernel
theorem dX6_copyFrom_8 : decode cX6_copyFrom 8 = .ok (.invokevirtual 50, 3) := by decide +kernel
theorem dX6_copyFrom_11 : decode cX6_copyFrom 11 = .ok (.invokevirtual 54, 3) := by decide +kernel
theorem dX6_copyFrom_14 : decode cX6_copyFrom 14 = .ok (.aload_n 0, 1) := by decide +kernel
theorem dX6_copyFrom_15 : decode cX6_copyFrom 15 = .ok (.aload_n 1, 1) := by decide +kernel
theorem dX6_copyFrom_16 : decode cX6_copyFrom 16 = .ok (.getfield 18, 3) := by decide +kernel
theorem dX6_copyFrom_19 : decode cX6_copyFrom 19 = .ok (.putfield 18, 3) := by decide +kernel
theorem dX6_copyFrom_22 : decode cX6_copyFrom 22 = .ok (.aload_n 0, 1) := by decide +kernel
theorem dX6_copyFrom_23 : decode cX6_copyFrom 23 = .ok (.aload_n 1, 1) := by decide +kernel
theorem dX6_copyFrom_24 : decode cX6_copyFrom 24 = .ok (.getfield 22, 3) := by decide +kernel
theorem dX6_copyFrom_27 : decode cX6_copyFrom 27 = .ok (.putfield 22, 3) := by decide +kernel
theorem dX6_copyFrom_30 : decode cX6_copyFrom 30 = .ok (.aload_n 0, 1) := by decide +kernel
theorem dX6_copyFrom_31 : decode cX6_copyFrom 31 = .ok (.aload_n 1, 1) := by decide +kernel
theorem dX6_copyFrom_32 : decode cX6_copyFrom 32 = .ok (.getfield 25, 3) := by decide +kernel
theorem dX6_copyFrom_35 : decode cX6_copyFrom 35 = .ok (.putfield 25, 3) := by decide +kernel
theorem dX6_copyFrom_38 : decode cX6_copyFrom 38 = .ok (.aload_n 0, 1) := by decide +kernel
theorem dX6_copyFrom_39 : decode cX6_copyFrom 39 = .ok (.aload_n 1, 1) := by decide +kernel
theorem dX6_copyFrom_40 : decode cX6_copyFrom 40 = .ok (.getfield 35, 3) := by decide +kernel
theorem dX6_copyFrom_43 : decode cX6_copyFrom 43 = .ok (.putfield 35, 3) := by decide +kernel
theorem dX6_copyFrom_46 : decode cX6_copyFrom 46 = .ok (.iconst 0, 1) := by decide +kernel
theorem dX6_copyFrom_47 : decode cX6_copyFrom 47 = .ok (.istore_n 2, 1) := by decide +kernel
theorem dX6_copyFrom_48 : decode cX6_copyFrom 48 = .ok (.iload_n 2, 1) := by decide +kernel
theorem dX6_copyFrom_49 : decode cX6_copyFrom 49 = .ok (.bipush 6, 2) := by decide +kernel
theorem dX6_copyFrom_51 : decode cX6_copyFrom 51 = .ok (.if_icmp .ge 33, 3) := by decide +kernel
theorem dX6_copyFrom_54 : decode cX6_copyFrom 54 = .ok (.aload_n 0, 1) := by decide +kernel
theorem dX6_copyFrom_55 : decode cX6_copyFrom 55 = .ok (.getfield 28, 3) := by decide +kernel
theorem dX6_copyFrom_58 : decode cX6_copyFrom 58 = .ok (.iload_n 2, 1) := by decide +kernel
theorem dX6_copyFrom_59 : decode cX6_copyFrom 59 = .ok (.aload_n 1, 1) := by decide +kernel
theorem dX6_copyFrom_60 : decode cX6_copyFrom 60 = .ok (.getfield 28, 3) := by decide +kernel
theorem dX6_copyFrom_63 : decode cX6_copyFrom 63 = .ok (.iload_n 2, 1) := by decide +kernel
theorem dX6_copyFrom_64 : decode cX6_copyFrom 64 = .ok (.iaload, 1) := by decide +kernel
theorem dX6_copyFrom_65 : decode cX6_copyFrom 65 = .ok (.iastore, 1) := by decide +kernel
theorem dX6_copyFrom_66 : decode cX6_copyFrom 66 = .ok (.aload_n 0, 1) := by decide +kernel
theorem dX6_copyFrom_67 : decode cX6_copyFrom 67 = .ok (.getfield 32, 3) := by decide +kernel
theorem dX6_copyFrom_70 : decode cX6_copyFrom 70 = .ok (.iload_n 2, 1) := by decide +kernel
theorem dX6_copyFrom_71 : decode cX6_copyFrom 71 = .ok (.aload_n 1, 1) := by decide +kernel
theorem dX6_copyFrom_72 : decode cX6_copyFrom 72 = .ok (.getfield 32, 3) := by decide +kernel
theorem dX6_copyFrom_75 : decode cX6_copyFrom 75 = .ok (.iload_n 2, 1) := by decide +kernel
theorem dX6_copyFrom_76 : decode cX6_copyFrom 76 = .ok (.iaload, 1) := by decide +kernel
theorem dX6_copyFrom_77 : decode cX6_copyFrom 77 = .ok (.iastore, 1) := by decide +kernel
theorem dX6_copyFrom_78 : decode cX6_copyFrom 78 = .ok (.iinc 2 1, 3) := by decide +kernel
theorem dX6_copyFrom_81 : decode cX6_copyFrom 81 = .ok (.goto (-33), 3) := by decide +kernel
theorem dX6_copyFrom_84 : decode cX6_copyFrom 84 = .ok (.aload_n 0, 1) := by decide +kernel
theorem dX6_copyFrom_85 : decode cX6_copyFrom 85 = .ok (.aload_n 1, 1) := by decide +kernel
theorem dX6_copyFrom_86 : decode cX6_copyFrom 86 = .ok (.getfield 44, 3) := by decide +kernel
theorem dX6_copyFrom_89 : decode cX6_copyFrom 89 = .ok (.putfield 44, 3) := by decide +kernel
theorem dX6_copyFrom_92 : decode cX6_copyFrom 92 = .ok (.iconst 0, 1) := by decide +kernel
theorem dX6_copyFrom_93 : decode cX6_copyFrom 93 = .ok (.istore_n 2, 1) := by decide +kernel
theorem dX6_copyFrom_94 : decode cX6_copyFrom 94 = .ok (.iload_n 2, 1) := by decide +kernel
theorem dX6_copyFrom_95 : decode cX6_copyFrom 95 = .ok (.bipush 6, 2) := by decide +kernel
theorem dX6_copyFrom_97 : decode cX6_copyFrom 97 = .ok (.if_icmp .ge 21, 3) := by decide +kernel
theorem dX6_copyFrom_100 : decode cX6_copyFrom 100 = .ok (.aload_n 0, 1) := by decide +kernel
theorem dX6_copyFrom_101 : decode cX6_copyFrom 101 = .ok (.getfield 40, 3) := by decide +kernel
theorem dX6_copyFrom_104 : decode cX6_copyFrom 104 = .ok (.iload_n 2, 1) := by decide +kernel
theorem dX6_copyFrom_105 : decode cX6_copyFrom 105 = .ok (.aload_n 1, 1) := by decide +kernel
theorem dX6_copyFrom_106 : decode cX6_copyFrom 106 = .ok (.getfield 40, 3) := by decide +kernel
theorem dX6_copyFrom_109 : decode cX6_copyFrom 109 = .ok (.iload_n 2, 1) := by decide +kernel
theorem dX6_copyFrom_110 : decode cX6_copyFrom 110 = .ok (.aaload, 1) := by decide +kernel
theorem dX6_copyFrom_111 : decode cX6_copyFrom 111 = .ok (.aastore, 1) := by decide +kernel
theorem dX6_copyFrom_112 : decode cX6_copyFrom 112 = .ok (.iinc 2 1, 3) := by decide +kernel
theorem dX6_copyFrom_115 : decode cX6_copyFrom 115 = .ok (.goto (-21), 3) := by decide +kernel
theorem dX6_copyFrom_118 : decode cX6_copyFrom 118 = .ok (.aload_n 0, 1) := by decide +kernel
theorem dX6_copyFrom_119 : decode cX6_copyFrom 119 = .ok (.aload_n 1, 1) := by decide +kernel
theorem dX6_copyFrom_120 : decode cX6_copyFrom 120 = .ok (.getfield 47, 3) := by decide +kernel
theorem dX6_copyFrom_123 : decode cX6_copyFrom 123 = .ok (.putfield 47, 3) := by decide +kernel
theorem dX6_copyFrom_126 : decode cX6_copyFrom 126 = .ok (.return_, 1) := by decide +kernel
theorem dX8_onHeads_0 : decode cX8_onHeads 0 = .ok (.iconst 0, 1) := by decide +kernel
theorem dX8_onHeads_1 : decode cX8_onHeads 1 = .ok (.istore_n 1, 1) := by decide +kernel
theorem dX8_onHeads_2 : decode cX8_onHeads 2 = .ok (.iconst 0, 1) := by decide +kernel
theorem dX8_onHeads_3 : decode cX8_onHeads 3 = .ok (.istore_n 2, 1) := by decide +kernel
theorem dX8_onHeads_4 : decode cX8_onHeads 4 = .ok (.iload_n 2, 1) := by decide +kernel
theorem dX8_onHeads_5 : decode cX8_onHeads 5 = .ok (.aload_n 0, 1) := by decide +kernel
theorem dX8_onHeads_6 : decode cX8_onHeads 6 = .ok (.getfield 18, 3) := by decide +kernel
theorem dX8_onHeads_9 : decode cX8_onHeads 9 = .ok (.if_icmp .ge 18, 3) := by decide +kernel
theorem dX8_onHeads_27 : decode cX8_onHeads 27 = .ok (.iload_n 1, 1) := by decide +kernel
theorem dX8_onHeads_28 : decode cX8_onHeads 28 = .ok (.ireturn, 1) := by decide +kernel
theorem dX8_rises_0 : decode cX8_rises 0 = .ok (.iconst (-1), 1) := by decide +kernel
theorem dX8_rises_1 : decode cX8_rises 1 = .ok (.istore_n 3, 1) := by decide +kernel
theorem dX8_rises_2 : decode cX8_rises 2 = .ok (.iconst 0, 1) := by decide +kernel
theorem dX8_rises_3 : decode cX8_rises 3 = .ok (.istore 4, 2) := by decide +kernel
theorem dX8_rises_5 : decode cX8_rises 5 = .ok (.iload 4, 2) := by decide +kernel
theorem dX8_rises_7 : decode cX8_rises 7 = .ok (.aload_n 0, 1) := by decide +kernel
theorem dX8_rises_8 : decode cX8_rises 8 = .ok (.getfield 18, 3) := by decide +kernel
theorem dX8_rises_11 : decode cX8_rises 11 = .ok (.if_icmp .ge 56, 3) := by decide +kernel
theorem dX8_rises_67 : decode cX8_rises 67 = .ok (.iconst 1, 1) := by decide +kernel
theorem dX8_rises_68 : decode cX8_rises 68 = .ok (.ireturn, 1) := by decide +kernel
set_option maxRecDepth 20000 in
theorem ggX9_image_X9_isImage : GoodIn wsX9_image wsX9_isImage := goodIn_r _ [7] rfl (by decide +kernel)
set_option maxRecDepth 20000 in
theorem gX9_image_X9_isImage : GoodIn wsX9_image (va_wsS RX9 332 yX9_isImage wsX9_isImage) := goodIn_app (goodIn_of _ (by decide +kernel)) ggX9_image_X9_isImage
set_option maxRecDepth 20000 in
theorem ggX9_image_X9_refuse : GoodIn wsX9_image wsX9_refuse := goodIn_r _ [11, 12, 13, 54, 55, 56, 57, 58, 59, 60, 61, 62, 63, 64, 65, 66, 67, 68, 69, 70, 71, 72] rfl (by decide +kernel)
set_option maxRecDepth 20000 in
theorem gX9_image_X9_refuse : GoodIn wsX9_image (wsV RX9 118 RX9 yX9_refuse wsX9_refuse) := goodIn_app (goodIn_of _ (by decide +kernel)) ggX9_image_X9_refuse
set_option maxRecDepth 20000 in
theorem ggX9_image_X6_copyFrom : GoodIn wsX9_image wsX6_copyFrom := goodIn_r _ [18, 19, 20, 21, 22, 23, 24, 25, 26, 27, 28, 29, 30, 31, 32, 33, 34, 35, 36, 37, 38, 39, 40, 41, 42, 43, 44, 45, 46, 47, 48, 49, 73, 74, 75, 76, 77, 78, 79, 80, 81, 82, 83, 84, 85, 86, 87] rfl (by decide +kernel)
set_option maxRecDepth 20000 in
theorem gX9_image_X6_copyFrom : GoodIn wsX9_image (wsV RX9 335 RX6 yX6_copyFrom wsX6_copyFrom) := goodIn_app (goodIn_of _ (by decide +kernel)) ggX9_image_X6_copyFrom
set_option maxRecDepth 20000 in
theorem ggX9_image_X9_accept : GoodIn wsX9_image wsX9_accept := goodIn_r _ [53, 12, 54, 55, 56, 57, 58, 59, 60, 61, 62, 63, 64, 65, 66, 67, 68, 69, 70, 71, 72] rfl (by decide +kernel)
set_option maxRecDepth 20000 in
theorem gX9_image_X9_accept : GoodIn wsX9_image (wsV RX9 138 RX9 yX9_accept wsX9_accept) := goodIn_app (goodIn_of _ (by decide +kernel)) ggX9_image_X9_accept
theorem dX9_image_0 : decode cX9_image 0 = .ok (.iload_n 1, 1) := by decide +kernel
theorem dX9_image_1 : decode cX9_image 1 = .ok (.invokestatic 332, 3) := by decide +kernel
theorem dX9_image_4 : decode cX9_image 4 = .ok (.ifCond .ne 9, 3) := by decide +kernel
theorem dX9_image_7 : decode cX9_image 7 = .ok (.aload_n 0, 1) := by decide +kernel
theorem dX9_image_8 : decode cX9_image 8 = .ok (.iconst (-1), 1) := by decide +kernel
theorem dX9_image_9 : decode cX9_image 9 = .ok (.invokevirtual 118, 3) := by decide +kernel
theorem dX9_image_12 : decode cX9_image 12 = .ok (.ireturn, 1) := by decide +kernel
theorem dX9_image_13 : decode cX9_image 13 = .ok (.aload_n 0, 1) := by decide +kernel
theorem dX9_image_14 : decode cX9_image 14 = .ok (.getfield 16, 3) := by decide +kernel
theorem dX9_image_17 : decode cX9_image 17 = .ok (.iload_n 1, 1) := by decide +kernel
theorem dX9_image_18 : decode cX9_image 18 = .ok (.aaload, 1) := by decide +kernel
theorem dX9_image_19 : decode cX9_image 19 = .ok (.aload_n 0, 1) := by decide +kernel
theorem dX9_image_20 : decode cX9_image 20 = .ok (.getfield 10, 3) := by decide +kernel
theorem dX9_image_23 : decode cX9_image 23 = .ok (.invokevirtual 335, 3) := by decide +kernel
theorem dX9_image_26 : decode cX9_image 26 = .ok (.aload_n 0, 1) := by decide +kernel
theorem dX9_image_27 : decode cX9_image 27 = .ok (.getfield 20, 3) := by decide +kernel
theorem dX9_image_30 : decode cX9_image 30 = .ok (.iload_n 1, 1) := by decide +kernel
theorem dX9_image_31 : decode cX9_image 31 = .ok (.iconst 1, 1) := by decide +kernel
theorem dX9_image_32 : decode cX9_image 32 = .ok (.bastore, 1) := by decide +kernel
theorem dX9_image_33 : decode cX9_image 33 = .ok (.aload_n 0, 1) := by decide +kernel
theorem dX9_image_34 : decode cX9_image 34 = .ok (.iconst 0, 1) := by decide +kernel
theorem dX9_image_35 : decode cX9_image 35 = .ok (.invokevirtual 138, 3) := by decide +kernel
theorem dX9_image_38 : decode cX9_image 38 = .ok (.ireturn, 1) := by decide +kernel
set_option maxRecDepth 20000 in
theorem ggX9_back_X9_isImage : GoodIn wsX9_back wsX9_isImage := goodIn_r _ [8] rfl (by decide +kernel)
set_option maxRecDepth 20000 in
theorem gX9_back_X9_isImage : GoodIn wsX9_back (va_wsS RX9 332 yX9_isImage wsX9_isImage) := goodIn_app (goodIn_of _ (by decide +kernel)) ggX9_back_X9_isImage
set_option maxRecDepth 20000 in
theorem ggX9_back_X9_refuse : GoodIn wsX9_back wsX9_refuse := goodIn_r _ [12, 13, 14, 61, 62, 63, 64, 65, 66, 67, 68, 69, 70, 71, 72, 73, 74, 75, 76, 77, 78, 79] rfl (by decide +kernel)
set_option maxRecDepth 20000 in
theorem gX9_back_X9_refuse : GoodIn wsX9_back (wsV RX9 118 RX9 yX9_refuse wsX9_refuse) := goodIn_app (goodIn_of _ (by decide +kernel)) ggX9_back_X9_refuse
theorem dX9_back_0 : decode cX9_back 0 = .ok (.iload_n 1, 1) := by decide +kernel
theorem dX9_back_1 : decode cX9_back 1 = .ok (.invokestatic 332, 3) := by decide +kernel
theorem dX9_back_4 : decode cX9_back 4 = .ok (.ifCond .ne 9, 3) := by decide +kernel
theorem dX9_back_7 : decode cX9_back 7 = .ok (.aload_n 0, 1) := by decide +kernel
theorem dX9_back_8 : decode cX9_back 8 = .ok (.iconst (-1), 1) := by decide +kernel
theorem dX9_back_9 : decode cX9_back 9 = .ok (.invokevirtual 118, 3) := by decide +kernel
theorem dX9_back_12 : decode cX9_back 12 = .ok (.ireturn, 1) := by decide +kernel
theorem dX9_back_13 : decode cX9_back 13 = .ok (.aload_n 0, 1) := by decide +kernel
theorem dX9_back_14 : decode cX9_back 14 = .ok (.getfield 20, 3) := by decide +kernel
theorem dX9_back_17 : decode cX9_back 17 = .ok (.iload_n 1, 1) := by decide +kernel
theorem dX9_back_18 : decode cX9_back 18 = .ok (.baload, 1) := by decide +kernel
theorem dX9_back_19 : decode cX9_back 19 = .ok (.ifCond .ne 10, 3) := by decide +kernel
theorem dX9_back_22 : decode cX9_back 22 = .ok (.aload_n 0, 1) := by decide +kernel
theorem dX9_back_23 : decode cX9_back 23 = .ok (.bipush (-2), 2) := by decide +kernel
theorem dX9_back_25 : decode cX9_back 25 = .ok (.invokevirtual 118, 3) := by decide +kernel
theorem dX9_back_28 : decode cX9_back 28 = .ok (.ireturn, 1) := by decide +kernel
set_option maxRecDepth 20000 in
theorem ggX9_count_X8_onHeads : GoodIn wsX9_count wsX8_onHeads := goodIn_r _ [9, 10, 11, 59, 60, 61, 62, 63] rfl (by decide +kernel)
set_option maxRecDepth 20000 in
theorem gX9_count_X8_onHeads : GoodIn wsX9_count (wsV RX9 339 RX8 yX8_onHeads wsX8_onHeads) := goodIn_app (goodIn_of _ (by decide +kernel)) ggX9_count_X8_onHeads
set_option maxRecDepth 20000 in
theorem ggX9_count_X6_term : GoodIn wsX9_count wsX6_term := goodIn_r _ [16, 17, 18, 19, 20, 49, 50, 51, 52, 53, 54, 55, 56, 57, 58, 59, 60, 61, 62, 63] rfl (by decide +kernel)
set_option maxRecDepth 20000 in
theorem gX9_count_X6_term : GoodIn wsX9_count (wsV RX9 170 RX6 yX6_term wsX6_term) := goodIn_app (goodIn_of _ (by decide +kernel)) ggX9_count_X6_term
set_option maxRecDepth 20000 in
theorem ggX9_count_X8_rises : GoodIn wsX9_count wsX8_rises := goodIn_r _ [24, 10, 25, 11, 59, 60, 61, 62, 63] rfl (by decide +kernel)
set_option maxRecDepth 20000 in
theorem gX9_count_X8_rises : GoodIn wsX9_count (wsV RX9 270 RX8 yX8_rises wsX8_rises) := goodIn_app (goodIn_of _ (by decide +kernel)) ggX9_count_X8_rises
set_option maxRecDepth 20000 in
theorem ggX9_count_X9_bit : GoodIn wsX9_count wsX9_bit := goodIn_r _ [29] rfl (by decide +kernel)
set_option maxRecDepth 20000 in
theorem gX9_count_X9_bit : GoodIn wsX9_count (va_wsS RX9 152 yX9_bit wsX9_bit) := goodIn_app (goodIn_of _ (by decide +kernel)) ggX9_count_X9_bit
theorem dX9_count_0 : decode cX9_count 0 = .ok (.iload_n 1, 1) := by decide +kernel
theorem dX9_count_1 : decode cX9_count 1 = .ok (.tableswitch 240 0 17 #[87, 98, 109, 120, 128, 136, 144, 149, 156, 163, 170, 177, 185, 193, 193, 193, 193, 205], 87) := by decide +kernel
theorem dX9_count_88 : decode cX9_count 88 = .ok (.aload_n 0, 1) := by decide +kernel
theorem dX9_count_89 : decode cX9_count 89 = .ok (.getfield 10, 3) := by decide +kernel
theorem dX9_count_92 : decode cX9_count 92 = .ok (.getfield 122, 3) := by decide +kernel
theorem dX9_count_95 : decode cX9_count 95 = .ok (.getfield 135, 3) := by decide +kernel
theorem dX9_count_98 : decode cX9_count 98 = .ok (.ireturn, 1) := by decide +kernel
theorem dX9_count_99 : decode cX9_count 99 = .ok (.aload_n 0, 1) := by decide +kernel
theorem dX9_count_100 : decode cX9_count 100 = .ok (.getfield 10, 3) := by decide +kernel
theorem dX9_count_103 : decode cX9_count 103 = .ok (.getfield 122, 3) := by decide +kernel
theorem dX9_count_106 : decode cX9_count 106 = .ok (.invokevirtual 339, 3) := by decide +kernel
theorem dX9_count_109 : decode cX9_count 109 = .ok (.ireturn, 1) := by decide +kernel
theorem dX9_count_110 : decode cX9_count 110 = .ok (.aload_n 0, 1) := by decide +kernel
theorem dX9_count_111 : decode cX9_count 111 = .ok (.getfield 10, 3) := by decide +kernel
theorem dX9_count_114 : decode cX9_count 114 = .ok (.getfield 122, 3) := by decide +kernel
theorem dX9_count_117 : decode cX9_count 117 = .ok (.getfield 329, 3) := by decide +kernel
theorem dX9_count_120 : decode cX9_count 120 = .ok (.ireturn, 1) := by decide +kernel
theorem dX9_count_121 : decode cX9_count 121 = .ok (.aload_n 0, 1) := by decide +kernel
theorem dX9_count_122 : decode cX9_count 122 = .ok (.getfield 10, 3) := by decide +kernel
theorem dX9_count_125 : decode cX9_count 125 = .ok (.getfield 273, 3) := by decide +kernel
theorem dX9_count_128 : decode cX9_count 128 = .ok (.ireturn, 1) := by decide +kernel
theorem dX9_count_129 : decode cX9_count 129 = .ok (.aload_n 0, 1) := by decide +kernel
theorem dX9_count_130 : decode cX9_count 130 = .ok (.getfield 10, 3) := by decide +kernel
theorem dX9_count_133 : decode cX9_count 133 = .ok (.getfield 183, 3) := by decide +kernel
theorem dX9_count_136 : decode cX9_count 136 = .ok (.ireturn, 1) := by decide +kernel
theorem dX9_count_137 : decode cX9_count 137 = .ok (.aload_n 0, 1) := by decide +kernel
theorem dX9_count_138 : decode cX9_count 138 = .ok (.getfield 27, 3) := by decide +kernel
theorem dX9_count_141 : decode cX9_count 141 = .ok (.getfield 214, 3) := by decide +kernel
theorem dX9_count_144 : decode cX9_count 144 = .ok (.ireturn, 1) := by decide +kernel
theorem dX9_count_145 : decode cX9_count 145 = .ok (.aload_n 0, 1) := by decide +kernel
theorem dX9_count_146 : decode cX9_count 146 = .ok (.getfield 88, 3) := by decide +kernel
theorem dX9_count_149 : decode cX9_count 149 = .ok (.ireturn, 1) := by decide +kernel
theorem dX9_count_150 : decode cX9_count 150 = .ok (.aload_n 0, 1) := by decide +kernel
theorem dX9_count_151 : decode cX9_count 151 = .ok (.getfield 105, 3) := by decide +kernel
theorem dX9_count_154 : decode cX9_count 154 = .ok (.iconst 1, 1) := by decide +kernel
theorem dX9_count_155 : decode cX9_count 155 = .ok (.iaload, 1) := by decide +kernel
theorem dX9_count_156 : decode cX9_count 156 = .ok (.ireturn, 1) := by decide +kernel
theorem dX9_count_157 : decode cX9_count 157 = .ok (.aload_n 0, 1) := by decide +kernel
theorem dX9_count_158 : decode cX9_count 158 = .ok (.getfield 105, 3) := by decide +kernel
theorem dX9_count_161 : decode cX9_count 161 = .ok (.iconst 2, 1) := by decide +kernel
theorem dX9_count_162 : decode cX9_count 162 = .ok (.iaload, 1) := by decide +kernel
theorem dX9_count_163 : decode cX9_count 163 = .ok (.ireturn, 1) := by decide +kernel
theorem dX9_count_164 : decode cX9_count 164 = .ok (.aload_n 0, 1) := by decide +kernel
theorem dX9_count_165 : decode cX9_count 165 = .ok (.getfield 105, 3) := by decide +kernel
theorem dX9_count_168 : decode cX9_count 168 = .ok (.iconst 3, 1) := by decide +kernel
theorem dX9_count_169 : decode cX9_count 169 = .ok (.iaload, 1) := by decide +kernel
theorem dX9_count_170 : decode cX9_count 170 = .ok (.ireturn, 1) := by decide +kernel
theorem dX9_count_171 : decode cX9_count 171 = .ok (.aload_n 0, 1) := by decide +kernel
theorem dX9_count_172 : decode cX9_count 172 = .ok (.getfield 105, 3) := by decide +kernel
theorem dX9_count_175 : decode cX9_count 175 = .ok (.iconst 5, 1) := by decide +kernel
theorem dX9_count_176 : decode cX9_count 176 = .ok (.iaload, 1) := by decide +kernel
theorem dX9_count_177 : decode cX9_count 177 = .ok (.ireturn, 1) := by decide +kernel
theorem dX9_count_178 : decode cX9_count 178 = .ok (.aload_n 0, 1) := by decide +kernel
theorem dX9_count_179 : decode cX9_count 179 = .ok (.getfield 105, 3) := by decide +kernel
theorem dX9_count_182 : decode cX9_count 182 = .ok (.bipush 6, 2) := by decide +kernel
theorem dX9_count_184 : decode cX9_count 184 = .ok (.iaload, 1) := by decide +kernel
theorem dX9_count_185 : decode cX9_count 185 = .ok (.ireturn, 1) := by decide +kernel
theorem dX9_count_186 : decode cX9_count 186 = .ok (.aload_n 0, 1) := by decide +kernel
theorem dX9_count_187 : decode cX9_count 187 = .ok (.getfield 10, 3) := by decide +kernel
theorem dX9_count_190 : decode cX9_count 190 = .ok (.getfield 208, 3) := by decide +kernel
theorem dX9_count_193 : decode cX9_count 193 = .ok (.ireturn, 1) := by decide +kernel
theorem dX9_count_194 : decode cX9_count 194 = .ok (.aload_n 0, 1) := by decide +kernel
theorem dX9_count_195 : decode cX9_count 195 = .ok (.getfield 10, 3) := by decide +kernel
theorem dX9_count_198 : decode cX9_count 198 = .ok (.iload_n 1, 1) := by decide +kernel
theorem dX9_count_199 : decode cX9_count 199 = .ok (.bipush 13, 2) := by decide +kernel
theorem dX9_count_201 : decode cX9_count 201 = .ok (.isub, 1) := by decide +kernel
theorem dX9_count_202 : decode cX9_count 202 = .ok (.invokevirtual 170, 3) := by decide +kernel
theorem dX9_count_205 : decode cX9_count 205 = .ok (.ireturn, 1) := by decide +kernel
theorem dX9_count_206 : decode cX9_count 206 = .ok (.aload_n 0, 1) := by decide +kernel
theorem dX9_count_207 : decode cX9_count 207 = .ok (.getfield 10, 3) := by decide +kernel
theorem dX9_count_210 : decode cX9_count 210 = .ok (.getfield 122, 3) := by decide +kernel
theorem dX9_count_213 : decode cX9_count 213 = .ok (.iconst 1, 1) := by decide +kernel
theorem dX9_count_214 : decode cX9_count 214 = .ok (.aload_n 0, 1) := by decide +kernel
theorem dX9_count_215 : decode cX9_count 215 = .ok (.getfield 10, 3) := by decide +kernel
theorem dX9_count_218 : decode cX9_count 218 = .ok (.getfield 122, 3) := by decide +kernel
theorem dX9_count_221 : decode cX9_count 221 = .ok (.getfield 135, 3) := by decide +kernel
theorem dX9_count_224 : decode cX9_count 224 = .ok (.ishl, 1) := by decide +kernel
theorem dX9_count_225 : decode cX9_count 225 = .ok (.iconst 1, 1) := by decide +kernel
theorem dX9_count_226 : decode cX9_count 226 = .ok (.isub, 1) := by decide +kernel
theorem dX9_count_227 : decode cX9_count 227 = .ok (.aload_n 0, 1) := by decide +kernel
theorem dX9_count_228 : decode cX9_count 228 = .ok (.getfield 10, 3) := by decide +kernel
theorem dX9_count_231 : decode cX9_count 231 = .ok (.getfield 267, 3) := by decide +kernel
theorem dX9_count_234 : decode cX9_count 234 = .ok (.invokevirtual 270, 3) := by decide +kernel
theorem dX9_count_237 : decode cX9_count 237 = .ok (.invokestatic 152, 3) := by decide +kernel
theorem dX9_count_240 : decode cX9_count 240 = .ok (.ireturn, 1) := by decide +kernel
theorem dX9_count_241 : decode cX9_count 241 = .ok (.iconst (-1), 1) := by decide +kernel
theorem dX9_count_242 : decode cX9_count 242 = .ok (.ireturn, 1) := by decide +kernel
theorem dX9_status_0 : decode cX9_status 0 = .ok (.aload_n 0, 1) := by decide +kernel
theorem dX9_status_1 : decode cX9_status 1 = .ok (.getfield 108, 3) := by decide +kernel
theorem dX9_status_4 : decode cX9_status 4 = .ok (.ireturn, 1) := by decide +kernel
