set_option maxRecDepth 20000 in
theorem ggX10_worst_X10_lies : GoodIn wsX10_worst wsX10_lies := goodIn_r _ [7] (by decide +kernel) (by decide +kernel)
set_option maxRecDepth 20000 in
theorem gX10_worst_X10_lies : GoodIn wsX10_worst (va_wsS RX10 18 yX10_lies wsX10_lies) := goodIn_app (goodIn_of _ (by decide +kernel)) ggX10_worst_X10_lies
set_option maxRecDepth 20000 in
theorem ggX10_worst_X10_laysDist : GoodIn wsX10_worst wsX10_laysDist := goodIn_r _ [11, 1, 2, 3, 12, 13, 14, 15, 16, 17, 6, 18, 19, 20, 21, 22, 23, 24, 25, 26, 27, 28, 29, 30, 31, 32, 33, 34, 35, 36, 37, 38, 39, 40, 41, 42, 43, 44, 45, 46, 47, 48, 49, 50, 51, 52, 53, 54, 55, 56, 57, 58, 59, 60, 61, 62, 63, 64, 65, 66, 67, 68, 69, 70, 71, 72, 73, 74, 75, 76, 77, 78, 79, 80, 81, 82, 83, 84, 85, 86, 87, 88, 89, 90, 91, 92, 93, 94, 95, 96, 97, 98, 99, 100, 101, 102, 103, 104, 105, 106, 107, 108, 109, 110, 111, 112, 113, 114, 115, 116, 117, 118, 119, 4, 5, 7, 120, 121, 122, 123, 124, 125, 126, 127, 128, 129, 130, 131, 132, 133, 134, 135, 136, 137, 138, 139, 140, 141, 142, 143, 144, 145, 146, 147, 148, 149, 150, 151, 152, 153, 154, 155, 156, 157, 158, 159, 160, 161, 162, 163, 164, 165, 166, 170, 171, 172, 173, 174, 175, 176, 177, 178, 179, 180, 181, 182, 183, 184, 185, 186, 187, 188, 189, 190, 191, 192, 193, 194, 195, 196, 197, 198, 199, 200, 201, 202, 203, 204, 205, 206, 207, 208, 209, 210, 211, 212, 213, 214, 215, 216, 217, 218, 219, 220, 221, 222, 223, 224, 225] (by decide +kernel) (by decide +kernel)
set_option maxRecDepth 20000 in
theorem gX10_worst_X10_laysDist : GoodIn wsX10_worst (wsV RX10 430 RX10 yX10_laysDist wsX10_laysDist) := goodIn_app (goodIn_of _ (by decide +kernel)) ggX10_worst_X10_laysDist
set_option maxRecDepth 20000 in
theorem ggX10_worst_X10_isThere : GoodIn wsX10_worst wsX10_isThere := goodIn_r _ [151, 24, 1, 170, 171, 172, 173, 174, 175, 176, 177, 178, 179, 180, 181, 182, 183, 184, 185, 186, 187, 188, 189, 190, 191, 192, 193, 194, 195, 196, 197, 198, 199, 200, 201, 202, 203, 204, 205, 206, 207, 208, 209, 210, 211, 212, 213, 214, 215, 216, 217, 218, 219, 220, 221, 222, 223, 224, 225] (by decide +kernel) (by decide +kernel)
set_option maxRecDepth 20000 in
theorem gX10_worst_X10_isThere : GoodIn wsX10_worst (wsV RX10 417 RX10 yX10_isThere wsX10_isThere) := goodIn_app (goodIn_of _ (by decide +kernel)) ggX10_worst_X10_isThere
set_option maxRecDepth 20000 in
theorem ggX10_worst_X10_greater : GoodIn wsX10_worst wsX10_greater := goodIn_r _ [169] (by decide +kernel) (by decide +kernel)
set_option maxRecDepth 20000 in
theorem gX10_worst_X10_greater : GoodIn wsX10_worst (va_wsS RX10 439 yX10_greater wsX10_greater) := goodIn_app (goodIn_of _ (by decide +kernel)) ggX10_worst_X10_greater
theorem dX10_worst_0 : decode cX10_worst 0 = .ok (.iload_n 1, 1) := by decide +kernel
theorem dX10_worst_1 : decode cX10_worst 1 = .ok (.iconst 0, 1) := by decide +kernel
theorem dX10_worst_2 : decode cX10_worst 2 = .ok (.iconst 2, 1) := by decide +kernel
theorem dX10_worst_3 : decode cX10_worst 3 = .ok (.invokestatic 18, 3) := by decide +kernel
theorem dX10_worst_6 : decode cX10_worst 6 = .ok (.ifCond .ne 5, 3) := by decide +kernel
theorem dX10_worst_9 : decode cX10_worst 9 = .ok (.iconst (-1), 1) := by decide +kernel
theorem dX10_worst_10 : decode cX10_worst 10 = .ok (.ireturn, 1) := by decide +kernel
theorem dX10_worst_11 : decode cX10_worst 11 = .ok (.aload_n 0, 1) := by decide +kernel
theorem dX10_worst_12 : decode cX10_worst 12 = .ok (.invokevirtual 430, 3) := by decide +kernel
theorem dX10_worst_15 : decode cX10_worst 15 = .ok (.iconst 0, 1) := by decide +kernel
theorem dX10_worst_16 : decode cX10_worst 16 = .ok (.istore_n 2, 1) := by decide +kernel
theorem dX10_worst_17 : decode cX10_worst 17 = .ok (.iconst 0, 1) := by decide +kernel
theorem dX10_worst_18 : decode cX10_worst 18 = .ok (.istore_n 3, 1) := by decide +kernel
theorem dX10_worst_19 : decode cX10_worst 19 = .ok (.iconst 0, 1) := by decide +kernel
theorem dX10_worst_20 : decode cX10_worst 20 = .ok (.istore 4, 2) := by decide +kernel
theorem dX10_worst_22 : decode cX10_worst 22 = .ok (.iconst 0, 1) := by decide +kernel
theorem dX10_worst_23 : decode cX10_worst 23 = .ok (.istore 5, 2) := by decide +kernel
theorem dX10_worst_25 : decode cX10_worst 25 = .ok (.iload 5, 2) := by decide +kernel
theorem dX10_worst_27 : decode cX10_worst 27 = .ok (.bipush 64, 2) := by decide +kernel
theorem dX10_worst_29 : decode cX10_worst 29 = .ok (.aload_n 0, 1) := by decide +kernel
theorem dX10_worst_30 : decode cX10_worst 30 = .ok (.getfield 386, 3) := by decide +kernel
theorem dX10_worst_33 : decode cX10_worst 33 = .ok (.imul, 1) := by decide +kernel
theorem dX10_worst_34 : decode cX10_worst 34 = .ok (.if_icmp .ge 82, 3) := by decide +kernel
theorem dX10_worst_37 : decode cX10_worst 37 = .ok (.aload_n 0, 1) := by decide +kernel
theorem dX10_worst_38 : decode cX10_worst 38 = .ok (.iload 5, 2) := by decide +kernel
theorem dX10_worst_40 : decode cX10_worst 40 = .ok (.invokevirtual 417, 3) := by decide +kernel
theorem dX10_worst_43 : decode cX10_worst 43 = .ok (.ifCond .eq 67, 3) := by decide +kernel
theorem dX10_worst_46 : decode cX10_worst 46 = .ok (.aload_n 0, 1) := by decide +kernel
theorem dX10_worst_47 : decode cX10_worst 47 = .ok (.getfield 91, 3) := by decide +kernel
theorem dX10_worst_50 : decode cX10_worst 50 = .ok (.iload 5, 2) := by decide +kernel
theorem dX10_worst_52 : decode cX10_worst 52 = .ok (.iaload, 1) := by decide +kernel
theorem dX10_worst_53 : decode cX10_worst 53 = .ok (.ldc 188, 2) := by decide +kernel
theorem dX10_worst_55 : decode cX10_worst 55 = .ok (.if_icmp .ne 6, 3) := by decide +kernel
theorem dX10_worst_61 : decode cX10_worst 61 = .ok (.aload_n 0, 1) := by decide +kernel
theorem dX10_worst_62 : decode cX10_worst 62 = .ok (.getfield 91, 3) := by decide +kernel
theorem dX10_worst_65 : decode cX10_worst 65 = .ok (.iload 5, 2) := by decide +kernel
theorem dX10_worst_67 : decode cX10_worst 67 = .ok (.iaload, 1) := by decide +kernel
theorem dX10_worst_68 : decode cX10_worst 68 = .ok (.iload_n 2, 1) := by decide +kernel
theorem dX10_worst_69 : decode cX10_worst 69 = .ok (.if_icmp .le 7, 3) := by decide +kernel
theorem dX10_worst_76 : decode cX10_worst 76 = .ok (.aload_n 0, 1) := by decide +kernel
theorem dX10_worst_77 : decode cX10_worst 77 = .ok (.getfield 91, 3) := by decide +kernel
theorem dX10_worst_80 : decode cX10_worst 80 = .ok (.iload 5, 2) := by decide +kernel
theorem dX10_worst_82 : decode cX10_worst 82 = .ok (.iaload, 1) := by decide +kernel
theorem dX10_worst_83 : decode cX10_worst 83 = .ok (.iload_n 2, 1) := by decide +kernel
theorem dX10_worst_84 : decode cX10_worst 84 = .ok (.if_icmp .ne 9, 3) := by decide +kernel
theorem dX10_worst_87 : decode cX10_worst 87 = .ok (.iload_n 3, 1) := by decide +kernel
theorem dX10_worst_88 : decode cX10_worst 88 = .ok (.iconst 1, 1) := by decide +kernel
theorem dX10_worst_89 : decode cX10_worst 89 = .ok (.iadd, 1) := by decide +kernel
theorem dX10_worst_90 : decode cX10_worst 90 = .ok (.goto 4, 3) := by decide +kernel
theorem dX10_worst_94 : decode cX10_worst 94 = .ok (.istore_n 3, 1) := by decide +kernel
theorem dX10_worst_95 : decode cX10_worst 95 = .ok (.iload_n 2, 1) := by decide +kernel
theorem dX10_worst_96 : decode cX10_worst 96 = .ok (.aload_n 0, 1) := by decide +kernel
theorem dX10_worst_97 : decode cX10_worst 97 = .ok (.getfield 91, 3) := by decide +kernel
theorem dX10_worst_100 : decode cX10_worst 100 = .ok (.iload 5, 2) := by decide +kernel
theorem dX10_worst_102 : decode cX10_worst 102 = .ok (.iaload, 1) := by decide +kernel
theorem dX10_worst_103 : decode cX10_worst 103 = .ok (.invokestatic 439, 3) := by decide +kernel
theorem dX10_worst_106 : decode cX10_worst 106 = .ok (.istore_n 2, 1) := by decide +kernel
theorem dX10_worst_107 : decode cX10_worst 107 = .ok (.iinc 4 1, 3) := by decide +kernel
theorem dX10_worst_110 : decode cX10_worst 110 = .ok (.iinc 5 1, 3) := by decide +kernel
theorem dX10_worst_113 : decode cX10_worst 113 = .ok (.goto (-88), 3) := by decide +kernel
theorem dX10_worst_116 : decode cX10_worst 116 = .ok (.iload_n 1, 1) := by decide +kernel
theorem dX10_worst_117 : decode cX10_worst 117 = .ok (.ifCond .ne 7, 3) := by decide +kernel
theorem dX10_worst_120 : decode cX10_worst 120 = .ok (.iload_n 2, 1) := by decide +kernel
theorem dX10_worst_121 : decode cX10_worst 121 = .ok (.goto 14, 3) := by decide +kernel
theorem dX10_worst_124 : decode cX10_worst 124 = .ok (.iload_n 1, 1) := by decide +kernel
theorem dX10_worst_125 : decode cX10_worst 125 = .ok (.iconst 1, 1) := by decide +kernel
theorem dX10_worst_126 : decode cX10_worst 126 = .ok (.if_icmp .ne 7, 3) := by decide +kernel
theorem dX10_worst_129 : decode cX10_worst 129 = .ok (.iload_n 3, 1) := by decide +kernel
theorem dX10_worst_130 : decode cX10_worst 130 = .ok (.goto 5, 3) := by decide +kernel
theorem dX10_worst_133 : decode cX10_worst 133 = .ok (.iload 4, 2) := by decide +kernel
theorem dX10_worst_135 : decode cX10_worst 135 = .ok (.ireturn, 1) := by decide +kernel
