set_option maxRecDepth 20000 in
theorem ggX10_laysDist_X10_laysPrices : GoodIn wsX10_laysDist wsX10_laysPrices := goodIn_r _ [11, 12, 13, 14, 15, 10, 16, 1, 17, 18, 19, 20, 21, 22, 23, 24, 25, 26, 27, 28, 29, 30, 31, 32, 33, 34, 35, 36, 37, 38, 39, 40, 41, 42, 43, 44, 45, 46, 47, 48, 49, 50, 51, 52, 53, 54, 55, 56, 57, 58, 59, 60, 61, 62, 63, 64, 65, 66, 67, 68, 69, 70, 71, 72, 73, 74, 75, 76, 77, 78, 79, 80, 81, 82, 83, 84, 85, 86, 87, 88, 89, 90, 91, 92, 93, 94, 95, 96, 97, 98, 99, 100, 101, 102, 103, 104, 105, 106, 107, 108, 109, 110, 111, 112, 113, 114, 115, 116, 117, 118, 119, 120, 121, 122, 123, 124, 125, 126, 127, 128, 129, 130, 131, 132, 133, 134, 135, 136, 137, 138, 139, 140, 141, 142, 143, 163, 164, 165, 166, 167, 168, 169, 170, 171, 172, 173, 174, 175, 176, 177, 178, 179, 180, 181, 182, 183, 184, 185, 186, 187, 188, 189, 190, 191, 192, 193, 194, 195, 196, 197, 198, 199, 200, 201, 202, 203, 204, 205, 206, 207, 208, 209, 210, 211, 212, 213, 214, 215, 216, 217, 218] rfl (by decide +kernel)
set_option maxRecDepth 20000 in
theorem gX10_laysDist_X10_laysPrices : GoodIn wsX10_laysDist (wsV RX10 414 RX10 yX10_laysPrices wsX10_laysPrices) := goodIn_app (goodIn_of _ (by decide +kernel)) ggX10_laysDist_X10_laysPrices
set_option maxRecDepth 20000 in
theorem ggX10_laysDist_X10_isThere : GoodIn wsX10_laysDist wsX10_isThere := goodIn_r _ [147, 17, 1, 163, 164, 165, 166, 167, 168, 169, 170, 171, 172, 173, 174, 175, 176, 177, 178, 179, 180, 181, 182, 183, 184, 185, 186, 187, 188, 189, 190, 191, 192, 193, 194, 195, 196, 197, 198, 199, 200, 201, 202, 203, 204, 205, 206, 207, 208, 209, 210, 211, 212, 213, 214, 215, 216, 217, 218] rfl (by decide +kernel)
set_option maxRecDepth 20000 in
theorem gX10_laysDist_X10_isThere : GoodIn wsX10_laysDist (wsV RX10 417 RX10 yX10_isThere wsX10_isThere) := goodIn_app (goodIn_of _ (by decide +kernel)) ggX10_laysDist_X10_isThere
set_option maxRecDepth 20000 in
theorem ggX10_laysDist_X10_isOrdered : GoodIn wsX10_laysDist wsX10_isOrdered := goodIn_r _ [151, 26, 163, 164, 165, 166, 167, 168, 169, 170, 171, 172, 173, 174, 175, 176, 177, 178, 179, 180, 181, 182, 183, 184, 185, 186, 187, 188, 189, 190, 191, 192, 193, 194, 195, 196, 197, 198, 199, 200, 201, 202, 203, 204, 205, 206, 207, 208, 209, 210, 211, 212, 213, 214, 215, 216, 217, 218] rfl (by decide +kernel)
set_option maxRecDepth 20000 in
theorem gX10_laysDist_X10_isOrdered : GoodIn wsX10_laysDist (wsV RX10 420 RX10 yX10_isOrdered wsX10_isOrdered) := goodIn_app (goodIn_of _ (by decide +kernel)) ggX10_laysDist_X10_isOrdered
set_option maxRecDepth 20000 in
theorem ggX10_laysDist_X10_size : GoodIn wsX10_laysDist wsX10_size := goodIn_r _ [25, 26, 163, 164, 165, 166, 167, 168, 169, 170, 171, 172, 173, 174, 175, 176, 177, 178, 179, 180, 181, 182, 183, 184, 185, 186, 187, 188, 189, 190, 191, 192, 193, 194, 195, 196, 197, 198, 199, 200, 201, 202, 203, 204, 205, 206, 207, 208, 209, 210, 211, 212, 213, 214, 215, 216, 217, 218] rfl (by decide +kernel)
set_option maxRecDepth 20000 in
theorem gX10_laysDist_X10_size : GoodIn wsX10_laysDist (wsV RX10 125 RX10 yX10_size wsX10_size) := goodIn_app (goodIn_of _ (by decide +kernel)) ggX10_laysDist_X10_size
set_option maxRecDepth 20000 in
theorem ggX10_laysDist_X10_behind : GoodIn wsX10_laysDist wsX10_behind := goodIn_r _ [155, 20, 21, 163, 164, 165, 166, 167, 168, 169, 170, 171, 172, 173, 174, 175, 176, 177, 178, 179, 180, 181, 182, 183, 184, 185, 186, 187, 188, 189, 190, 191, 192, 193, 194, 195, 196, 197, 198, 199, 200, 201, 202, 203, 204, 205, 206, 207, 208, 209, 210, 211, 212, 213, 214, 215, 216, 217, 218] rfl (by decide +kernel)
set_option maxRecDepth 20000 in
theorem gX10_laysDist_X10_behind : GoodIn wsX10_laysDist (wsV RX10 423 RX10 yX10_behind wsX10_behind) := goodIn_app (goodIn_of _ (by decide +kernel)) ggX10_laysDist_X10_behind
set_option maxRecDepth 20000 in
theorem ggX10_laysDist_X10_priceOf : GoodIn wsX10_laysDist wsX10_priceOf := goodIn_r _ [159, 12, 19, 22, 23, 24, 10, 25, 26, 62, 63, 64, 163, 164, 165, 166, 167, 168, 169, 170, 171, 172, 173, 174, 175, 176, 177, 178, 179, 180, 181, 182, 183, 184, 185, 186, 187, 188, 189, 190, 191, 192, 193, 194, 195, 196, 197, 198, 199, 200, 201, 202, 203, 204, 205, 206, 207, 208, 209, 210, 211, 212, 213, 214, 215, 216, 217, 218] rfl (by decide +kernel)
set_option maxRecDepth 20000 in
theorem gX10_laysDist_X10_priceOf : GoodIn wsX10_laysDist (wsV RX10 426 RX10 yX10_priceOf wsX10_priceOf) := goodIn_app (goodIn_of _ (by decide +kernel)) ggX10_laysDist_X10_priceOf
set_option maxRecDepth 20000 in
theorem ggX10_laysDist_X10_lesser : GoodIn wsX10_laysDist wsX10_lesser := goodIn_r _ [162] rfl (by decide +kernel)
set_option maxRecDepth 20000 in
theorem gX10_laysDist_X10_lesser : GoodIn wsX10_laysDist (va_wsS RX10 350 yX10_lesser wsX10_lesser) := goodIn_app (goodIn_of _ (by decide +kernel)) ggX10_laysDist_X10_lesser
theorem da9_dX10_laysDist_0 : (decode cX10_laysDist 0 = .ok (.aload_n 0, 1)) ∧ (decode cX10_laysDist 1 = .ok (.invokevirtual 414, 3)) ∧ (decode cX10_laysDist 4 = .ok (.iconst 0, 1)) ∧ (decode cX10_laysDist 5 = .ok (.istore_n 1, 1)) ∧ (decode cX10_laysDist 6 = .ok (.iconst 0, 1)) ∧ (decode cX10_laysDist 7 = .ok (.istore_n 2, 1)) ∧ (decode cX10_laysDist 8 = .ok (.iload_n 2, 1)) ∧ (decode cX10_laysDist 9 = .ok (.bipush 64, 2)) ∧ (decode cX10_laysDist 11 = .ok (.aload_n 0, 1)) ∧ (decode cX10_laysDist 12 = .ok (.getfield 386, 3)) ∧ (decode cX10_laysDist 15 = .ok (.imul, 1)) ∧ (decode cX10_laysDist 16 = .ok (.if_icmp .ge 79, 3)) ∧ (decode cX10_laysDist 19 = .ok (.aload_n 0, 1)) ∧ (decode cX10_laysDist 20 = .ok (.iload_n 2, 1)) ∧ (decode cX10_laysDist 21 = .ok (.invokevirtual 417, 3)) ∧ (decode cX10_laysDist 24 = .ok (.ifCond .eq 15, 3)) := by decide +kernel
theorem dX10_laysDist_0 : decode cX10_laysDist 0 = .ok (.aload_n 0, 1) := da9_dX10_laysDist_0.1
theorem dX10_laysDist_1 : decode cX10_laysDist 1 = .ok (.invokevirtual 414, 3) := da9_dX10_laysDist_0.2.1
theorem dX10_laysDist_4 : decode cX10_laysDist 4 = .ok (.iconst 0, 1) := da9_dX10_laysDist_0.2.2.1
theorem dX10_laysDist_5 : decode cX10_laysDist 5 = .ok (.istore_n 1, 1) := da9_dX10_laysDist_0.2.2.2.1
theorem dX10_laysDist_6 : decode cX10_laysDist 6 = .ok (.iconst 0, 1) := da9_dX10_laysDist_0.2.2.2.2.1
theorem dX10_laysDist_7 : decode cX10_laysDist 7 = .ok (.istore_n 2, 1) := da9_dX10_laysDist_0.2.2.2.2.2.1
theorem dX10_laysDist_8 : decode cX10_laysDist 8 = .ok (.iload_n 2, 1) := da9_dX10_laysDist_0.2.2.2.2.2.2.1
theorem dX10_laysDist_9 : decode cX10_laysDist 9 = .ok (.bipush 64, 2) := da9_dX10_laysDist_0.2.2.2.2.2.2.2.1
theorem dX10_laysDist_11 : decode cX10_laysDist 11 = .ok (.aload_n 0, 1) := da9_dX10_laysDist_0.2.2.2.2.2.2.2.2.1
theorem dX10_laysDist_12 : decode cX10_laysDist 12 = .ok (.getfield 386, 3) := da9_dX10_laysDist_0.2.2.2.2.2.2.2.2.2.1
theorem dX10_laysDist_15 : decode cX10_laysDist 15 = .ok (.imul, 1) := da9_dX10_laysDist_0.2.2.2.2.2.2.2.2.2.2.1
theorem dX10_laysDist_16 : decode cX10_laysDist 16 = .ok (.if_icmp .ge 79, 3) := da9_dX10_laysDist_0.2.2.2.2.2.2.2.2.2.2.2.1
theorem dX10_laysDist_19 : decode cX10_laysDist 19 = .ok (.aload_n 0, 1) := da9_dX10_laysDist_0.2.2.2.2.2.2.2.2.2.2.2.2.1
theorem dX10_laysDist_20 : decode cX10_laysDist 20 = .ok (.iload_n 2, 1) := da9_dX10_laysDist_0.2.2.2.2.2.2.2.2.2.2.2.2.2.1
theorem dX10_laysDist_21 : decode cX10_laysDist 21 = .ok (.invokevirtual 417, 3) := da9_dX10_laysDist_0.2.2.2.2.2.2.2.2.2.2.2.2.2.2.1
theorem dX10_laysDist_24 : decode cX10_laysDist 24 = .ok (.ifCond .eq 15, 3) := da9_dX10_laysDist_0.2.2.2.2.2.2.2.2.2.2.2.2.2.2.2
theorem da9_dX10_laysDist_27 : (decode cX10_laysDist 27 = .ok (.aload_n 0, 1)) ∧ (decode cX10_laysDist 28 = .ok (.iload_n 2, 1)) ∧ (decode cX10_laysDist 29 = .ok (.invokevirtual 420, 3)) ∧ (decode cX10_laysDist 32 = .ok (.ifCond .eq 7, 3)) ∧ (decode cX10_laysDist 35 = .ok (.iconst 1, 1)) ∧ (decode cX10_laysDist 36 = .ok (.goto 4, 3)) ∧ (decode cX10_laysDist 39 = .ok (.iconst 0, 1)) ∧ (decode cX10_laysDist 40 = .ok (.istore_n 3, 1)) ∧ (decode cX10_laysDist 41 = .ok (.aload_n 0, 1)) ∧ (decode cX10_laysDist 42 = .ok (.getfield 91, 3)) ∧ (decode cX10_laysDist 45 = .ok (.iload_n 2, 1)) ∧ (decode cX10_laysDist 46 = .ok (.iload_n 3, 1)) ∧ (decode cX10_laysDist 47 = .ok (.ifCond .eq 7, 3)) ∧ (decode cX10_laysDist 50 = .ok (.iconst 0, 1)) ∧ (decode cX10_laysDist 51 = .ok (.goto 5, 3)) ∧ (decode cX10_laysDist 54 = .ok (.ldc 188, 2)) := by decide +kernel
theorem dX10_laysDist_27 : decode cX10_laysDist 27 = .ok (.aload_n 0, 1) := da9_dX10_laysDist_27.1
theorem dX10_laysDist_28 : decode cX10_laysDist 28 = .ok (.iload_n 2, 1) := da9_dX10_laysDist_27.2.1
theorem dX10_laysDist_29 : decode cX10_laysDist 29 = .ok (.invokevirtual 420, 3) := da9_dX10_laysDist_27.2.2.1
theorem dX10_laysDist_32 : decode cX10_laysDist 32 = .ok (.ifCond .eq 7, 3) := da9_dX10_laysDist_27.2.2.2.1
theorem dX10_laysDist_35 : decode cX10_laysDist 35 = .ok (.iconst 1, 1) := da9_dX10_laysDist_27.2.2.2.2.1
theorem dX10_laysDist_36 : decode cX10_laysDist 36 = .ok (.goto 4, 3) := da9_dX10_laysDist_27.2.2.2.2.2.1
theorem dX10_laysDist_39 : decode cX10_laysDist 39 = .ok (.iconst 0, 1) := da9_dX10_laysDist_27.2.2.2.2.2.2.1
theorem dX10_laysDist_40 : decode cX10_laysDist 40 = .ok (.istore_n 3, 1) := da9_dX10_laysDist_27.2.2.2.2.2.2.2.1
theorem dX10_laysDist_41 : decode cX10_laysDist 41 = .ok (.aload_n 0, 1) := da9_dX10_laysDist_27.2.2.2.2.2.2.2.2.1
theorem dX10_laysDist_42 : decode cX10_laysDist 42 = .ok (.getfield 91, 3) := da9_dX10_laysDist_27.2.2.2.2.2.2.2.2.2.1
theorem dX10_laysDist_45 : decode cX10_laysDist 45 = .ok (.iload_n 2, 1) := da9_dX10_laysDist_27.2.2.2.2.2.2.2.2.2.2.1
theorem dX10_laysDist_46 : decode cX10_laysDist 46 = .ok (.iload_n 3, 1) := da9_dX10_laysDist_27.2.2.2.2.2.2.2.2.2.2.2.1
theorem dX10_laysDist_47 : decode cX10_laysDist 47 = .ok (.ifCond .eq 7, 3) := da9_dX10_laysDist_27.2.2.2.2.2.2.2.2.2.2.2.2.1
theorem dX10_laysDist_50 : decode cX10_laysDist 50 = .ok (.iconst 0, 1) := da9_dX10_laysDist_27.2.2.2.2.2.2.2.2.2.2.2.2.2.1
theorem dX10_laysDist_51 : decode cX10_laysDist 51 = .ok (.goto 5, 3) := da9_dX10_laysDist_27.2.2.2.2.2.2.2.2.2.2.2.2.2.2.1
theorem dX10_laysDist_54 : decode cX10_laysDist 54 = .ok (.ldc 188, 2) := da9_dX10_laysDist_27.2.2.2.2.2.2.2.2.2.2.2.2.2.2.2
theorem da9_dX10_laysDist_56 : (decode cX10_laysDist 56 = .ok (.iastore, 1)) ∧ (decode cX10_laysDist 57 = .ok (.aload_n 0, 1)) ∧ (decode cX10_laysDist 58 = .ok (.getfield 94, 3)) ∧ (decode cX10_laysDist 61 = .ok (.iload_n 2, 1)) ∧ (decode cX10_laysDist 62 = .ok (.iload_n 3, 1)) ∧ (decode cX10_laysDist 63 = .ok (.ifCond .eq 7, 3)) ∧ (decode cX10_laysDist 66 = .ok (.iconst 1, 1)) ∧ (decode cX10_laysDist 67 = .ok (.goto 4, 3)) ∧ (decode cX10_laysDist 70 = .ok (.iconst 0, 1)) ∧ (decode cX10_laysDist 71 = .ok (.iastore, 1)) ∧ (decode cX10_laysDist 72 = .ok (.iload_n 3, 1)) ∧ (decode cX10_laysDist 73 = .ok (.ifCond .ne 6, 3)) ∧ (decode cX10_laysDist 76 = .ok (.goto 13, 3)) ∧ (decode cX10_laysDist 79 = .ok (.aload_n 0, 1)) ∧ (decode cX10_laysDist 80 = .ok (.getfield 97, 3)) ∧ (decode cX10_laysDist 83 = .ok (.iload_n 1, 1)) := by decide +kernel
theorem dX10_laysDist_56 : decode cX10_laysDist 56 = .ok (.iastore, 1) := da9_dX10_laysDist_56.1
theorem dX10_laysDist_57 : decode cX10_laysDist 57 = .ok (.aload_n 0, 1) := da9_dX10_laysDist_56.2.1
theorem dX10_laysDist_58 : decode cX10_laysDist 58 = .ok (.getfield 94, 3) := da9_dX10_laysDist_56.2.2.1
theorem dX10_laysDist_61 : decode cX10_laysDist 61 = .ok (.iload_n 2, 1) := da9_dX10_laysDist_56.2.2.2.1
theorem dX10_laysDist_62 : decode cX10_laysDist 62 = .ok (.iload_n 3, 1) := da9_dX10_laysDist_56.2.2.2.2.1
theorem dX10_laysDist_63 : decode cX10_laysDist 63 = .ok (.ifCond .eq 7, 3) := da9_dX10_laysDist_56.2.2.2.2.2.1
theorem dX10_laysDist_66 : decode cX10_laysDist 66 = .ok (.iconst 1, 1) := da9_dX10_laysDist_56.2.2.2.2.2.2.1
theorem dX10_laysDist_67 : decode cX10_laysDist 67 = .ok (.goto 4, 3) := da9_dX10_laysDist_56.2.2.2.2.2.2.2.1
theorem dX10_laysDist_70 : decode cX10_laysDist 70 = .ok (.iconst 0, 1) := da9_dX10_laysDist_56.2.2.2.2.2.2.2.2.1
theorem dX10_laysDist_71 : decode cX10_laysDist 71 = .ok (.iastore, 1) := da9_dX10_laysDist_56.2.2.2.2.2.2.2.2.2.1
theorem dX10_laysDist_72 : decode cX10_laysDist 72 = .ok (.iload_n 3, 1) := da9_dX10_laysDist_56.2.2.2.2.2.2.2.2.2.2.1
theorem dX10_laysDist_73 : decode cX10_laysDist 73 = .ok (.ifCond .ne 6, 3) := da9_dX10_laysDist_56.2.2.2.2.2.2.2.2.2.2.2.1
theorem dX10_laysDist_76 : decode cX10_laysDist 76 = .ok (.goto 13, 3) := da9_dX10_laysDist_56.2.2.2.2.2.2.2.2.2.2.2.2.1
theorem dX10_laysDist_79 : decode cX10_laysDist 79 = .ok (.aload_n 0, 1) := da9_dX10_laysDist_56.2.2.2.2.2.2.2.2.2.2.2.2.2.1
theorem dX10_laysDist_80 : decode cX10_laysDist 80 = .ok (.getfield 97, 3) := da9_dX10_laysDist_56.2.2.2.2.2.2.2.2.2.2.2.2.2.2.1
theorem dX10_laysDist_83 : decode cX10_laysDist 83 = .ok (.iload_n 1, 1) := da9_dX10_laysDist_56.2.2.2.2.2.2.2.2.2.2.2.2.2.2.2
theorem da9_dX10_laysDist_84 : (decode cX10_laysDist 84 = .ok (.iload_n 2, 1)) ∧ (decode cX10_laysDist 85 = .ok (.iastore, 1)) ∧ (decode cX10_laysDist 86 = .ok (.iinc 1 1, 3)) ∧ (decode cX10_laysDist 89 = .ok (.iinc 2 1, 3)) ∧ (decode cX10_laysDist 92 = .ok (.goto (-84), 3)) ∧ (decode cX10_laysDist 95 = .ok (.iconst 0, 1)) ∧ (decode cX10_laysDist 96 = .ok (.istore_n 2, 1)) ∧ (decode cX10_laysDist 97 = .ok (.iload_n 2, 1)) ∧ (decode cX10_laysDist 98 = .ok (.iload_n 1, 1)) ∧ (decode cX10_laysDist 99 = .ok (.if_icmp .ge 145, 3)) ∧ (decode cX10_laysDist 102 = .ok (.aload_n 0, 1)) ∧ (decode cX10_laysDist 103 = .ok (.getfield 97, 3)) ∧ (decode cX10_laysDist 106 = .ok (.iload_n 2, 1)) ∧ (decode cX10_laysDist 107 = .ok (.iaload, 1)) ∧ (decode cX10_laysDist 108 = .ok (.istore_n 3, 1)) ∧ (decode cX10_laysDist 109 = .ok (.iconst 1, 1)) := by decide +kernel
theorem dX10_laysDist_84 : decode cX10_laysDist 84 = .ok (.iload_n 2, 1) := da9_dX10_laysDist_84.1
theorem dX10_laysDist_85 : decode cX10_laysDist 85 = .ok (.iastore, 1) := da9_dX10_laysDist_84.2.1
theorem dX10_laysDist_86 : decode cX10_laysDist 86 = .ok (.iinc 1 1, 3) := da9_dX10_laysDist_84.2.2.1
theorem dX10_laysDist_89 : decode cX10_laysDist 89 = .ok (.iinc 2 1, 3) := da9_dX10_laysDist_84.2.2.2.1
theorem dX10_laysDist_92 : decode cX10_laysDist 92 = .ok (.goto (-84), 3) := da9_dX10_laysDist_84.2.2.2.2.1
theorem dX10_laysDist_95 : decode cX10_laysDist 95 = .ok (.iconst 0, 1) := da9_dX10_laysDist_84.2.2.2.2.2.1
theorem dX10_laysDist_96 : decode cX10_laysDist 96 = .ok (.istore_n 2, 1) := da9_dX10_laysDist_84.2.2.2.2.2.2.1
theorem dX10_laysDist_97 : decode cX10_laysDist 97 = .ok (.iload_n 2, 1) := da9_dX10_laysDist_84.2.2.2.2.2.2.2.1
theorem dX10_laysDist_98 : decode cX10_laysDist 98 = .ok (.iload_n 1, 1) := da9_dX10_laysDist_84.2.2.2.2.2.2.2.2.1
theorem dX10_laysDist_99 : decode cX10_laysDist 99 = .ok (.if_icmp .ge 145, 3) := da9_dX10_laysDist_84.2.2.2.2.2.2.2.2.2.1
theorem dX10_laysDist_102 : decode cX10_laysDist 102 = .ok (.aload_n 0, 1) := da9_dX10_laysDist_84.2.2.2.2.2.2.2.2.2.2.1
theorem dX10_laysDist_103 : decode cX10_laysDist 103 = .ok (.getfield 97, 3) := da9_dX10_laysDist_84.2.2.2.2.2.2.2.2.2.2.2.1
theorem dX10_laysDist_106 : decode cX10_laysDist 106 = .ok (.iload_n 2, 1) := da9_dX10_laysDist_84.2.2.2.2.2.2.2.2.2.2.2.2.1
theorem dX10_laysDist_107 : decode cX10_laysDist 107 = .ok (.iaload, 1) := da9_dX10_laysDist_84.2.2.2.2.2.2.2.2.2.2.2.2.2.1
theorem dX10_laysDist_108 : decode cX10_laysDist 108 = .ok (.istore_n 3, 1) := da9_dX10_laysDist_84.2.2.2.2.2.2.2.2.2.2.2.2.2.2.1
theorem dX10_laysDist_109 : decode cX10_laysDist 109 = .ok (.iconst 1, 1) := da9_dX10_laysDist_84.2.2.2.2.2.2.2.2.2.2.2.2.2.2.2
theorem da9_dX10_laysDist_110 : (decode cX10_laysDist 110 = .ok (.istore 4, 2)) ∧ (decode cX10_laysDist 112 = .ok (.iload 4, 2)) ∧ (decode cX10_laysDist 114 = .ok (.aload_n 0, 1)) ∧ (decode cX10_laysDist 115 = .ok (.invokevirtual 125, 3)) ∧ (decode cX10_laysDist 118 = .ok (.if_icmp .gt 120, 3)) ∧ (decode cX10_laysDist 121 = .ok (.aload_n 0, 1)) ∧ (decode cX10_laysDist 122 = .ok (.iload_n 3, 1)) ∧ (decode cX10_laysDist 123 = .ok (.iload 4, 2)) ∧ (decode cX10_laysDist 125 = .ok (.invokevirtual 423, 3)) ∧ (decode cX10_laysDist 128 = .ok (.istore 5, 2)) ∧ (decode cX10_laysDist 130 = .ok (.aload_n 0, 1)) ∧ (decode cX10_laysDist 131 = .ok (.iload 5, 2)) ∧ (decode cX10_laysDist 133 = .ok (.iload 4, 2)) ∧ (decode cX10_laysDist 135 = .ok (.invokevirtual 426, 3)) ∧ (decode cX10_laysDist 138 = .ok (.iconst (-1), 1)) ∧ (decode cX10_laysDist 139 = .ok (.if_icmp .ne 6, 3)) := by decide +kernel
theorem dX10_laysDist_110 : decode cX10_laysDist 110 = .ok (.istore 4, 2) := da9_dX10_laysDist_110.1
theorem dX10_laysDist_112 : decode cX10_laysDist 112 = .ok (.iload 4, 2) := da9_dX10_laysDist_110.2.1
theorem dX10_laysDist_114 : decode cX10_laysDist 114 = .ok (.aload_n 0, 1) := da9_dX10_laysDist_110.2.2.1
theorem dX10_laysDist_115 : decode cX10_laysDist 115 = .ok (.invokevirtual 125, 3) := da9_dX10_laysDist_110.2.2.2.1
theorem dX10_laysDist_118 : decode cX10_laysDist 118 = .ok (.if_icmp .gt 120, 3) := da9_dX10_laysDist_110.2.2.2.2.1
theorem dX10_laysDist_121 : decode cX10_laysDist 121 = .ok (.aload_n 0, 1) := da9_dX10_laysDist_110.2.2.2.2.2.1
theorem dX10_laysDist_122 : decode cX10_laysDist 122 = .ok (.iload_n 3, 1) := da9_dX10_laysDist_110.2.2.2.2.2.2.1
theorem dX10_laysDist_123 : decode cX10_laysDist 123 = .ok (.iload 4, 2) := da9_dX10_laysDist_110.2.2.2.2.2.2.2.1
theorem dX10_laysDist_125 : decode cX10_laysDist 125 = .ok (.invokevirtual 423, 3) := da9_dX10_laysDist_110.2.2.2.2.2.2.2.2.1
theorem dX10_laysDist_128 : decode cX10_laysDist 128 = .ok (.istore 5, 2) := da9_dX10_laysDist_110.2.2.2.2.2.2.2.2.2.1
theorem dX10_laysDist_130 : decode cX10_laysDist 130 = .ok (.aload_n 0, 1) := da9_dX10_laysDist_110.2.2.2.2.2.2.2.2.2.2.1
theorem dX10_laysDist_131 : decode cX10_laysDist 131 = .ok (.iload 5, 2) := da9_dX10_laysDist_110.2.2.2.2.2.2.2.2.2.2.2.1
theorem dX10_laysDist_133 : decode cX10_laysDist 133 = .ok (.iload 4, 2) := da9_dX10_laysDist_110.2.2.2.2.2.2.2.2.2.2.2.2.1
theorem dX10_laysDist_135 : decode cX10_laysDist 135 = .ok (.invokevirtual 426, 3) := da9_dX10_laysDist_110.2.2.2.2.2.2.2.2.2.2.2.2.2.1
theorem dX10_laysDist_138 : decode cX10_laysDist 138 = .ok (.iconst (-1), 1) := da9_dX10_laysDist_110.2.2.2.2.2.2.2.2.2.2.2.2.2.2.1
theorem dX10_laysDist_139 : decode cX10_laysDist 139 = .ok (.if_icmp .ne 6, 3) := da9_dX10_laysDist_110.2.2.2.2.2.2.2.2.2.2.2.2.2.2.2
theorem da9_dX10_laysDist_142 : (decode cX10_laysDist 142 = .ok (.goto 90, 3)) ∧ (decode cX10_laysDist 145 = .ok (.aload_n 0, 1)) ∧ (decode cX10_laysDist 146 = .ok (.getfield 91, 3)) ∧ (decode cX10_laysDist 149 = .ok (.iload 5, 2)) ∧ (decode cX10_laysDist 151 = .ok (.iaload, 1)) ∧ (decode cX10_laysDist 152 = .ok (.ldc 188, 2)) ∧ (decode cX10_laysDist 154 = .ok (.if_icmp .ne 29, 3)) ∧ (decode cX10_laysDist 157 = .ok (.aload_n 0, 1)) ∧ (decode cX10_laysDist 158 = .ok (.getfield 91, 3)) ∧ (decode cX10_laysDist 161 = .ok (.iload 5, 2)) ∧ (decode cX10_laysDist 163 = .ok (.aload_n 0, 1)) ∧ (decode cX10_laysDist 164 = .ok (.getfield 91, 3)) ∧ (decode cX10_laysDist 167 = .ok (.iload_n 3, 1)) ∧ (decode cX10_laysDist 168 = .ok (.iaload, 1)) ∧ (decode cX10_laysDist 169 = .ok (.iconst 1, 1)) ∧ (decode cX10_laysDist 170 = .ok (.iadd, 1)) := by decide +kernel
theorem dX10_laysDist_142 : decode cX10_laysDist 142 = .ok (.goto 90, 3) := da9_dX10_laysDist_142.1
theorem dX10_laysDist_145 : decode cX10_laysDist 145 = .ok (.aload_n 0, 1) := da9_dX10_laysDist_142.2.1
theorem dX10_laysDist_146 : decode cX10_laysDist 146 = .ok (.getfield 91, 3) := da9_dX10_laysDist_142.2.2.1
theorem dX10_laysDist_149 : decode cX10_laysDist 149 = .ok (.iload 5, 2) := da9_dX10_laysDist_142.2.2.2.1
theorem dX10_laysDist_151 : decode cX10_laysDist 151 = .ok (.iaload, 1) := da9_dX10_laysDist_142.2.2.2.2.1
theorem dX10_laysDist_152 : decode cX10_laysDist 152 = .ok (.ldc 188, 2) := da9_dX10_laysDist_142.2.2.2.2.2.1
theorem dX10_laysDist_154 : decode cX10_laysDist 154 = .ok (.if_icmp .ne 29, 3) := da9_dX10_laysDist_142.2.2.2.2.2.2.1
theorem dX10_laysDist_157 : decode cX10_laysDist 157 = .ok (.aload_n 0, 1) := da9_dX10_laysDist_142.2.2.2.2.2.2.2.1
theorem dX10_laysDist_158 : decode cX10_laysDist 158 = .ok (.getfield 91, 3) := da9_dX10_laysDist_142.2.2.2.2.2.2.2.2.1
theorem dX10_laysDist_161 : decode cX10_laysDist 161 = .ok (.iload 5, 2) := da9_dX10_laysDist_142.2.2.2.2.2.2.2.2.2.1
theorem dX10_laysDist_163 : decode cX10_laysDist 163 = .ok (.aload_n 0, 1) := da9_dX10_laysDist_142.2.2.2.2.2.2.2.2.2.2.1
theorem dX10_laysDist_164 : decode cX10_laysDist 164 = .ok (.getfield 91, 3) := da9_dX10_laysDist_142.2.2.2.2.2.2.2.2.2.2.2.1
theorem dX10_laysDist_167 : decode cX10_laysDist 167 = .ok (.iload_n 3, 1) := da9_dX10_laysDist_142.2.2.2.2.2.2.2.2.2.2.2.2.1
theorem dX10_laysDist_168 : decode cX10_laysDist 168 = .ok (.iaload, 1) := da9_dX10_laysDist_142.2.2.2.2.2.2.2.2.2.2.2.2.2.1
theorem dX10_laysDist_169 : decode cX10_laysDist 169 = .ok (.iconst 1, 1) := da9_dX10_laysDist_142.2.2.2.2.2.2.2.2.2.2.2.2.2.2.1
theorem dX10_laysDist_170 : decode cX10_laysDist 170 = .ok (.iadd, 1) := da9_dX10_laysDist_142.2.2.2.2.2.2.2.2.2.2.2.2.2.2.2
theorem da9_dX10_laysDist_171 : (decode cX10_laysDist 171 = .ok (.iastore, 1)) ∧ (decode cX10_laysDist 172 = .ok (.aload_n 0, 1)) ∧ (decode cX10_laysDist 173 = .ok (.getfield 97, 3)) ∧ (decode cX10_laysDist 176 = .ok (.iload_n 1, 1)) ∧ (decode cX10_laysDist 177 = .ok (.iload 5, 2)) ∧ (decode cX10_laysDist 179 = .ok (.iastore, 1)) ∧ (decode cX10_laysDist 180 = .ok (.iinc 1 1, 3)) ∧ (decode cX10_laysDist 183 = .ok (.aload_n 0, 1)) ∧ (decode cX10_laysDist 184 = .ok (.getfield 94, 3)) ∧ (decode cX10_laysDist 187 = .ok (.iload 5, 2)) ∧ (decode cX10_laysDist 189 = .ok (.ldc_w 429, 3)) ∧ (decode cX10_laysDist 192 = .ok (.aload_n 0, 1)) ∧ (decode cX10_laysDist 193 = .ok (.getfield 94, 3)) ∧ (decode cX10_laysDist 196 = .ok (.iload 5, 2)) ∧ (decode cX10_laysDist 198 = .ok (.iaload, 1)) ∧ (decode cX10_laysDist 199 = .ok (.aload_n 0, 1)) := by decide +kernel
theorem dX10_laysDist_171 : decode cX10_laysDist 171 = .ok (.iastore, 1) := da9_dX10_laysDist_171.1
theorem dX10_laysDist_172 : decode cX10_laysDist 172 = .ok (.aload_n 0, 1) := da9_dX10_laysDist_171.2.1
theorem dX10_laysDist_173 : decode cX10_laysDist 173 = .ok (.getfield 97, 3) := da9_dX10_laysDist_171.2.2.1
theorem dX10_laysDist_176 : decode cX10_laysDist 176 = .ok (.iload_n 1, 1) := da9_dX10_laysDist_171.2.2.2.1
theorem dX10_laysDist_177 : decode cX10_laysDist 177 = .ok (.iload 5, 2) := da9_dX10_laysDist_171.2.2.2.2.1
theorem dX10_laysDist_179 : decode cX10_laysDist 179 = .ok (.iastore, 1) := da9_dX10_laysDist_171.2.2.2.2.2.1
theorem dX10_laysDist_180 : decode cX10_laysDist 180 = .ok (.iinc 1 1, 3) := da9_dX10_laysDist_171.2.2.2.2.2.2.1
theorem dX10_laysDist_183 : decode cX10_laysDist 183 = .ok (.aload_n 0, 1) := da9_dX10_laysDist_171.2.2.2.2.2.2.2.1
theorem dX10_laysDist_184 : decode cX10_laysDist 184 = .ok (.getfield 94, 3) := da9_dX10_laysDist_171.2.2.2.2.2.2.2.2.1
theorem dX10_laysDist_187 : decode cX10_laysDist 187 = .ok (.iload 5, 2) := da9_dX10_laysDist_171.2.2.2.2.2.2.2.2.2.1
theorem dX10_laysDist_189 : decode cX10_laysDist 189 = .ok (.ldc_w 429, 3) := da9_dX10_laysDist_171.2.2.2.2.2.2.2.2.2.2.1
theorem dX10_laysDist_192 : decode cX10_laysDist 192 = .ok (.aload_n 0, 1) := da9_dX10_laysDist_171.2.2.2.2.2.2.2.2.2.2.2.1
theorem dX10_laysDist_193 : decode cX10_laysDist 193 = .ok (.getfield 94, 3) := da9_dX10_laysDist_171.2.2.2.2.2.2.2.2.2.2.2.2.1
theorem dX10_laysDist_196 : decode cX10_laysDist 196 = .ok (.iload 5, 2) := da9_dX10_laysDist_171.2.2.2.2.2.2.2.2.2.2.2.2.2.1
theorem dX10_laysDist_198 : decode cX10_laysDist 198 = .ok (.iaload, 1) := da9_dX10_laysDist_171.2.2.2.2.2.2.2.2.2.2.2.2.2.2.1
theorem dX10_laysDist_199 : decode cX10_laysDist 199 = .ok (.aload_n 0, 1) := da9_dX10_laysDist_171.2.2.2.2.2.2.2.2.2.2.2.2.2.2.2
theorem da9_dX10_laysDist_200 : (decode cX10_laysDist 200 = .ok (.getfield 91, 3)) ∧ (decode cX10_laysDist 203 = .ok (.iload 5, 2)) ∧ (decode cX10_laysDist 205 = .ok (.iaload, 1)) ∧ (decode cX10_laysDist 206 = .ok (.aload_n 0, 1)) ∧ (decode cX10_laysDist 207 = .ok (.getfield 91, 3)) ∧ (decode cX10_laysDist 210 = .ok (.iload_n 3, 1)) ∧ (decode cX10_laysDist 211 = .ok (.iaload, 1)) ∧ (decode cX10_laysDist 212 = .ok (.iconst 1, 1)) ∧ (decode cX10_laysDist 213 = .ok (.iadd, 1)) ∧ (decode cX10_laysDist 214 = .ok (.if_icmp .ne 12, 3)) ∧ (decode cX10_laysDist 217 = .ok (.aload_n 0, 1)) ∧ (decode cX10_laysDist 218 = .ok (.getfield 94, 3)) ∧ (decode cX10_laysDist 221 = .ok (.iload_n 3, 1)) ∧ (decode cX10_laysDist 222 = .ok (.iaload, 1)) ∧ (decode cX10_laysDist 223 = .ok (.goto 4, 3)) ∧ (decode cX10_laysDist 226 = .ok (.iconst 0, 1)) := by decide +kernel
theorem dX10_laysDist_200 : decode cX10_laysDist 200 = .ok (.getfield 91, 3) := da9_dX10_laysDist_200.1
theorem dX10_laysDist_203 : decode cX10_laysDist 203 = .ok (.iload 5, 2) := da9_dX10_laysDist_200.2.1
theorem dX10_laysDist_205 : decode cX10_laysDist 205 = .ok (.iaload, 1) := da9_dX10_laysDist_200.2.2.1
theorem dX10_laysDist_206 : decode cX10_laysDist 206 = .ok (.aload_n 0, 1) := da9_dX10_laysDist_200.2.2.2.1
theorem dX10_laysDist_207 : decode cX10_laysDist 207 = .ok (.getfield 91, 3) := da9_dX10_laysDist_200.2.2.2.2.1
theorem dX10_laysDist_210 : decode cX10_laysDist 210 = .ok (.iload_n 3, 1) := da9_dX10_laysDist_200.2.2.2.2.2.1
theorem dX10_laysDist_211 : decode cX10_laysDist 211 = .ok (.iaload, 1) := da9_dX10_laysDist_200.2.2.2.2.2.2.1
theorem dX10_laysDist_212 : decode cX10_laysDist 212 = .ok (.iconst 1, 1) := da9_dX10_laysDist_200.2.2.2.2.2.2.2.1
theorem dX10_laysDist_213 : decode cX10_laysDist 213 = .ok (.iadd, 1) := da9_dX10_laysDist_200.2.2.2.2.2.2.2.2.1
theorem dX10_laysDist_214 : decode cX10_laysDist 214 = .ok (.if_icmp .ne 12, 3) := da9_dX10_laysDist_200.2.2.2.2.2.2.2.2.2.1
theorem dX10_laysDist_217 : decode cX10_laysDist 217 = .ok (.aload_n 0, 1) := da9_dX10_laysDist_200.2.2.2.2.2.2.2.2.2.2.1
theorem dX10_laysDist_218 : decode cX10_laysDist 218 = .ok (.getfield 94, 3) := da9_dX10_laysDist_200.2.2.2.2.2.2.2.2.2.2.2.1
theorem dX10_laysDist_221 : decode cX10_laysDist 221 = .ok (.iload_n 3, 1) := da9_dX10_laysDist_200.2.2.2.2.2.2.2.2.2.2.2.2.1
theorem dX10_laysDist_222 : decode cX10_laysDist 222 = .ok (.iaload, 1) := da9_dX10_laysDist_200.2.2.2.2.2.2.2.2.2.2.2.2.2.1
theorem dX10_laysDist_223 : decode cX10_laysDist 223 = .ok (.goto 4, 3) := da9_dX10_laysDist_200.2.2.2.2.2.2.2.2.2.2.2.2.2.2.1
theorem dX10_laysDist_226 : decode cX10_laysDist 226 = .ok (.iconst 0, 1) := da9_dX10_laysDist_200.2.2.2.2.2.2.2.2.2.2.2.2.2.2.2
theorem da9_dX10_laysDist_227 : (decode cX10_laysDist 227 = .ok (.iadd, 1)) ∧ (decode cX10_laysDist 228 = .ok (.invokestatic 350, 3)) ∧ (decode cX10_laysDist 231 = .ok (.iastore, 1)) ∧ (decode cX10_laysDist 232 = .ok (.iinc 4 1, 3)) ∧ (decode cX10_laysDist 235 = .ok (.goto (-123), 3)) ∧ (decode cX10_laysDist 238 = .ok (.iinc 2 1, 3)) ∧ (decode cX10_laysDist 241 = .ok (.goto (-144), 3)) ∧ (decode cX10_laysDist 244 = .ok (.return_, 1)) := by decide +kernel
theorem dX10_laysDist_227 : decode cX10_laysDist 227 = .ok (.iadd, 1) := da9_dX10_laysDist_227.1
theorem dX10_laysDist_228 : decode cX10_laysDist 228 = .ok (.invokestatic 350, 3) := da9_dX10_laysDist_227.2.1
theorem dX10_laysDist_231 : decode cX10_laysDist 231 = .ok (.iastore, 1) := da9_dX10_laysDist_227.2.2.1
theorem dX10_laysDist_232 : decode cX10_laysDist 232 = .ok (.iinc 4 1, 3) := da9_dX10_laysDist_227.2.2.2.1
theorem dX10_laysDist_235 : decode cX10_laysDist 235 = .ok (.goto (-123), 3) := da9_dX10_laysDist_227.2.2.2.2.1
theorem dX10_laysDist_238 : decode cX10_laysDist 238 = .ok (.iinc 2 1, 3) := da9_dX10_laysDist_227.2.2.2.2.2.1
theorem dX10_laysDist_241 : decode cX10_laysDist 241 = .ok (.goto (-144), 3) := da9_dX10_laysDist_227.2.2.2.2.2.2.1
theorem dX10_laysDist_244 : decode cX10_laysDist 244 = .ok (.return_, 1) := da9_dX10_laysDist_227.2.2.2.2.2.2.2
set_option maxRecDepth 20000 in
theorem ggX10_fewest_X10_laysDist : GoodIn wsX10_fewest wsX10_laysDist := goodIn_r _ [7, 8, 1, 2, 9, 10, 11, 12, 13, 14, 6, 15, 16, 17, 18, 19, 20, 21, 22, 23, 24, 25, 26, 27, 28, 29, 30, 31, 32, 33, 34, 35, 36, 37, 38, 39, 40, 41, 42, 43, 44, 45, 46, 47, 48, 49, 50, 51, 52, 53, 54, 55, 56, 57, 58, 59, 60, 61, 62, 63, 64, 65, 66, 67, 68, 69, 70, 71, 72, 73, 74, 75, 76, 77, 78, 79, 80, 81, 82, 83, 84, 85, 86, 87, 88, 89, 90, 91, 92, 93, 94, 95, 96, 97, 98, 99, 100, 101, 102, 103, 104, 105, 106, 107, 108, 109, 110, 111, 112, 113, 114, 115, 116, 117, 118, 119, 120, 121, 122, 123, 124, 125, 126, 127, 128, 129, 130, 131, 132, 133, 134, 135, 136, 137, 138, 139, 140, 141, 142, 143, 144, 145, 146, 147, 148, 149, 150, 151, 152, 153, 154, 155, 156, 157, 158, 159, 160, 161, 162, 163, 164, 165, 166, 171, 172, 173, 174, 175, 176, 177, 178, 179, 180, 181, 182, 183, 184, 185, 186, 187, 188, 189, 190, 191, 192, 193, 194, 195, 196, 197, 198, 199, 200, 201, 202, 203, 204, 205, 206, 207, 208, 209, 210, 211, 212, 213, 214, 215, 216, 217, 218, 219, 220, 221, 222, 223, 224, 225, 226] rfl (by decide +kernel)
set_option maxRecDepth 20000 in
theorem gX10_fewest_X10_laysDist : GoodIn wsX10_fewest (wsV RX10 430 RX10 yX10_laysDist wsX10_laysDist) := goodIn_app (goodIn_of _ (by decide +kernel)) ggX10_fewest_X10_laysDist
set_option maxRecDepth 20000 in
theorem ggX10_fewest_X10_towerNow : GoodIn wsX10_fewest wsX10_towerNow := goodIn_r _ [170, 22, 30, 26, 27, 28, 6, 29, 53, 54, 55, 56, 41, 42, 43, 44, 171, 172, 173, 174, 175, 176, 177, 178, 179, 180, 181, 182, 183, 184, 185, 186, 187, 188, 189, 190, 191, 192, 193, 194, 195, 196, 197, 198, 199, 200, 201, 202, 203, 204, 205, 206, 207, 208, 209, 210, 211, 212, 213, 214, 215, 216, 217, 218, 219, 220, 221, 222, 223, 224, 225, 226] rfl (by decide +kernel)
set_option maxRecDepth 20000 in
theorem gX10_fewest_X10_towerNow : GoodIn wsX10_fewest (wsV RX10 433 RX10 yX10_towerNow wsX10_towerNow) := goodIn_app (goodIn_of _ (by decide +kernel)) ggX10_fewest_X10_towerNow
set_option maxRecDepth 20000 in
theorem ggX10_fewest_X10_priceOf : GoodIn wsX10_fewest wsX10_priceOf := goodIn_r _ [163, 16, 23, 26, 27, 28, 6, 29, 30, 66, 67, 68, 171, 172, 173, 174, 175, 176, 177, 178, 179, 180, 181, 182, 183, 184, 185, 186, 187, 188, 189, 190, 191, 192, 193, 194, 195, 196, 197, 198, 199, 200, 201, 202, 203, 204, 205, 206, 207, 208, 209, 210, 211, 212, 213, 214, 215, 216, 217, 218, 219, 220, 221, 222, 223, 224, 225, 226] rfl (by decide +kernel)
set_option maxRecDepth 20000 in
theorem gX10_fewest_X10_priceOf : GoodIn wsX10_fewest (wsV RX10 426 RX10 yX10_priceOf wsX10_priceOf) := goodIn_app (goodIn_of _ (by decide +kernel)) ggX10_fewest_X10_priceOf
set_option maxRecDepth 20000 in
theorem ggX10_fewest_X10_behind : GoodIn wsX10_fewest wsX10_behind := goodIn_r _ [159, 24, 25, 171, 172, 173, 174, 175, 176, 177, 178, 179, 180, 181, 182, 183, 184, 185, 186, 187, 188, 189, 190, 191, 192, 193, 194, 195, 196, 197, 198, 199, 200, 201, 202, 203, 204, 205, 206, 207, 208, 209, 210, 211, 212, 213, 214, 215, 216, 217, 218, 219, 220, 221, 222, 223, 224, 225, 226] rfl (by decide +kernel)
set_option maxRecDepth 20000 in
theorem gX10_fewest_X10_behind : GoodIn wsX10_fewest (wsV RX10 423 RX10 yX10_behind wsX10_behind) := goodIn_app (goodIn_of _ (by decide +kernel)) ggX10_fewest_X10_behind
theorem da9_dX10_fewest_0 : (decode cX10_fewest 0 = .ok (.iload_n 1, 1)) ∧ (decode cX10_fewest 1 = .ok (.iconst (-1), 1)) ∧ (decode cX10_fewest 2 = .ok (.if_icmp .ge 5, 3)) ∧ (decode cX10_fewest 5 = .ok (.iconst (-1), 1)) ∧ (decode cX10_fewest 6 = .ok (.ireturn, 1)) ∧ (decode cX10_fewest 7 = .ok (.aload_n 0, 1)) ∧ (decode cX10_fewest 8 = .ok (.invokevirtual 430, 3)) ∧ (decode cX10_fewest 11 = .ok (.aload_n 0, 1)) ∧ (decode cX10_fewest 12 = .ok (.invokevirtual 433, 3)) ∧ (decode cX10_fewest 15 = .ok (.istore_n 2, 1)) ∧ (decode cX10_fewest 16 = .ok (.aload_n 0, 1)) ∧ (decode cX10_fewest 17 = .ok (.getfield 91, 3)) ∧ (decode cX10_fewest 20 = .ok (.iload_n 2, 1)) ∧ (decode cX10_fewest 21 = .ok (.iaload, 1)) ∧ (decode cX10_fewest 22 = .ok (.ldc 188, 2)) ∧ (decode cX10_fewest 24 = .ok (.if_icmp .eq 8, 3)) := by decide +kernel
theorem dX10_fewest_0 : decode cX10_fewest 0 = .ok (.iload_n 1, 1) := da9_dX10_fewest_0.1
theorem dX10_fewest_1 : decode cX10_fewest 1 = .ok (.iconst (-1), 1) := da9_dX10_fewest_0.2.1
theorem dX10_fewest_2 : decode cX10_fewest 2 = .ok (.if_icmp .ge 5, 3) := da9_dX10_fewest_0.2.2.1
theorem dX10_fewest_5 : decode cX10_fewest 5 = .ok (.iconst (-1), 1) := da9_dX10_fewest_0.2.2.2.1
theorem dX10_fewest_6 : decode cX10_fewest 6 = .ok (.ireturn, 1) := da9_dX10_fewest_0.2.2.2.2.1
theorem dX10_fewest_7 : decode cX10_fewest 7 = .ok (.aload_n 0, 1) := da9_dX10_fewest_0.2.2.2.2.2.1
theorem dX10_fewest_8 : decode cX10_fewest 8 = .ok (.invokevirtual 430, 3) := da9_dX10_fewest_0.2.2.2.2.2.2.1
theorem dX10_fewest_11 : decode cX10_fewest 11 = .ok (.aload_n 0, 1) := da9_dX10_fewest_0.2.2.2.2.2.2.2.1
theorem dX10_fewest_12 : decode cX10_fewest 12 = .ok (.invokevirtual 433, 3) := da9_dX10_fewest_0.2.2.2.2.2.2.2.2.1
theorem dX10_fewest_15 : decode cX10_fewest 15 = .ok (.istore_n 2, 1) := da9_dX10_fewest_0.2.2.2.2.2.2.2.2.2.1
theorem dX10_fewest_16 : decode cX10_fewest 16 = .ok (.aload_n 0, 1) := da9_dX10_fewest_0.2.2.2.2.2.2.2.2.2.2.1
theorem dX10_fewest_17 : decode cX10_fewest 17 = .ok (.getfield 91, 3) := da9_dX10_fewest_0.2.2.2.2.2.2.2.2.2.2.2.1
theorem dX10_fewest_20 : decode cX10_fewest 20 = .ok (.iload_n 2, 1) := da9_dX10_fewest_0.2.2.2.2.2.2.2.2.2.2.2.2.1
theorem dX10_fewest_21 : decode cX10_fewest 21 = .ok (.iaload, 1) := da9_dX10_fewest_0.2.2.2.2.2.2.2.2.2.2.2.2.2.1
theorem dX10_fewest_22 : decode cX10_fewest 22 = .ok (.ldc 188, 2) := da9_dX10_fewest_0.2.2.2.2.2.2.2.2.2.2.2.2.2.2.1
theorem dX10_fewest_24 : decode cX10_fewest 24 = .ok (.if_icmp .eq 8, 3) := da9_dX10_fewest_0.2.2.2.2.2.2.2.2.2.2.2.2.2.2.2
theorem da9_dX10_fewest_27 : (decode cX10_fewest 27 = .ok (.iload_n 1, 1)) ∧ (decode cX10_fewest 28 = .ok (.iconst (-1), 1)) ∧ (decode cX10_fewest 29 = .ok (.if_icmp .ne 25, 3)) ∧ (decode cX10_fewest 32 = .ok (.aload_n 0, 1)) ∧ (decode cX10_fewest 33 = .ok (.getfield 91, 3)) ∧ (decode cX10_fewest 36 = .ok (.iload_n 2, 1)) ∧ (decode cX10_fewest 37 = .ok (.iaload, 1)) ∧ (decode cX10_fewest 38 = .ok (.ldc 188, 2)) ∧ (decode cX10_fewest 40 = .ok (.if_icmp .ne 7, 3)) ∧ (decode cX10_fewest 43 = .ok (.iconst (-1), 1)) ∧ (decode cX10_fewest 44 = .ok (.goto 9, 3)) ∧ (decode cX10_fewest 47 = .ok (.aload_n 0, 1)) ∧ (decode cX10_fewest 48 = .ok (.getfield 91, 3)) ∧ (decode cX10_fewest 51 = .ok (.iload_n 2, 1)) ∧ (decode cX10_fewest 52 = .ok (.iaload, 1)) ∧ (decode cX10_fewest 53 = .ok (.ireturn, 1)) := by decide +kernel
theorem dX10_fewest_27 : decode cX10_fewest 27 = .ok (.iload_n 1, 1) := da9_dX10_fewest_27.1
theorem dX10_fewest_28 : decode cX10_fewest 28 = .ok (.iconst (-1), 1) := da9_dX10_fewest_27.2.1
theorem dX10_fewest_29 : decode cX10_fewest 29 = .ok (.if_icmp .ne 25, 3) := da9_dX10_fewest_27.2.2.1
theorem dX10_fewest_32 : decode cX10_fewest 32 = .ok (.aload_n 0, 1) := da9_dX10_fewest_27.2.2.2.1
theorem dX10_fewest_33 : decode cX10_fewest 33 = .ok (.getfield 91, 3) := da9_dX10_fewest_27.2.2.2.2.1
theorem dX10_fewest_36 : decode cX10_fewest 36 = .ok (.iload_n 2, 1) := da9_dX10_fewest_27.2.2.2.2.2.1
theorem dX10_fewest_37 : decode cX10_fewest 37 = .ok (.iaload, 1) := da9_dX10_fewest_27.2.2.2.2.2.2.1
theorem dX10_fewest_38 : decode cX10_fewest 38 = .ok (.ldc 188, 2) := da9_dX10_fewest_27.2.2.2.2.2.2.2.1
theorem dX10_fewest_40 : decode cX10_fewest 40 = .ok (.if_icmp .ne 7, 3) := da9_dX10_fewest_27.2.2.2.2.2.2.2.2.1
theorem dX10_fewest_43 : decode cX10_fewest 43 = .ok (.iconst (-1), 1) := da9_dX10_fewest_27.2.2.2.2.2.2.2.2.2.1
theorem dX10_fewest_44 : decode cX10_fewest 44 = .ok (.goto 9, 3) := da9_dX10_fewest_27.2.2.2.2.2.2.2.2.2.2.1
theorem dX10_fewest_47 : decode cX10_fewest 47 = .ok (.aload_n 0, 1) := da9_dX10_fewest_27.2.2.2.2.2.2.2.2.2.2.2.1
theorem dX10_fewest_48 : decode cX10_fewest 48 = .ok (.getfield 91, 3) := da9_dX10_fewest_27.2.2.2.2.2.2.2.2.2.2.2.2.1
theorem dX10_fewest_51 : decode cX10_fewest 51 = .ok (.iload_n 2, 1) := da9_dX10_fewest_27.2.2.2.2.2.2.2.2.2.2.2.2.2.1
theorem dX10_fewest_52 : decode cX10_fewest 52 = .ok (.iaload, 1) := da9_dX10_fewest_27.2.2.2.2.2.2.2.2.2.2.2.2.2.2.1
theorem dX10_fewest_53 : decode cX10_fewest 53 = .ok (.ireturn, 1) := da9_dX10_fewest_27.2.2.2.2.2.2.2.2.2.2.2.2.2.2.2
theorem da9_dX10_fewest_54 : (decode cX10_fewest 54 = .ok (.iload_n 1, 1)) ∧ (decode cX10_fewest 55 = .ok (.aload_n 0, 1)) ∧ (decode cX10_fewest 56 = .ok (.getfield 91, 3)) ∧ (decode cX10_fewest 59 = .ok (.iload_n 2, 1)) ∧ (decode cX10_fewest 60 = .ok (.iaload, 1)) ∧ (decode cX10_fewest 61 = .ok (.if_icmp .lt 5, 3)) ∧ (decode cX10_fewest 64 = .ok (.iconst (-1), 1)) ∧ (decode cX10_fewest 65 = .ok (.ireturn, 1)) ∧ (decode cX10_fewest 66 = .ok (.iconst 0, 1)) ∧ (decode cX10_fewest 67 = .ok (.istore_n 3, 1)) ∧ (decode cX10_fewest 68 = .ok (.iconst 0, 1)) ∧ (decode cX10_fewest 69 = .ok (.istore 4, 2)) ∧ (decode cX10_fewest 71 = .ok (.iload 4, 2)) ∧ (decode cX10_fewest 73 = .ok (.iload_n 1, 1)) ∧ (decode cX10_fewest 74 = .ok (.if_icmp .gt 56, 3)) ∧ (decode cX10_fewest 77 = .ok (.iconst 1, 1)) := by decide +kernel
theorem dX10_fewest_54 : decode cX10_fewest 54 = .ok (.iload_n 1, 1) := da9_dX10_fewest_54.1
theorem dX10_fewest_55 : decode cX10_fewest 55 = .ok (.aload_n 0, 1) := da9_dX10_fewest_54.2.1
theorem dX10_fewest_56 : decode cX10_fewest 56 = .ok (.getfield 91, 3) := da9_dX10_fewest_54.2.2.1
theorem dX10_fewest_59 : decode cX10_fewest 59 = .ok (.iload_n 2, 1) := da9_dX10_fewest_54.2.2.2.1
theorem dX10_fewest_60 : decode cX10_fewest 60 = .ok (.iaload, 1) := da9_dX10_fewest_54.2.2.2.2.1
theorem dX10_fewest_61 : decode cX10_fewest 61 = .ok (.if_icmp .lt 5, 3) := da9_dX10_fewest_54.2.2.2.2.2.1
theorem dX10_fewest_64 : decode cX10_fewest 64 = .ok (.iconst (-1), 1) := da9_dX10_fewest_54.2.2.2.2.2.2.1
theorem dX10_fewest_65 : decode cX10_fewest 65 = .ok (.ireturn, 1) := da9_dX10_fewest_54.2.2.2.2.2.2.2.1
theorem dX10_fewest_66 : decode cX10_fewest 66 = .ok (.iconst 0, 1) := da9_dX10_fewest_54.2.2.2.2.2.2.2.2.1
theorem dX10_fewest_67 : decode cX10_fewest 67 = .ok (.istore_n 3, 1) := da9_dX10_fewest_54.2.2.2.2.2.2.2.2.2.1
theorem dX10_fewest_68 : decode cX10_fewest 68 = .ok (.iconst 0, 1) := da9_dX10_fewest_54.2.2.2.2.2.2.2.2.2.2.1
theorem dX10_fewest_69 : decode cX10_fewest 69 = .ok (.istore 4, 2) := da9_dX10_fewest_54.2.2.2.2.2.2.2.2.2.2.2.1
theorem dX10_fewest_71 : decode cX10_fewest 71 = .ok (.iload 4, 2) := da9_dX10_fewest_54.2.2.2.2.2.2.2.2.2.2.2.2.1
theorem dX10_fewest_73 : decode cX10_fewest 73 = .ok (.iload_n 1, 1) := da9_dX10_fewest_54.2.2.2.2.2.2.2.2.2.2.2.2.2.1
theorem dX10_fewest_74 : decode cX10_fewest 74 = .ok (.if_icmp .gt 56, 3) := da9_dX10_fewest_54.2.2.2.2.2.2.2.2.2.2.2.2.2.2.1
theorem dX10_fewest_77 : decode cX10_fewest 77 = .ok (.iconst 1, 1) := da9_dX10_fewest_54.2.2.2.2.2.2.2.2.2.2.2.2.2.2.2
theorem da9_dX10_fewest_78 : (decode cX10_fewest 78 = .ok (.istore_n 3, 1)) ∧ (decode cX10_fewest 79 = .ok (.aload_n 0, 1)) ∧ (decode cX10_fewest 80 = .ok (.iload_n 2, 1)) ∧ (decode cX10_fewest 81 = .ok (.iload_n 3, 1)) ∧ (decode cX10_fewest 82 = .ok (.invokevirtual 426, 3)) ∧ (decode cX10_fewest 85 = .ok (.iconst (-1), 1)) ∧ (decode cX10_fewest 86 = .ok (.if_icmp .eq 25, 3)) ∧ (decode cX10_fewest 89 = .ok (.aload_n 0, 1)) ∧ (decode cX10_fewest 90 = .ok (.getfield 91, 3)) ∧ (decode cX10_fewest 93 = .ok (.aload_n 0, 1)) ∧ (decode cX10_fewest 94 = .ok (.iload_n 2, 1)) ∧ (decode cX10_fewest 95 = .ok (.iload_n 3, 1)) ∧ (decode cX10_fewest 96 = .ok (.invokevirtual 423, 3)) ∧ (decode cX10_fewest 99 = .ok (.iaload, 1)) ∧ (decode cX10_fewest 100 = .ok (.aload_n 0, 1)) ∧ (decode cX10_fewest 101 = .ok (.getfield 91, 3)) := by decide +kernel
theorem dX10_fewest_78 : decode cX10_fewest 78 = .ok (.istore_n 3, 1) := da9_dX10_fewest_78.1
theorem dX10_fewest_79 : decode cX10_fewest 79 = .ok (.aload_n 0, 1) := da9_dX10_fewest_78.2.1
theorem dX10_fewest_80 : decode cX10_fewest 80 = .ok (.iload_n 2, 1) := da9_dX10_fewest_78.2.2.1
theorem dX10_fewest_81 : decode cX10_fewest 81 = .ok (.iload_n 3, 1) := da9_dX10_fewest_78.2.2.2.1
theorem dX10_fewest_82 : decode cX10_fewest 82 = .ok (.invokevirtual 426, 3) := da9_dX10_fewest_78.2.2.2.2.1
theorem dX10_fewest_85 : decode cX10_fewest 85 = .ok (.iconst (-1), 1) := da9_dX10_fewest_78.2.2.2.2.2.1
theorem dX10_fewest_86 : decode cX10_fewest 86 = .ok (.if_icmp .eq 25, 3) := da9_dX10_fewest_78.2.2.2.2.2.2.1
theorem dX10_fewest_89 : decode cX10_fewest 89 = .ok (.aload_n 0, 1) := da9_dX10_fewest_78.2.2.2.2.2.2.2.1
theorem dX10_fewest_90 : decode cX10_fewest 90 = .ok (.getfield 91, 3) := da9_dX10_fewest_78.2.2.2.2.2.2.2.2.1
theorem dX10_fewest_93 : decode cX10_fewest 93 = .ok (.aload_n 0, 1) := da9_dX10_fewest_78.2.2.2.2.2.2.2.2.2.1
theorem dX10_fewest_94 : decode cX10_fewest 94 = .ok (.iload_n 2, 1) := da9_dX10_fewest_78.2.2.2.2.2.2.2.2.2.2.1
theorem dX10_fewest_95 : decode cX10_fewest 95 = .ok (.iload_n 3, 1) := da9_dX10_fewest_78.2.2.2.2.2.2.2.2.2.2.2.1
theorem dX10_fewest_96 : decode cX10_fewest 96 = .ok (.invokevirtual 423, 3) := da9_dX10_fewest_78.2.2.2.2.2.2.2.2.2.2.2.2.1
theorem dX10_fewest_99 : decode cX10_fewest 99 = .ok (.iaload, 1) := da9_dX10_fewest_78.2.2.2.2.2.2.2.2.2.2.2.2.2.1
theorem dX10_fewest_100 : decode cX10_fewest 100 = .ok (.aload_n 0, 1) := da9_dX10_fewest_78.2.2.2.2.2.2.2.2.2.2.2.2.2.2.1
theorem dX10_fewest_101 : decode cX10_fewest 101 = .ok (.getfield 91, 3) := da9_dX10_fewest_78.2.2.2.2.2.2.2.2.2.2.2.2.2.2.2
theorem da9_dX10_fewest_104 : (decode cX10_fewest 104 = .ok (.iload_n 2, 1)) ∧ (decode cX10_fewest 105 = .ok (.iaload, 1)) ∧ (decode cX10_fewest 106 = .ok (.iconst 1, 1)) ∧ (decode cX10_fewest 107 = .ok (.isub, 1)) ∧ (decode cX10_fewest 108 = .ok (.if_icmp .eq 9, 3)) ∧ (decode cX10_fewest 111 = .ok (.iinc 3 1, 3)) ∧ (decode cX10_fewest 114 = .ok (.goto (-35), 3)) ∧ (decode cX10_fewest 117 = .ok (.aload_n 0, 1)) ∧ (decode cX10_fewest 118 = .ok (.iload_n 2, 1)) ∧ (decode cX10_fewest 119 = .ok (.iload_n 3, 1)) ∧ (decode cX10_fewest 120 = .ok (.invokevirtual 423, 3)) ∧ (decode cX10_fewest 123 = .ok (.istore_n 2, 1)) ∧ (decode cX10_fewest 124 = .ok (.iinc 4 1, 3)) ∧ (decode cX10_fewest 127 = .ok (.goto (-56), 3)) ∧ (decode cX10_fewest 130 = .ok (.iload_n 3, 1)) ∧ (decode cX10_fewest 131 = .ok (.ireturn, 1)) := by decide +kernel
theorem dX10_fewest_104 : decode cX10_fewest 104 = .ok (.iload_n 2, 1) := da9_dX10_fewest_104.1
theorem dX10_fewest_105 : decode cX10_fewest 105 = .ok (.iaload, 1) := da9_dX10_fewest_104.2.1
theorem dX10_fewest_106 : decode cX10_fewest 106 = .ok (.iconst 1, 1) := da9_dX10_fewest_104.2.2.1
theorem dX10_fewest_107 : decode cX10_fewest 107 = .ok (.isub, 1) := da9_dX10_fewest_104.2.2.2.1
theorem dX10_fewest_108 : decode cX10_fewest 108 = .ok (.if_icmp .eq 9, 3) := da9_dX10_fewest_104.2.2.2.2.1
theorem dX10_fewest_111 : decode cX10_fewest 111 = .ok (.iinc 3 1, 3) := da9_dX10_fewest_104.2.2.2.2.2.1
theorem dX10_fewest_114 : decode cX10_fewest 114 = .ok (.goto (-35), 3) := da9_dX10_fewest_104.2.2.2.2.2.2.1
theorem dX10_fewest_117 : decode cX10_fewest 117 = .ok (.aload_n 0, 1) := da9_dX10_fewest_104.2.2.2.2.2.2.2.1
theorem dX10_fewest_118 : decode cX10_fewest 118 = .ok (.iload_n 2, 1) := da9_dX10_fewest_104.2.2.2.2.2.2.2.2.1
theorem dX10_fewest_119 : decode cX10_fewest 119 = .ok (.iload_n 3, 1) := da9_dX10_fewest_104.2.2.2.2.2.2.2.2.2.1
theorem dX10_fewest_120 : decode cX10_fewest 120 = .ok (.invokevirtual 423, 3) := da9_dX10_fewest_104.2.2.2.2.2.2.2.2.2.2.1
theorem dX10_fewest_123 : decode cX10_fewest 123 = .ok (.istore_n 2, 1) := da9_dX10_fewest_104.2.2.2.2.2.2.2.2.2.2.2.1
theorem dX10_fewest_124 : decode cX10_fewest 124 = .ok (.iinc 4 1, 3) := da9_dX10_fewest_104.2.2.2.2.2.2.2.2.2.2.2.2.1
theorem dX10_fewest_127 : decode cX10_fewest 127 = .ok (.goto (-56), 3) := da9_dX10_fewest_104.2.2.2.2.2.2.2.2.2.2.2.2.2.1
theorem dX10_fewest_130 : decode cX10_fewest 130 = .ok (.iload_n 3, 1) := da9_dX10_fewest_104.2.2.2.2.2.2.2.2.2.2.2.2.2.2.1
theorem dX10_fewest_131 : decode cX10_fewest 131 = .ok (.ireturn, 1) := da9_dX10_fewest_104.2.2.2.2.2.2.2.2.2.2.2.2.2.2.2
set_option maxRecDepth 20000 in
theorem ggX10_many_X10_laysDist : GoodIn wsX10_many wsX10_laysDist := goodIn_r _ [6, 7, 8, 9, 1, 10, 11, 12, 13, 14, 5, 15, 16, 17, 18, 19, 20, 21, 22, 23, 24, 25, 26, 27, 28, 29, 30, 31, 32, 33, 34, 35, 36, 37, 38, 39, 40, 41, 42, 43, 44, 45, 46, 47, 48, 49, 50, 51, 52, 53, 54, 55, 56, 57, 58, 59, 60, 61, 62, 63, 64, 65, 66, 67, 68, 69, 70, 71, 72, 73, 74, 75, 76, 77, 78, 79, 80, 81, 82, 83, 84, 85, 86, 87, 88, 89, 90, 91, 92, 93, 94, 95, 96, 97, 98, 99, 100, 101, 102, 103, 104, 105, 106, 107, 108, 109, 110, 111, 112, 113, 114, 115, 116, 117, 118, 119, 120, 121, 122, 123, 124, 125, 126, 127, 128, 129, 130, 131, 132, 133, 134, 135, 136, 137, 138, 139, 140, 141, 142, 143, 144, 145, 146, 147, 148, 149, 150, 151, 152, 153, 154, 155, 156, 157, 158, 159, 160, 161, 162, 163, 164, 165, 166, 171, 172, 173, 174, 175, 176, 177, 178, 179, 180, 181, 182, 183, 184, 185, 186, 187, 188, 189, 190, 191, 192, 193, 194, 195, 196, 197, 198, 199, 200, 201, 202, 203, 204, 205, 206, 207, 208, 209, 210, 211, 212, 213, 214, 215, 216, 217, 218, 219, 220, 221, 222, 223, 224, 225, 226] rfl (by decide +kernel)
set_option maxRecDepth 20000 in
theorem gX10_many_X10_laysDist : GoodIn wsX10_many (wsV RX10 430 RX10 yX10_laysDist wsX10_laysDist) := goodIn_app (goodIn_of _ (by decide +kernel)) ggX10_many_X10_laysDist
set_option maxRecDepth 20000 in
theorem ggX10_many_X10_towerNow : GoodIn wsX10_many wsX10_towerNow := goodIn_r _ [170, 22, 30, 26, 27, 28, 5, 29, 53, 54, 55, 56, 41, 42, 43, 44, 171, 172, 173, 174, 175, 176, 177, 178, 179, 180, 181, 182, 183, 184, 185, 186, 187, 188, 189, 190, 191, 192, 193, 194, 195, 196, 197, 198, 199, 200, 201, 202, 203, 204, 205, 206, 207, 208, 209, 210, 211, 212, 213, 214, 215, 216, 217, 218, 219, 220, 221, 222, 223, 224, 225, 226] rfl (by decide +kernel)
set_option maxRecDepth 20000 in
theorem gX10_many_X10_towerNow : GoodIn wsX10_many (wsV RX10 433 RX10 yX10_towerNow wsX10_towerNow) := goodIn_app (goodIn_of _ (by decide +kernel)) ggX10_many_X10_towerNow
theorem da9_dX10_many_0 : (decode cX10_many 0 = .ok (.aload_n 0, 1)) ∧ (decode cX10_many 1 = .ok (.invokevirtual 430, 3)) ∧ (decode cX10_many 4 = .ok (.aload_n 0, 1)) ∧ (decode cX10_many 5 = .ok (.getfield 94, 3)) ∧ (decode cX10_many 8 = .ok (.aload_n 0, 1)) ∧ (decode cX10_many 9 = .ok (.invokevirtual 433, 3)) ∧ (decode cX10_many 12 = .ok (.iaload, 1)) ∧ (decode cX10_many 13 = .ok (.ireturn, 1)) := by decide +kernel
theorem dX10_many_0 : decode cX10_many 0 = .ok (.aload_n 0, 1) := da9_dX10_many_0.1
theorem dX10_many_1 : decode cX10_many 1 = .ok (.invokevirtual 430, 3) := da9_dX10_many_0.2.1
theorem dX10_many_4 : decode cX10_many 4 = .ok (.aload_n 0, 1) := da9_dX10_many_0.2.2.1
theorem dX10_many_5 : decode cX10_many 5 = .ok (.getfield 94, 3) := da9_dX10_many_0.2.2.2.1
theorem dX10_many_8 : decode cX10_many 8 = .ok (.aload_n 0, 1) := da9_dX10_many_0.2.2.2.2.1
theorem dX10_many_9 : decode cX10_many 9 = .ok (.invokevirtual 433, 3) := da9_dX10_many_0.2.2.2.2.2.1
theorem dX10_many_12 : decode cX10_many 12 = .ok (.iaload, 1) := da9_dX10_many_0.2.2.2.2.2.2.1
theorem dX10_many_13 : decode cX10_many 13 = .ok (.ireturn, 1) := da9_dX10_many_0.2.2.2.2.2.2.2
set_option maxRecDepth 20000 in
theorem ggX10_compare_X10_isLaw : GoodIn wsX10_compare wsX10_isLaw := goodIn_r _ [6, 1, 7, 8, 5, 9, 179, 180, 181, 182, 183, 184, 185, 186, 187, 188, 189, 190, 191, 192, 193, 194, 195, 196, 197, 198, 199, 200, 201, 202, 203, 204, 205, 206, 207, 208, 209, 210, 211, 212, 213, 214, 215, 216, 217, 218, 219, 220, 221, 222, 223, 224, 225, 226, 227, 228, 229, 230, 231, 232, 233, 234] rfl (by decide +kernel)
set_option maxRecDepth 20000 in
theorem gX10_compare_X10_isLaw : GoodIn wsX10_compare (wsV RX10 272 RX10 yX10_isLaw wsX10_isLaw) := goodIn_app (goodIn_of _ (by decide +kernel)) ggX10_compare_X10_isLaw
set_option maxRecDepth 20000 in
theorem ggX10_compare_X10_fewest : GoodIn wsX10_compare wsX10_fewest := goodIn_r _ [13, 14, 15, 16, 17, 18, 5, 19, 20, 21, 22, 23, 24, 25, 26, 27, 28, 29, 30, 31, 32, 33, 34, 35, 36, 37, 38, 39, 40, 41, 1, 42, 43, 44, 45, 46, 47, 48, 49, 50, 51, 52, 53, 54, 55, 56, 57, 58, 59, 60, 61, 62, 63, 64, 65, 66, 67, 68, 69, 70, 71, 72, 73, 74, 75, 76, 77, 78, 79, 80, 81, 82, 83, 84, 85, 86, 87, 88, 89, 90, 91, 92, 93, 94, 95, 96, 97, 98, 99, 100, 101, 102, 103, 104, 105, 106, 107, 108, 109, 110, 111, 112, 113, 114, 115, 116, 117, 118, 119, 120, 121, 122, 123, 124, 125, 126, 127, 7, 8, 9, 128, 129, 130, 131, 132, 133, 134, 135, 136, 137, 138, 139, 140, 141, 142, 143, 144, 145, 146, 147, 148, 149, 150, 151, 152, 153, 154, 155, 156, 157, 158, 159, 160, 161, 162, 163, 164, 165, 166, 167, 168, 169, 170, 171, 172, 173, 174, 175, 176, 177, 178, 179, 180, 181, 182, 183, 184, 185, 186, 187, 188, 189, 190, 191, 192, 193, 194, 195, 196, 197, 198, 199, 200, 201, 202, 203, 204, 205, 206, 207, 208, 209, 210, 211, 212, 213, 214, 215, 216, 217, 218, 219, 220, 221, 222, 223, 224, 225, 226, 227, 228, 229, 230, 231, 232, 233, 234] rfl (by decide +kernel)
set_option maxRecDepth 20000 in
theorem gX10_compare_X10_fewest : GoodIn wsX10_compare (wsV RX10 436 RX10 yX10_fewest wsX10_fewest) := goodIn_app (goodIn_of _ (by decide +kernel)) ggX10_compare_X10_fewest
theorem da9_dX10_compare_0 : (decode cX10_compare 0 = .ok (.aload_n 0, 1)) ∧ (decode cX10_compare 1 = .ok (.iload_n 1, 1)) ∧ (decode cX10_compare 2 = .ok (.invokevirtual 272, 3)) ∧ (decode cX10_compare 5 = .ok (.ifCond .ne 5, 3)) ∧ (decode cX10_compare 8 = .ok (.iconst (-1), 1)) ∧ (decode cX10_compare 9 = .ok (.ireturn, 1)) ∧ (decode cX10_compare 10 = .ok (.aload_n 0, 1)) ∧ (decode cX10_compare 11 = .ok (.getfield 28, 3)) ∧ (decode cX10_compare 14 = .ok (.bipush 32, 2)) ∧ (decode cX10_compare 16 = .ok (.iaload, 1)) ∧ (decode cX10_compare 17 = .ok (.istore_n 2, 1)) ∧ (decode cX10_compare 18 = .ok (.aload_n 0, 1)) ∧ (decode cX10_compare 19 = .ok (.getfield 28, 3)) ∧ (decode cX10_compare 22 = .ok (.bipush 32, 2)) ∧ (decode cX10_compare 24 = .ok (.iload_n 1, 1)) ∧ (decode cX10_compare 25 = .ok (.iastore, 1)) := by decide +kernel
theorem dX10_compare_0 : decode cX10_compare 0 = .ok (.aload_n 0, 1) := da9_dX10_compare_0.1
theorem dX10_compare_1 : decode cX10_compare 1 = .ok (.iload_n 1, 1) := da9_dX10_compare_0.2.1
theorem dX10_compare_2 : decode cX10_compare 2 = .ok (.invokevirtual 272, 3) := da9_dX10_compare_0.2.2.1
theorem dX10_compare_5 : decode cX10_compare 5 = .ok (.ifCond .ne 5, 3) := da9_dX10_compare_0.2.2.2.1
theorem dX10_compare_8 : decode cX10_compare 8 = .ok (.iconst (-1), 1) := da9_dX10_compare_0.2.2.2.2.1
theorem dX10_compare_9 : decode cX10_compare 9 = .ok (.ireturn, 1) := da9_dX10_compare_0.2.2.2.2.2.1
theorem dX10_compare_10 : decode cX10_compare 10 = .ok (.aload_n 0, 1) := da9_dX10_compare_0.2.2.2.2.2.2.1
theorem dX10_compare_11 : decode cX10_compare 11 = .ok (.getfield 28, 3) := da9_dX10_compare_0.2.2.2.2.2.2.2.1
theorem dX10_compare_14 : decode cX10_compare 14 = .ok (.bipush 32, 2) := da9_dX10_compare_0.2.2.2.2.2.2.2.2.1
theorem dX10_compare_16 : decode cX10_compare 16 = .ok (.iaload, 1) := da9_dX10_compare_0.2.2.2.2.2.2.2.2.2.1
theorem dX10_compare_17 : decode cX10_compare 17 = .ok (.istore_n 2, 1) := da9_dX10_compare_0.2.2.2.2.2.2.2.2.2.2.1
theorem dX10_compare_18 : decode cX10_compare 18 = .ok (.aload_n 0, 1) := da9_dX10_compare_0.2.2.2.2.2.2.2.2.2.2.2.1
theorem dX10_compare_19 : decode cX10_compare 19 = .ok (.getfield 28, 3) := da9_dX10_compare_0.2.2.2.2.2.2.2.2.2.2.2.2.1
theorem dX10_compare_22 : decode cX10_compare 22 = .ok (.bipush 32, 2) := da9_dX10_compare_0.2.2.2.2.2.2.2.2.2.2.2.2.2.1
theorem dX10_compare_24 : decode cX10_compare 24 = .ok (.iload_n 1, 1) := da9_dX10_compare_0.2.2.2.2.2.2.2.2.2.2.2.2.2.2.1
theorem dX10_compare_25 : decode cX10_compare 25 = .ok (.iastore, 1) := da9_dX10_compare_0.2.2.2.2.2.2.2.2.2.2.2.2.2.2.2
theorem da9_dX10_compare_26 : (decode cX10_compare 26 = .ok (.aload_n 0, 1)) ∧ (decode cX10_compare 27 = .ok (.iconst (-1), 1)) ∧ (decode cX10_compare 28 = .ok (.invokevirtual 436, 3)) ∧ (decode cX10_compare 31 = .ok (.istore_n 3, 1)) ∧ (decode cX10_compare 32 = .ok (.aload_n 0, 1)) ∧ (decode cX10_compare 33 = .ok (.getfield 28, 3)) ∧ (decode cX10_compare 36 = .ok (.bipush 32, 2)) ∧ (decode cX10_compare 38 = .ok (.iload_n 2, 1)) ∧ (decode cX10_compare 39 = .ok (.iastore, 1)) ∧ (decode cX10_compare 40 = .ok (.iload_n 3, 1)) ∧ (decode cX10_compare 41 = .ok (.ireturn, 1)) := by decide +kernel
theorem dX10_compare_26 : decode cX10_compare 26 = .ok (.aload_n 0, 1) := da9_dX10_compare_26.1
theorem dX10_compare_27 : decode cX10_compare 27 = .ok (.iconst (-1), 1) := da9_dX10_compare_26.2.1
theorem dX10_compare_28 : decode cX10_compare 28 = .ok (.invokevirtual 436, 3) := da9_dX10_compare_26.2.2.1
theorem dX10_compare_31 : decode cX10_compare 31 = .ok (.istore_n 3, 1) := da9_dX10_compare_26.2.2.2.1
theorem dX10_compare_32 : decode cX10_compare 32 = .ok (.aload_n 0, 1) := da9_dX10_compare_26.2.2.2.2.1
theorem dX10_compare_33 : decode cX10_compare 33 = .ok (.getfield 28, 3) := da9_dX10_compare_26.2.2.2.2.2.1
theorem dX10_compare_36 : decode cX10_compare 36 = .ok (.bipush 32, 2) := da9_dX10_compare_26.2.2.2.2.2.2.1
theorem dX10_compare_38 : decode cX10_compare 38 = .ok (.iload_n 2, 1) := da9_dX10_compare_26.2.2.2.2.2.2.2.1
theorem dX10_compare_39 : decode cX10_compare 39 = .ok (.iastore, 1) := da9_dX10_compare_26.2.2.2.2.2.2.2.2.1
theorem dX10_compare_40 : decode cX10_compare 40 = .ok (.iload_n 3, 1) := da9_dX10_compare_26.2.2.2.2.2.2.2.2.2.1
theorem dX10_compare_41 : decode cX10_compare 41 = .ok (.ireturn, 1) := da9_dX10_compare_26.2.2.2.2.2.2.2.2.2.2
set_option maxRecDepth 20000 in
theorem ggX10_worst_X10_lies : GoodIn wsX10_worst wsX10_lies := goodIn_r _ [7] rfl (by decide +kernel)
set_option maxRecDepth 20000 in
theorem gX10_worst_X10_lies : GoodIn wsX10_worst (va_wsS RX10 18 yX10_lies wsX10_lies) := goodIn_app (goodIn_of _ (by decide +kernel)) ggX10_worst_X10_lies
set_option maxRecDepth 20000 in
theorem ggX10_worst_X10_laysDist : GoodIn wsX10_worst wsX10_laysDist := goodIn_r _ [11, 1, 2, 3, 12, 13, 14, 15, 16, 17, 6, 18, 19, 20, 21, 22, 23, 24, 25, 26, 27, 28, 29, 30, 31, 32, 33, 34, 35, 36, 37, 38, 39, 40, 41, 42, 43, 44, 45, 46, 47, 48, 49, 50, 51, 52, 53, 54, 55, 56, 57, 58, 59, 60, 61, 62, 63, 64, 65, 66, 67, 68, 69, 70, 71, 72, 73, 74, 75, 76, 77, 78, 79, 80, 81, 82, 83, 84, 85, 86, 87, 88, 89, 90, 91, 92, 93, 94, 95, 96, 97, 98, 99, 100, 101, 102, 103, 104, 105, 106, 107, 108, 109, 110, 111, 112, 113, 114, 115, 116, 117, 118, 119, 4, 5, 7, 120, 121, 122, 123, 124, 125, 126, 127, 128, 129, 130, 131, 132, 133, 134, 135, 136, 137, 138, 139, 140, 141, 142, 143, 144, 145, 146, 147, 148, 149, 150, 151, 152, 153, 154, 155, 156, 157, 158, 159, 160, 161, 162, 163, 164, 165, 166, 170, 171, 172, 173, 174, 175, 176, 177, 178, 179, 180, 181, 182, 183, 184, 185, 186, 187, 188, 189, 190, 191, 192, 193, 194, 195, 196, 197, 198, 199, 200, 201, 202, 203, 204, 205, 206, 207, 208, 209, 210, 211, 212, 213, 214, 215, 216, 217, 218, 219, 220, 221, 222, 223, 224, 225] rfl (by decide +kernel)
set_option maxRecDepth 20000 in
theorem gX10_worst_X10_laysDist : GoodIn wsX10_worst (wsV RX10 430 RX10 yX10_laysDist wsX10_laysDist) := goodIn_app (goodIn_of _ (by decide +kernel)) ggX10_worst_X10_laysDist
set_option maxRecDepth 20000 in
theorem ggX10_worst_X10_isThere : GoodIn wsX10_worst wsX10_isThere := goodIn_r _ [151, 24, 1, 170, 171, 172, 173, 174, 175, 176, 177, 178, 179, 180, 181, 182, 183, 184, 185, 186, 187, 188, 189, 190, 191, 192, 193, 194, 195, 196, 197, 198, 199, 200, 201, 202, 203, 204, 205, 206, 207, 208, 209, 210, 211, 212, 213, 214, 215, 216, 217, 218, 219, 220, 221, 222, 223, 224, 225] rfl (by decide +kernel)
set_option maxRecDepth 20000 in
theorem gX10_worst_X10_isThere : GoodIn wsX10_worst (wsV RX10 417 RX10 yX10_isThere wsX10_isThere) := goodIn_app (goodIn_of _ (by decide +kernel)) ggX10_worst_X10_isThere
set_option maxRecDepth 20000 in
theorem ggX10_worst_X10_greater : GoodIn wsX10_worst wsX10_greater := goodIn_r _ [169] rfl (by decide +kernel)
set_option maxRecDepth 20000 in
theorem gX10_worst_X10_greater : GoodIn wsX10_worst (va_wsS RX10 439 yX10_greater wsX10_greater) := goodIn_app (goodIn_of _ (by decide +kernel)) ggX10_worst_X10_greater
theorem da9_dX10_worst_0 : (decode cX10_worst 0 = .ok (.iload_n 1, 1)) ∧ (decode cX10_worst 1 = .ok (.iconst 0, 1)) ∧ (decode cX10_worst 2 = .ok (.iconst 2, 1)) ∧ (decode cX10_worst 3 = .ok (.invokestatic 18, 3)) ∧ (decode cX10_worst 6 = .ok (.ifCond .ne 5, 3)) ∧ (decode cX10_worst 9 = .ok (.iconst (-1), 1)) ∧ (decode cX10_worst 10 = .ok (.ireturn, 1)) ∧ (decode cX10_worst 11 = .ok (.aload_n 0, 1)) ∧ (decode cX10_worst 12 = .ok (.invokevirtual 430, 3)) ∧ (decode cX10_worst 15 = .ok (.iconst 0, 1)) ∧ (decode cX10_worst 16 = .ok (.istore_n 2, 1)) ∧ (decode cX10_worst 17 = .ok (.iconst 0, 1)) ∧ (decode cX10_worst 18 = .ok (.istore_n 3, 1)) ∧ (decode cX10_worst 19 = .ok (.iconst 0, 1)) ∧ (decode cX10_worst 20 = .ok (.istore 4, 2)) ∧ (decode cX10_worst 22 = .ok (.iconst 0, 1)) := by decide +kernel
theorem dX10_worst_0 : decode cX10_worst 0 = .ok (.iload_n 1, 1) := da9_dX10_worst_0.1
theorem dX10_worst_1 : decode cX10_worst 1 = .ok (.iconst 0, 1) := da9_dX10_worst_0.2.1
theorem dX10_worst_2 : decode cX10_worst 2 = .ok (.iconst 2, 1) := da9_dX10_worst_0.2.2.1
theorem dX10_worst_3 : decode cX10_worst 3 = .ok (.invokestatic 18, 3) := da9_dX10_worst_0.2.2.2.1
theorem dX10_worst_6 : decode cX10_worst 6 = .ok (.ifCond .ne 5, 3) := da9_dX10_worst_0.2.2.2.2.1
theorem dX10_worst_9 : decode cX10_worst 9 = .ok (.iconst (-1), 1) := da9_dX10_worst_0.2.2.2.2.2.1
theorem dX10_worst_10 : decode cX10_worst 10 = .ok (.ireturn, 1) := da9_dX10_worst_0.2.2.2.2.2.2.1
theorem dX10_worst_11 : decode cX10_worst 11 = .ok (.aload_n 0, 1) := da9_dX10_worst_0.2.2.2.2.2.2.2.1
theorem dX10_worst_12 : decode cX10_worst 12 = .ok (.invokevirtual 430, 3) := da9_dX10_worst_0.2.2.2.2.2.2.2.2.1
theorem dX10_worst_15 : decode cX10_worst 15 = .ok (.iconst 0, 1) := da9_dX10_worst_0.2.2.2.2.2.2.2.2.2.1
theorem dX10_worst_16 : decode cX10_worst 16 = .ok (.istore_n 2, 1) := da9_dX10_worst_0.2.2.2.2.2.2.2.2.2.2.1
theorem dX10_worst_17 : decode cX10_worst 17 = .ok (.iconst 0, 1) := da9_dX10_worst_0.2.2.2.2.2.2.2.2.2.2.2.1
theorem dX10_worst_18 : decode cX10_worst 18 = .ok (.istore_n 3, 1) := da9_dX10_worst_0.2.2.2.2.2.2.2.2.2.2.2.2.1
theorem dX10_worst_19 : decode cX10_worst 19 = .ok (.iconst 0, 1) := da9_dX10_worst_0.2.2.2.2.2.2.2.2.2.2.2.2.2.1
theorem dX10_worst_20 : decode cX10_worst 20 = .ok (.istore 4, 2) := da9_dX10_worst_0.2.2.2.2.2.2.2.2.2.2.2.2.2.2.1
theorem dX10_worst_22 : decode cX10_worst 22 = .ok (.iconst 0, 1) := da9_dX10_worst_0.2.2.2.2.2.2.2.2.2.2.2.2.2.2.2
theorem da9_dX10_worst_23 : (decode cX10_worst 23 = .ok (.istore 5, 2)) ∧ (decode cX10_worst 25 = .ok (.iload 5, 2)) ∧ (decode cX10_worst 27 = .ok (.bipush 64, 2)) ∧ (decode cX10_worst 29 = .ok (.aload_n 0, 1)) ∧ (decode cX10_worst 30 = .ok (.getfield 386, 3)) ∧ (decode cX10_worst 33 = .ok (.imul, 1)) ∧ (decode cX10_worst 34 = .ok (.if_icmp .ge 82, 3)) ∧ (decode cX10_worst 37 = .ok (.aload_n 0, 1)) ∧ (decode cX10_worst 38 = .ok (.iload 5, 2)) ∧ (decode cX10_worst 40 = .ok (.invokevirtual 417, 3)) ∧ (decode cX10_worst 43 = .ok (.ifCond .eq 67, 3)) ∧ (decode cX10_worst 46 = .ok (.aload_n 0, 1)) ∧ (decode cX10_worst 47 = .ok (.getfield 91, 3)) ∧ (decode cX10_worst 50 = .ok (.iload 5, 2)) ∧ (decode cX10_worst 52 = .ok (.iaload, 1)) ∧ (decode cX10_worst 53 = .ok (.ldc 188, 2)) := by decide +kernel
theorem dX10_worst_23 : decode cX10_worst 23 = .ok (.istore 5, 2) := da9_dX10_worst_23.1
theorem dX10_worst_25 : decode cX10_worst 25 = .ok (.iload 5, 2) := da9_dX10_worst_23.2.1
theorem dX10_worst_27 : decode cX10_worst 27 = .ok (.bipush 64, 2) := da9_dX10_worst_23.2.2.1
theorem dX10_worst_29 : decode cX10_worst 29 = .ok (.aload_n 0, 1) := da9_dX10_worst_23.2.2.2.1
theorem dX10_worst_30 : decode cX10_worst 30 = .ok (.getfield 386, 3) := da9_dX10_worst_23.2.2.2.2.1
theorem dX10_worst_33 : decode cX10_worst 33 = .ok (.imul, 1) := da9_dX10_worst_23.2.2.2.2.2.1
theorem dX10_worst_34 : decode cX10_worst 34 = .ok (.if_icmp .ge 82, 3) := da9_dX10_worst_23.2.2.2.2.2.2.1
theorem dX10_worst_37 : decode cX10_worst 37 = .ok (.aload_n 0, 1) := da9_dX10_worst_23.2.2.2.2.2.2.2.1
theorem dX10_worst_38 : decode cX10_worst 38 = .ok (.iload 5, 2) := da9_dX10_worst_23.2.2.2.2.2.2.2.2.1
theorem dX10_worst_40 : decode cX10_worst 40 = .ok (.invokevirtual 417, 3) := da9_dX10_worst_23.2.2.2.2.2.2.2.2.2.1
theorem dX10_worst_43 : decode cX10_worst 43 = .ok (.ifCond .eq 67, 3) := da9_dX10_worst_23.2.2.2.2.2.2.2.2.2.2.1
theorem dX10_worst_46 : decode cX10_worst 46 = .ok (.aload_n 0, 1) := da9_dX10_worst_23.2.2.2.2.2.2.2.2.2.2.2.1
theorem dX10_worst_47 : decode cX10_worst 47 = .ok (.getfield 91, 3) := da9_dX10_worst_23.2.2.2.2.2.2.2.2.2.2.2.2.1
theorem dX10_worst_50 : decode cX10_worst 50 = .ok (.iload 5, 2) := da9_dX10_worst_23.2.2.2.2.2.2.2.2.2.2.2.2.2.1
theorem dX10_worst_52 : decode cX10_worst 52 = .ok (.iaload, 1) := da9_dX10_worst_23.2.2.2.2.2.2.2.2.2.2.2.2.2.2.1
theorem dX10_worst_53 : decode cX10_worst 53 = .ok (.ldc 188, 2) := da9_dX10_worst_23.2.2.2.2.2.2.2.2.2.2.2.2.2.2.2
theorem da9_dX10_worst_55 : (decode cX10_worst 55 = .ok (.if_icmp .ne 6, 3)) ∧ (decode cX10_worst 58 = .ok (.goto 52, 3)) ∧ (decode cX10_worst 61 = .ok (.aload_n 0, 1)) ∧ (decode cX10_worst 62 = .ok (.getfield 91, 3)) ∧ (decode cX10_worst 65 = .ok (.iload 5, 2)) ∧ (decode cX10_worst 67 = .ok (.iaload, 1)) ∧ (decode cX10_worst 68 = .ok (.iload_n 2, 1)) ∧ (decode cX10_worst 69 = .ok (.if_icmp .le 7, 3)) ∧ (decode cX10_worst 72 = .ok (.iconst 1, 1)) ∧ (decode cX10_worst 73 = .ok (.goto 21, 3)) ∧ (decode cX10_worst 76 = .ok (.aload_n 0, 1)) ∧ (decode cX10_worst 77 = .ok (.getfield 91, 3)) ∧ (decode cX10_worst 80 = .ok (.iload 5, 2)) ∧ (decode cX10_worst 82 = .ok (.iaload, 1)) ∧ (decode cX10_worst 83 = .ok (.iload_n 2, 1)) ∧ (decode cX10_worst 84 = .ok (.if_icmp .ne 9, 3)) := by decide +kernel
theorem dX10_worst_55 : decode cX10_worst 55 = .ok (.if_icmp .ne 6, 3) := da9_dX10_worst_55.1
theorem dX10_worst_58 : decode cX10_worst 58 = .ok (.goto 52, 3) := da9_dX10_worst_55.2.1
theorem dX10_worst_61 : decode cX10_worst 61 = .ok (.aload_n 0, 1) := da9_dX10_worst_55.2.2.1
theorem dX10_worst_62 : decode cX10_worst 62 = .ok (.getfield 91, 3) := da9_dX10_worst_55.2.2.2.1
theorem dX10_worst_65 : decode cX10_worst 65 = .ok (.iload 5, 2) := da9_dX10_worst_55.2.2.2.2.1
theorem dX10_worst_67 : decode cX10_worst 67 = .ok (.iaload, 1) := da9_dX10_worst_55.2.2.2.2.2.1
theorem dX10_worst_68 : decode cX10_worst 68 = .ok (.iload_n 2, 1) := da9_dX10_worst_55.2.2.2.2.2.2.1
theorem dX10_worst_69 : decode cX10_worst 69 = .ok (.if_icmp .le 7, 3) := da9_dX10_worst_55.2.2.2.2.2.2.2.1
theorem dX10_worst_72 : decode cX10_worst 72 = .ok (.iconst 1, 1) := da9_dX10_worst_55.2.2.2.2.2.2.2.2.1
theorem dX10_worst_73 : decode cX10_worst 73 = .ok (.goto 21, 3) := da9_dX10_worst_55.2.2.2.2.2.2.2.2.2.1
theorem dX10_worst_76 : decode cX10_worst 76 = .ok (.aload_n 0, 1) := da9_dX10_worst_55.2.2.2.2.2.2.2.2.2.2.1
theorem dX10_worst_77 : decode cX10_worst 77 = .ok (.getfield 91, 3) := da9_dX10_worst_55.2.2.2.2.2.2.2.2.2.2.2.1
theorem dX10_worst_80 : decode cX10_worst 80 = .ok (.iload 5, 2) := da9_dX10_worst_55.2.2.2.2.2.2.2.2.2.2.2.2.1
theorem dX10_worst_82 : decode cX10_worst 82 = .ok (.iaload, 1) := da9_dX10_worst_55.2.2.2.2.2.2.2.2.2.2.2.2.2.1
theorem dX10_worst_83 : decode cX10_worst 83 = .ok (.iload_n 2, 1) := da9_dX10_worst_55.2.2.2.2.2.2.2.2.2.2.2.2.2.2.1
theorem dX10_worst_84 : decode cX10_worst 84 = .ok (.if_icmp .ne 9, 3) := da9_dX10_worst_55.2.2.2.2.2.2.2.2.2.2.2.2.2.2.2
theorem da9_dX10_worst_87 : (decode cX10_worst 87 = .ok (.iload_n 3, 1)) ∧ (decode cX10_worst 88 = .ok (.iconst 1, 1)) ∧ (decode cX10_worst 89 = .ok (.iadd, 1)) ∧ (decode cX10_worst 90 = .ok (.goto 4, 3)) ∧ (decode cX10_worst 93 = .ok (.iload_n 3, 1)) ∧ (decode cX10_worst 94 = .ok (.istore_n 3, 1)) ∧ (decode cX10_worst 95 = .ok (.iload_n 2, 1)) ∧ (decode cX10_worst 96 = .ok (.aload_n 0, 1)) ∧ (decode cX10_worst 97 = .ok (.getfield 91, 3)) ∧ (decode cX10_worst 100 = .ok (.iload 5, 2)) ∧ (decode cX10_worst 102 = .ok (.iaload, 1)) ∧ (decode cX10_worst 103 = .ok (.invokestatic 439, 3)) ∧ (decode cX10_worst 106 = .ok (.istore_n 2, 1)) ∧ (decode cX10_worst 107 = .ok (.iinc 4 1, 3)) ∧ (decode cX10_worst 110 = .ok (.iinc 5 1, 3)) ∧ (decode cX10_worst 113 = .ok (.goto (-88), 3)) := by decide +kernel
theorem dX10_worst_87 : decode cX10_worst 87 = .ok (.iload_n 3, 1) := da9_dX10_worst_87.1
theorem dX10_worst_88 : decode cX10_worst 88 = .ok (.iconst 1, 1) := da9_dX10_worst_87.2.1
theorem dX10_worst_89 : decode cX10_worst 89 = .ok (.iadd, 1) := da9_dX10_worst_87.2.2.1
theorem dX10_worst_90 : decode cX10_worst 90 = .ok (.goto 4, 3) := da9_dX10_worst_87.2.2.2.1
theorem dX10_worst_93 : decode cX10_worst 93 = .ok (.iload_n 3, 1) := da9_dX10_worst_87.2.2.2.2.1
theorem dX10_worst_94 : decode cX10_worst 94 = .ok (.istore_n 3, 1) := da9_dX10_worst_87.2.2.2.2.2.1
theorem dX10_worst_95 : decode cX10_worst 95 = .ok (.iload_n 2, 1) := da9_dX10_worst_87.2.2.2.2.2.2.1
theorem dX10_worst_96 : decode cX10_worst 96 = .ok (.aload_n 0, 1) := da9_dX10_worst_87.2.2.2.2.2.2.2.1
theorem dX10_worst_97 : decode cX10_worst 97 = .ok (.getfield 91, 3) := da9_dX10_worst_87.2.2.2.2.2.2.2.2.1
theorem dX10_worst_100 : decode cX10_worst 100 = .ok (.iload 5, 2) := da9_dX10_worst_87.2.2.2.2.2.2.2.2.2.1
theorem dX10_worst_102 : decode cX10_worst 102 = .ok (.iaload, 1) := da9_dX10_worst_87.2.2.2.2.2.2.2.2.2.2.1
theorem dX10_worst_103 : decode cX10_worst 103 = .ok (.invokestatic 439, 3) := da9_dX10_worst_87.2.2.2.2.2.2.2.2.2.2.2.1
theorem dX10_worst_106 : decode cX10_worst 106 = .ok (.istore_n 2, 1) := da9_dX10_worst_87.2.2.2.2.2.2.2.2.2.2.2.2.1
theorem dX10_worst_107 : decode cX10_worst 107 = .ok (.iinc 4 1, 3) := da9_dX10_worst_87.2.2.2.2.2.2.2.2.2.2.2.2.2.1
theorem dX10_worst_110 : decode cX10_worst 110 = .ok (.iinc 5 1, 3) := da9_dX10_worst_87.2.2.2.2.2.2.2.2.2.2.2.2.2.2.1
theorem dX10_worst_113 : decode cX10_worst 113 = .ok (.goto (-88), 3) := da9_dX10_worst_87.2.2.2.2.2.2.2.2.2.2.2.2.2.2.2
theorem da9_dX10_worst_116 : (decode cX10_worst 116 = .ok (.iload_n 1, 1)) ∧ (decode cX10_worst 117 = .ok (.ifCond .ne 7, 3)) ∧ (decode cX10_worst 120 = .ok (.iload_n 2, 1)) ∧ (decode cX10_worst 121 = .ok (.goto 14, 3)) ∧ (decode cX10_worst 124 = .ok (.iload_n 1, 1)) ∧ (decode cX10_worst 125 = .ok (.iconst 1, 1)) ∧ (decode cX10_worst 126 = .ok (.if_icmp .ne 7, 3)) ∧ (decode cX10_worst 129 = .ok (.iload_n 3, 1)) ∧ (decode cX10_worst 130 = .ok (.goto 5, 3)) ∧ (decode cX10_worst 133 = .ok (.iload 4, 2)) ∧ (decode cX10_worst 135 = .ok (.ireturn, 1)) := by decide +kernel
theorem dX10_worst_116 : decode cX10_worst 116 = .ok (.iload_n 1, 1) := da9_dX10_worst_116.1
theorem dX10_worst_117 : decode cX10_worst 117 = .ok (.ifCond .ne 7, 3) := da9_dX10_worst_116.2.1
theorem dX10_worst_120 : decode cX10_worst 120 = .ok (.iload_n 2, 1) := da9_dX10_worst_116.2.2.1
theorem dX10_worst_121 : decode cX10_worst 121 = .ok (.goto 14, 3) := da9_dX10_worst_116.2.2.2.1
theorem dX10_worst_124 : decode cX10_worst 124 = .ok (.iload_n 1, 1) := da9_dX10_worst_116.2.2.2.2.1
theorem dX10_worst_125 : decode cX10_worst 125 = .ok (.iconst 1, 1) := da9_dX10_worst_116.2.2.2.2.2.1
theorem dX10_worst_126 : decode cX10_worst 126 = .ok (.if_icmp .ne 7, 3) := da9_dX10_worst_116.2.2.2.2.2.2.1
theorem dX10_worst_129 : decode cX10_worst 129 = .ok (.iload_n 3, 1) := da9_dX10_worst_116.2.2.2.2.2.2.2.1
theorem dX10_worst_130 : decode cX10_worst 130 = .ok (.goto 5, 3) := da9_dX10_worst_116.2.2.2.2.2.2.2.2.1
theorem dX10_worst_133 : decode cX10_worst 133 = .ok (.iload 4, 2) := da9_dX10_worst_116.2.2.2.2.2.2.2.2.2.1
theorem dX10_worst_135 : decode cX10_worst 135 = .ok (.ireturn, 1) := da9_dX10_worst_116.2.2.2.2.2.2.2.2.2.2
