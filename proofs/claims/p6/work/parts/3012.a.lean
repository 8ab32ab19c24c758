set_option maxRecDepth 20000 in
theorem ggX10_cheapest_X10_laysPrices : GoodIn wsX10_cheapest wsX10_laysPrices := goodIn_r _ [11, 12, 13, 14, 15, 10, 16, 1, 17, 18, 19, 20, 21, 22, 23, 24, 25, 26, 27, 28, 29, 30, 31, 32, 33, 34, 35, 36, 37, 38, 39, 40, 41, 42, 43, 44, 45, 46, 47, 48, 49, 50, 51, 52, 53, 54, 55, 56, 57, 58, 59, 60, 61, 62, 63, 64, 65, 66, 67, 68, 69, 70, 71, 72, 73, 74, 75, 76, 77, 78, 79, 80, 81, 82, 83, 84, 85, 86, 87, 88, 89, 90, 91, 92, 93, 94, 95, 96, 97, 98, 99, 100, 101, 102, 103, 104, 105, 106, 107, 108, 109, 110, 111, 112, 113, 114, 115, 116, 117, 118, 119, 120, 121, 122, 123, 124, 125, 126, 127, 128, 129, 130, 131, 132, 133, 134, 135, 136, 137, 138, 139, 140, 141, 142, 143, 164, 165, 166, 167, 168, 169, 170, 171, 172, 173, 174, 175, 176, 177, 178, 179, 180, 181, 182, 183, 184, 185, 186, 187, 188, 189, 190, 191, 192, 193, 194, 195, 196, 197, 198, 199, 200, 201, 202, 203, 204, 205, 206, 207, 208, 209, 210, 211, 212, 213, 214, 215, 216, 217, 218, 219] rfl (by decide +kernel)
set_option maxRecDepth 20000 in
theorem gX10_cheapest_X10_laysPrices : GoodIn wsX10_cheapest (wsV RX10 414 RX10 yX10_laysPrices wsX10_laysPrices) := goodIn_app (goodIn_of _ (by decide +kernel)) ggX10_cheapest_X10_laysPrices
set_option maxRecDepth 20000 in
theorem ggX10_cheapest_X10_isThere : GoodIn wsX10_cheapest wsX10_isThere := goodIn_r _ [147, 17, 1, 164, 165, 166, 167, 168, 169, 170, 171, 172, 173, 174, 175, 176, 177, 178, 179, 180, 181, 182, 183, 184, 185, 186, 187, 188, 189, 190, 191, 192, 193, 194, 195, 196, 197, 198, 199, 200, 201, 202, 203, 204, 205, 206, 207, 208, 209, 210, 211, 212, 213, 214, 215, 216, 217, 218, 219] rfl (by decide +kernel)
set_option maxRecDepth 20000 in
theorem gX10_cheapest_X10_isThere : GoodIn wsX10_cheapest (wsV RX10 417 RX10 yX10_isThere wsX10_isThere) := goodIn_app (goodIn_of _ (by decide +kernel)) ggX10_cheapest_X10_isThere
set_option maxRecDepth 20000 in
theorem ggX10_cheapest_X10_isOrdered : GoodIn wsX10_cheapest wsX10_isOrdered := goodIn_r _ [151, 26, 164, 165, 166, 167, 168, 169, 170, 171, 172, 173, 174, 175, 176, 177, 178, 179, 180, 181, 182, 183, 184, 185, 186, 187, 188, 189, 190, 191, 192, 193, 194, 195, 196, 197, 198, 199, 200, 201, 202, 203, 204, 205, 206, 207, 208, 209, 210, 211, 212, 213, 214, 215, 216, 217, 218, 219] rfl (by decide +kernel)
set_option maxRecDepth 20000 in
theorem gX10_cheapest_X10_isOrdered : GoodIn wsX10_cheapest (wsV RX10 420 RX10 yX10_isOrdered wsX10_isOrdered) := goodIn_app (goodIn_of _ (by decide +kernel)) ggX10_cheapest_X10_isOrdered
set_option maxRecDepth 20000 in
theorem ggX10_cheapest_X10_size : GoodIn wsX10_cheapest wsX10_size := goodIn_r _ [25, 26, 164, 165, 166, 167, 168, 169, 170, 171, 172, 173, 174, 175, 176, 177, 178, 179, 180, 181, 182, 183, 184, 185, 186, 187, 188, 189, 190, 191, 192, 193, 194, 195, 196, 197, 198, 199, 200, 201, 202, 203, 204, 205, 206, 207, 208, 209, 210, 211, 212, 213, 214, 215, 216, 217, 218, 219] rfl (by decide +kernel)
set_option maxRecDepth 20000 in
theorem gX10_cheapest_X10_size : GoodIn wsX10_cheapest (wsV RX10 125 RX10 yX10_size wsX10_size) := goodIn_app (goodIn_of _ (by decide +kernel)) ggX10_cheapest_X10_size
set_option maxRecDepth 20000 in
theorem ggX10_cheapest_X10_behind : GoodIn wsX10_cheapest wsX10_behind := goodIn_r _ [155, 20, 21, 164, 165, 166, 167, 168, 169, 170, 171, 172, 173, 174, 175, 176, 177, 178, 179, 180, 181, 182, 183, 184, 185, 186, 187, 188, 189, 190, 191, 192, 193, 194, 195, 196, 197, 198, 199, 200, 201, 202, 203, 204, 205, 206, 207, 208, 209, 210, 211, 212, 213, 214, 215, 216, 217, 218, 219] rfl (by decide +kernel)
set_option maxRecDepth 20000 in
theorem gX10_cheapest_X10_behind : GoodIn wsX10_cheapest (wsV RX10 423 RX10 yX10_behind wsX10_behind) := goodIn_app (goodIn_of _ (by decide +kernel)) ggX10_cheapest_X10_behind
set_option maxRecDepth 20000 in
theorem ggX10_cheapest_X10_priceOf : GoodIn wsX10_cheapest wsX10_priceOf := goodIn_r _ [159, 12, 19, 22, 23, 24, 10, 25, 26, 62, 63, 64, 164, 165, 166, 167, 168, 169, 170, 171, 172, 173, 174, 175, 176, 177, 178, 179, 180, 181, 182, 183, 184, 185, 186, 187, 188, 189, 190, 191, 192, 193, 194, 195, 196, 197, 198, 199, 200, 201, 202, 203, 204, 205, 206, 207, 208, 209, 210, 211, 212, 213, 214, 215, 216, 217, 218, 219] rfl (by decide +kernel)
set_option maxRecDepth 20000 in
theorem gX10_cheapest_X10_priceOf : GoodIn wsX10_cheapest (wsV RX10 426 RX10 yX10_priceOf wsX10_priceOf) := goodIn_app (goodIn_of _ (by decide +kernel)) ggX10_cheapest_X10_priceOf
set_option maxRecDepth 20000 in
theorem ggX10_cheapest_X10_towerNow : GoodIn wsX10_cheapest wsX10_towerNow := goodIn_r _ [163, 18, 26, 22, 23, 24, 10, 25, 49, 50, 51, 52, 37, 38, 39, 40, 164, 165, 166, 167, 168, 169, 170, 171, 172, 173, 174, 175, 176, 177, 178, 179, 180, 181, 182, 183, 184, 185, 186, 187, 188, 189, 190, 191, 192, 193, 194, 195, 196, 197, 198, 199, 200, 201, 202, 203, 204, 205, 206, 207, 208, 209, 210, 211, 212, 213, 214, 215, 216, 217, 218, 219] rfl (by decide +kernel)
set_option maxRecDepth 20000 in
theorem gX10_cheapest_X10_towerNow : GoodIn wsX10_cheapest (wsV RX10 433 RX10 yX10_towerNow wsX10_towerNow) := goodIn_app (goodIn_of _ (by decide +kernel)) ggX10_cheapest_X10_towerNow
theorem da9_dX10_cheapest_0 : (decode cX10_cheapest 0 = .ok (.aload_n 0, 1)) ∧ (decode cX10_cheapest 1 = .ok (.invokevirtual 414, 3)) ∧ (decode cX10_cheapest 4 = .ok (.iconst 0, 1)) ∧ (decode cX10_cheapest 5 = .ok (.istore_n 1, 1)) ∧ (decode cX10_cheapest 6 = .ok (.iconst 0, 1)) ∧ (decode cX10_cheapest 7 = .ok (.istore_n 2, 1)) ∧ (decode cX10_cheapest 8 = .ok (.iload_n 2, 1)) ∧ (decode cX10_cheapest 9 = .ok (.bipush 64, 2)) ∧ (decode cX10_cheapest 11 = .ok (.aload_n 0, 1)) ∧ (decode cX10_cheapest 12 = .ok (.getfield 386, 3)) ∧ (decode cX10_cheapest 15 = .ok (.imul, 1)) ∧ (decode cX10_cheapest 16 = .ok (.if_icmp .ge 71, 3)) ∧ (decode cX10_cheapest 19 = .ok (.aload_n 0, 1)) ∧ (decode cX10_cheapest 20 = .ok (.iload_n 2, 1)) ∧ (decode cX10_cheapest 21 = .ok (.invokevirtual 417, 3)) ∧ (decode cX10_cheapest 24 = .ok (.ifCond .eq 15, 3)) := by decide +kernel
theorem dX10_cheapest_0 : decode cX10_cheapest 0 = .ok (.aload_n 0, 1) := da9_dX10_cheapest_0.1
theorem dX10_cheapest_1 : decode cX10_cheapest 1 = .ok (.invokevirtual 414, 3) := da9_dX10_cheapest_0.2.1
theorem dX10_cheapest_4 : decode cX10_cheapest 4 = .ok (.iconst 0, 1) := da9_dX10_cheapest_0.2.2.1
theorem dX10_cheapest_5 : decode cX10_cheapest 5 = .ok (.istore_n 1, 1) := da9_dX10_cheapest_0.2.2.2.1
theorem dX10_cheapest_6 : decode cX10_cheapest 6 = .ok (.iconst 0, 1) := da9_dX10_cheapest_0.2.2.2.2.1
theorem dX10_cheapest_7 : decode cX10_cheapest 7 = .ok (.istore_n 2, 1) := da9_dX10_cheapest_0.2.2.2.2.2.1
theorem dX10_cheapest_8 : decode cX10_cheapest 8 = .ok (.iload_n 2, 1) := da9_dX10_cheapest_0.2.2.2.2.2.2.1
theorem dX10_cheapest_9 : decode cX10_cheapest 9 = .ok (.bipush 64, 2) := da9_dX10_cheapest_0.2.2.2.2.2.2.2.1
theorem dX10_cheapest_11 : decode cX10_cheapest 11 = .ok (.aload_n 0, 1) := da9_dX10_cheapest_0.2.2.2.2.2.2.2.2.1
theorem dX10_cheapest_12 : decode cX10_cheapest 12 = .ok (.getfield 386, 3) := da9_dX10_cheapest_0.2.2.2.2.2.2.2.2.2.1
theorem dX10_cheapest_15 : decode cX10_cheapest 15 = .ok (.imul, 1) := da9_dX10_cheapest_0.2.2.2.2.2.2.2.2.2.2.1
theorem dX10_cheapest_16 : decode cX10_cheapest 16 = .ok (.if_icmp .ge 71, 3) := da9_dX10_cheapest_0.2.2.2.2.2.2.2.2.2.2.2.1
theorem dX10_cheapest_19 : decode cX10_cheapest 19 = .ok (.aload_n 0, 1) := da9_dX10_cheapest_0.2.2.2.2.2.2.2.2.2.2.2.2.1
theorem dX10_cheapest_20 : decode cX10_cheapest 20 = .ok (.iload_n 2, 1) := da9_dX10_cheapest_0.2.2.2.2.2.2.2.2.2.2.2.2.2.1
theorem dX10_cheapest_21 : decode cX10_cheapest 21 = .ok (.invokevirtual 417, 3) := da9_dX10_cheapest_0.2.2.2.2.2.2.2.2.2.2.2.2.2.2.1
theorem dX10_cheapest_24 : decode cX10_cheapest 24 = .ok (.ifCond .eq 15, 3) := da9_dX10_cheapest_0.2.2.2.2.2.2.2.2.2.2.2.2.2.2.2
theorem da9_dX10_cheapest_27 : (decode cX10_cheapest 27 = .ok (.aload_n 0, 1)) ∧ (decode cX10_cheapest 28 = .ok (.iload_n 2, 1)) ∧ (decode cX10_cheapest 29 = .ok (.invokevirtual 420, 3)) ∧ (decode cX10_cheapest 32 = .ok (.ifCond .eq 7, 3)) ∧ (decode cX10_cheapest 35 = .ok (.iconst 1, 1)) ∧ (decode cX10_cheapest 36 = .ok (.goto 4, 3)) ∧ (decode cX10_cheapest 39 = .ok (.iconst 0, 1)) ∧ (decode cX10_cheapest 40 = .ok (.istore_n 3, 1)) ∧ (decode cX10_cheapest 41 = .ok (.aload_n 0, 1)) ∧ (decode cX10_cheapest 42 = .ok (.getfield 91, 3)) ∧ (decode cX10_cheapest 45 = .ok (.iload_n 2, 1)) ∧ (decode cX10_cheapest 46 = .ok (.iload_n 3, 1)) ∧ (decode cX10_cheapest 47 = .ok (.ifCond .eq 7, 3)) ∧ (decode cX10_cheapest 50 = .ok (.iconst 0, 1)) ∧ (decode cX10_cheapest 51 = .ok (.goto 5, 3)) ∧ (decode cX10_cheapest 54 = .ok (.ldc 188, 2)) := by decide +kernel
theorem dX10_cheapest_27 : decode cX10_cheapest 27 = .ok (.aload_n 0, 1) := da9_dX10_cheapest_27.1
theorem dX10_cheapest_28 : decode cX10_cheapest 28 = .ok (.iload_n 2, 1) := da9_dX10_cheapest_27.2.1
theorem dX10_cheapest_29 : decode cX10_cheapest 29 = .ok (.invokevirtual 420, 3) := da9_dX10_cheapest_27.2.2.1
theorem dX10_cheapest_32 : decode cX10_cheapest 32 = .ok (.ifCond .eq 7, 3) := da9_dX10_cheapest_27.2.2.2.1
theorem dX10_cheapest_35 : decode cX10_cheapest 35 = .ok (.iconst 1, 1) := da9_dX10_cheapest_27.2.2.2.2.1
theorem dX10_cheapest_36 : decode cX10_cheapest 36 = .ok (.goto 4, 3) := da9_dX10_cheapest_27.2.2.2.2.2.1
theorem dX10_cheapest_39 : decode cX10_cheapest 39 = .ok (.iconst 0, 1) := da9_dX10_cheapest_27.2.2.2.2.2.2.1
theorem dX10_cheapest_40 : decode cX10_cheapest 40 = .ok (.istore_n 3, 1) := da9_dX10_cheapest_27.2.2.2.2.2.2.2.1
theorem dX10_cheapest_41 : decode cX10_cheapest 41 = .ok (.aload_n 0, 1) := da9_dX10_cheapest_27.2.2.2.2.2.2.2.2.1
theorem dX10_cheapest_42 : decode cX10_cheapest 42 = .ok (.getfield 91, 3) := da9_dX10_cheapest_27.2.2.2.2.2.2.2.2.2.1
theorem dX10_cheapest_45 : decode cX10_cheapest 45 = .ok (.iload_n 2, 1) := da9_dX10_cheapest_27.2.2.2.2.2.2.2.2.2.2.1
theorem dX10_cheapest_46 : decode cX10_cheapest 46 = .ok (.iload_n 3, 1) := da9_dX10_cheapest_27.2.2.2.2.2.2.2.2.2.2.2.1
theorem dX10_cheapest_47 : decode cX10_cheapest 47 = .ok (.ifCond .eq 7, 3) := da9_dX10_cheapest_27.2.2.2.2.2.2.2.2.2.2.2.2.1
theorem dX10_cheapest_50 : decode cX10_cheapest 50 = .ok (.iconst 0, 1) := da9_dX10_cheapest_27.2.2.2.2.2.2.2.2.2.2.2.2.2.1
theorem dX10_cheapest_51 : decode cX10_cheapest 51 = .ok (.goto 5, 3) := da9_dX10_cheapest_27.2.2.2.2.2.2.2.2.2.2.2.2.2.2.1
theorem dX10_cheapest_54 : decode cX10_cheapest 54 = .ok (.ldc 188, 2) := da9_dX10_cheapest_27.2.2.2.2.2.2.2.2.2.2.2.2.2.2.2
theorem da9_dX10_cheapest_56 : (decode cX10_cheapest 56 = .ok (.iastore, 1)) ∧ (decode cX10_cheapest 57 = .ok (.aload_n 0, 1)) ∧ (decode cX10_cheapest 58 = .ok (.getfield 100, 3)) ∧ (decode cX10_cheapest 61 = .ok (.iload_n 2, 1)) ∧ (decode cX10_cheapest 62 = .ok (.iload_n 3, 1)) ∧ (decode cX10_cheapest 63 = .ok (.bastore, 1)) ∧ (decode cX10_cheapest 64 = .ok (.iload_n 3, 1)) ∧ (decode cX10_cheapest 65 = .ok (.ifCond .ne 6, 3)) ∧ (decode cX10_cheapest 68 = .ok (.goto 13, 3)) ∧ (decode cX10_cheapest 71 = .ok (.aload_n 0, 1)) ∧ (decode cX10_cheapest 72 = .ok (.getfield 97, 3)) ∧ (decode cX10_cheapest 75 = .ok (.iload_n 1, 1)) ∧ (decode cX10_cheapest 76 = .ok (.iload_n 2, 1)) ∧ (decode cX10_cheapest 77 = .ok (.iastore, 1)) ∧ (decode cX10_cheapest 78 = .ok (.iinc 1 1, 3)) ∧ (decode cX10_cheapest 81 = .ok (.iinc 2 1, 3)) := by decide +kernel
theorem dX10_cheapest_56 : decode cX10_cheapest 56 = .ok (.iastore, 1) := da9_dX10_cheapest_56.1
theorem dX10_cheapest_57 : decode cX10_cheapest 57 = .ok (.aload_n 0, 1) := da9_dX10_cheapest_56.2.1
theorem dX10_cheapest_58 : decode cX10_cheapest 58 = .ok (.getfield 100, 3) := da9_dX10_cheapest_56.2.2.1
theorem dX10_cheapest_61 : decode cX10_cheapest 61 = .ok (.iload_n 2, 1) := da9_dX10_cheapest_56.2.2.2.1
theorem dX10_cheapest_62 : decode cX10_cheapest 62 = .ok (.iload_n 3, 1) := da9_dX10_cheapest_56.2.2.2.2.1
theorem dX10_cheapest_63 : decode cX10_cheapest 63 = .ok (.bastore, 1) := da9_dX10_cheapest_56.2.2.2.2.2.1
theorem dX10_cheapest_64 : decode cX10_cheapest 64 = .ok (.iload_n 3, 1) := da9_dX10_cheapest_56.2.2.2.2.2.2.1
theorem dX10_cheapest_65 : decode cX10_cheapest 65 = .ok (.ifCond .ne 6, 3) := da9_dX10_cheapest_56.2.2.2.2.2.2.2.1
theorem dX10_cheapest_68 : decode cX10_cheapest 68 = .ok (.goto 13, 3) := da9_dX10_cheapest_56.2.2.2.2.2.2.2.2.1
theorem dX10_cheapest_71 : decode cX10_cheapest 71 = .ok (.aload_n 0, 1) := da9_dX10_cheapest_56.2.2.2.2.2.2.2.2.2.1
theorem dX10_cheapest_72 : decode cX10_cheapest 72 = .ok (.getfield 97, 3) := da9_dX10_cheapest_56.2.2.2.2.2.2.2.2.2.2.1
theorem dX10_cheapest_75 : decode cX10_cheapest 75 = .ok (.iload_n 1, 1) := da9_dX10_cheapest_56.2.2.2.2.2.2.2.2.2.2.2.1
theorem dX10_cheapest_76 : decode cX10_cheapest 76 = .ok (.iload_n 2, 1) := da9_dX10_cheapest_56.2.2.2.2.2.2.2.2.2.2.2.2.1
theorem dX10_cheapest_77 : decode cX10_cheapest 77 = .ok (.iastore, 1) := da9_dX10_cheapest_56.2.2.2.2.2.2.2.2.2.2.2.2.2.1
theorem dX10_cheapest_78 : decode cX10_cheapest 78 = .ok (.iinc 1 1, 3) := da9_dX10_cheapest_56.2.2.2.2.2.2.2.2.2.2.2.2.2.2.1
theorem dX10_cheapest_81 : decode cX10_cheapest 81 = .ok (.iinc 2 1, 3) := da9_dX10_cheapest_56.2.2.2.2.2.2.2.2.2.2.2.2.2.2.2
theorem da9_dX10_cheapest_84 : (decode cX10_cheapest 84 = .ok (.goto (-76), 3)) ∧ (decode cX10_cheapest 87 = .ok (.iconst 0, 1)) ∧ (decode cX10_cheapest 88 = .ok (.istore_n 2, 1)) ∧ (decode cX10_cheapest 89 = .ok (.iload_n 1, 1)) ∧ (decode cX10_cheapest 90 = .ok (.ifCond .le 148, 3)) ∧ (decode cX10_cheapest 93 = .ok (.aload_n 0, 1)) ∧ (decode cX10_cheapest 94 = .ok (.getfield 97, 3)) ∧ (decode cX10_cheapest 97 = .ok (.iload_n 2, 1)) ∧ (decode cX10_cheapest 98 = .ok (.iaload, 1)) ∧ (decode cX10_cheapest 99 = .ok (.istore_n 3, 1)) ∧ (decode cX10_cheapest 100 = .ok (.iload_n 2, 1)) ∧ (decode cX10_cheapest 101 = .ok (.iconst 1, 1)) ∧ (decode cX10_cheapest 102 = .ok (.iadd, 1)) ∧ (decode cX10_cheapest 103 = .ok (.ldc 90, 2)) ∧ (decode cX10_cheapest 105 = .ok (.irem, 1)) ∧ (decode cX10_cheapest 106 = .ok (.istore_n 2, 1)) := by decide +kernel
theorem dX10_cheapest_84 : decode cX10_cheapest 84 = .ok (.goto (-76), 3) := da9_dX10_cheapest_84.1
theorem dX10_cheapest_87 : decode cX10_cheapest 87 = .ok (.iconst 0, 1) := da9_dX10_cheapest_84.2.1
theorem dX10_cheapest_88 : decode cX10_cheapest 88 = .ok (.istore_n 2, 1) := da9_dX10_cheapest_84.2.2.1
theorem dX10_cheapest_89 : decode cX10_cheapest 89 = .ok (.iload_n 1, 1) := da9_dX10_cheapest_84.2.2.2.1
theorem dX10_cheapest_90 : decode cX10_cheapest 90 = .ok (.ifCond .le 148, 3) := da9_dX10_cheapest_84.2.2.2.2.1
theorem dX10_cheapest_93 : decode cX10_cheapest 93 = .ok (.aload_n 0, 1) := da9_dX10_cheapest_84.2.2.2.2.2.1
theorem dX10_cheapest_94 : decode cX10_cheapest 94 = .ok (.getfield 97, 3) := da9_dX10_cheapest_84.2.2.2.2.2.2.1
theorem dX10_cheapest_97 : decode cX10_cheapest 97 = .ok (.iload_n 2, 1) := da9_dX10_cheapest_84.2.2.2.2.2.2.2.1
theorem dX10_cheapest_98 : decode cX10_cheapest 98 = .ok (.iaload, 1) := da9_dX10_cheapest_84.2.2.2.2.2.2.2.2.1
theorem dX10_cheapest_99 : decode cX10_cheapest 99 = .ok (.istore_n 3, 1) := da9_dX10_cheapest_84.2.2.2.2.2.2.2.2.2.1
theorem dX10_cheapest_100 : decode cX10_cheapest 100 = .ok (.iload_n 2, 1) := da9_dX10_cheapest_84.2.2.2.2.2.2.2.2.2.2.1
theorem dX10_cheapest_101 : decode cX10_cheapest 101 = .ok (.iconst 1, 1) := da9_dX10_cheapest_84.2.2.2.2.2.2.2.2.2.2.2.1
theorem dX10_cheapest_102 : decode cX10_cheapest 102 = .ok (.iadd, 1) := da9_dX10_cheapest_84.2.2.2.2.2.2.2.2.2.2.2.2.1
theorem dX10_cheapest_103 : decode cX10_cheapest 103 = .ok (.ldc 90, 2) := da9_dX10_cheapest_84.2.2.2.2.2.2.2.2.2.2.2.2.2.1
theorem dX10_cheapest_105 : decode cX10_cheapest 105 = .ok (.irem, 1) := da9_dX10_cheapest_84.2.2.2.2.2.2.2.2.2.2.2.2.2.2.1
theorem dX10_cheapest_106 : decode cX10_cheapest 106 = .ok (.istore_n 2, 1) := da9_dX10_cheapest_84.2.2.2.2.2.2.2.2.2.2.2.2.2.2.2
theorem da9_dX10_cheapest_107 : (decode cX10_cheapest 107 = .ok (.iinc 1 (-1), 3)) ∧ (decode cX10_cheapest 110 = .ok (.aload_n 0, 1)) ∧ (decode cX10_cheapest 111 = .ok (.getfield 100, 3)) ∧ (decode cX10_cheapest 114 = .ok (.iload_n 3, 1)) ∧ (decode cX10_cheapest 115 = .ok (.iconst 0, 1)) ∧ (decode cX10_cheapest 116 = .ok (.bastore, 1)) ∧ (decode cX10_cheapest 117 = .ok (.iconst 1, 1)) ∧ (decode cX10_cheapest 118 = .ok (.istore 4, 2)) ∧ (decode cX10_cheapest 120 = .ok (.iload 4, 2)) ∧ (decode cX10_cheapest 122 = .ok (.aload_n 0, 1)) ∧ (decode cX10_cheapest 123 = .ok (.invokevirtual 125, 3)) ∧ (decode cX10_cheapest 126 = .ok (.if_icmp .gt 109, 3)) ∧ (decode cX10_cheapest 129 = .ok (.aload_n 0, 1)) ∧ (decode cX10_cheapest 130 = .ok (.iload_n 3, 1)) ∧ (decode cX10_cheapest 131 = .ok (.iload 4, 2)) ∧ (decode cX10_cheapest 133 = .ok (.invokevirtual 423, 3)) := by decide +kernel
theorem dX10_cheapest_107 : decode cX10_cheapest 107 = .ok (.iinc 1 (-1), 3) := da9_dX10_cheapest_107.1
theorem dX10_cheapest_110 : decode cX10_cheapest 110 = .ok (.aload_n 0, 1) := da9_dX10_cheapest_107.2.1
theorem dX10_cheapest_111 : decode cX10_cheapest 111 = .ok (.getfield 100, 3) := da9_dX10_cheapest_107.2.2.1
theorem dX10_cheapest_114 : decode cX10_cheapest 114 = .ok (.iload_n 3, 1) := da9_dX10_cheapest_107.2.2.2.1
theorem dX10_cheapest_115 : decode cX10_cheapest 115 = .ok (.iconst 0, 1) := da9_dX10_cheapest_107.2.2.2.2.1
theorem dX10_cheapest_116 : decode cX10_cheapest 116 = .ok (.bastore, 1) := da9_dX10_cheapest_107.2.2.2.2.2.1
theorem dX10_cheapest_117 : decode cX10_cheapest 117 = .ok (.iconst 1, 1) := da9_dX10_cheapest_107.2.2.2.2.2.2.1
theorem dX10_cheapest_118 : decode cX10_cheapest 118 = .ok (.istore 4, 2) := da9_dX10_cheapest_107.2.2.2.2.2.2.2.1
theorem dX10_cheapest_120 : decode cX10_cheapest 120 = .ok (.iload 4, 2) := da9_dX10_cheapest_107.2.2.2.2.2.2.2.2.1
theorem dX10_cheapest_122 : decode cX10_cheapest 122 = .ok (.aload_n 0, 1) := da9_dX10_cheapest_107.2.2.2.2.2.2.2.2.2.1
theorem dX10_cheapest_123 : decode cX10_cheapest 123 = .ok (.invokevirtual 125, 3) := da9_dX10_cheapest_107.2.2.2.2.2.2.2.2.2.2.1
theorem dX10_cheapest_126 : decode cX10_cheapest 126 = .ok (.if_icmp .gt 109, 3) := da9_dX10_cheapest_107.2.2.2.2.2.2.2.2.2.2.2.1
theorem dX10_cheapest_129 : decode cX10_cheapest 129 = .ok (.aload_n 0, 1) := da9_dX10_cheapest_107.2.2.2.2.2.2.2.2.2.2.2.2.1
theorem dX10_cheapest_130 : decode cX10_cheapest 130 = .ok (.iload_n 3, 1) := da9_dX10_cheapest_107.2.2.2.2.2.2.2.2.2.2.2.2.2.1
theorem dX10_cheapest_131 : decode cX10_cheapest 131 = .ok (.iload 4, 2) := da9_dX10_cheapest_107.2.2.2.2.2.2.2.2.2.2.2.2.2.2.1
theorem dX10_cheapest_133 : decode cX10_cheapest 133 = .ok (.invokevirtual 423, 3) := da9_dX10_cheapest_107.2.2.2.2.2.2.2.2.2.2.2.2.2.2.2
theorem da9_dX10_cheapest_136 : (decode cX10_cheapest 136 = .ok (.istore 5, 2)) ∧ (decode cX10_cheapest 138 = .ok (.aload_n 0, 1)) ∧ (decode cX10_cheapest 139 = .ok (.iload 5, 2)) ∧ (decode cX10_cheapest 141 = .ok (.iload 4, 2)) ∧ (decode cX10_cheapest 143 = .ok (.invokevirtual 426, 3)) ∧ (decode cX10_cheapest 146 = .ok (.istore 6, 2)) ∧ (decode cX10_cheapest 148 = .ok (.iload 6, 2)) ∧ (decode cX10_cheapest 150 = .ok (.iconst (-1), 1)) ∧ (decode cX10_cheapest 151 = .ok (.if_icmp .eq 78, 3)) ∧ (decode cX10_cheapest 154 = .ok (.aload_n 0, 1)) ∧ (decode cX10_cheapest 155 = .ok (.getfield 91, 3)) ∧ (decode cX10_cheapest 158 = .ok (.iload_n 3, 1)) ∧ (decode cX10_cheapest 159 = .ok (.iaload, 1)) ∧ (decode cX10_cheapest 160 = .ok (.iload 6, 2)) ∧ (decode cX10_cheapest 162 = .ok (.iadd, 1)) ∧ (decode cX10_cheapest 163 = .ok (.aload_n 0, 1)) := by decide +kernel
theorem dX10_cheapest_136 : decode cX10_cheapest 136 = .ok (.istore 5, 2) := da9_dX10_cheapest_136.1
theorem dX10_cheapest_138 : decode cX10_cheapest 138 = .ok (.aload_n 0, 1) := da9_dX10_cheapest_136.2.1
theorem dX10_cheapest_139 : decode cX10_cheapest 139 = .ok (.iload 5, 2) := da9_dX10_cheapest_136.2.2.1
theorem dX10_cheapest_141 : decode cX10_cheapest 141 = .ok (.iload 4, 2) := da9_dX10_cheapest_136.2.2.2.1
theorem dX10_cheapest_143 : decode cX10_cheapest 143 = .ok (.invokevirtual 426, 3) := da9_dX10_cheapest_136.2.2.2.2.1
theorem dX10_cheapest_146 : decode cX10_cheapest 146 = .ok (.istore 6, 2) := da9_dX10_cheapest_136.2.2.2.2.2.1
theorem dX10_cheapest_148 : decode cX10_cheapest 148 = .ok (.iload 6, 2) := da9_dX10_cheapest_136.2.2.2.2.2.2.1
theorem dX10_cheapest_150 : decode cX10_cheapest 150 = .ok (.iconst (-1), 1) := da9_dX10_cheapest_136.2.2.2.2.2.2.2.1
theorem dX10_cheapest_151 : decode cX10_cheapest 151 = .ok (.if_icmp .eq 78, 3) := da9_dX10_cheapest_136.2.2.2.2.2.2.2.2.1
theorem dX10_cheapest_154 : decode cX10_cheapest 154 = .ok (.aload_n 0, 1) := da9_dX10_cheapest_136.2.2.2.2.2.2.2.2.2.1
theorem dX10_cheapest_155 : decode cX10_cheapest 155 = .ok (.getfield 91, 3) := da9_dX10_cheapest_136.2.2.2.2.2.2.2.2.2.2.1
theorem dX10_cheapest_158 : decode cX10_cheapest 158 = .ok (.iload_n 3, 1) := da9_dX10_cheapest_136.2.2.2.2.2.2.2.2.2.2.2.1
theorem dX10_cheapest_159 : decode cX10_cheapest 159 = .ok (.iaload, 1) := da9_dX10_cheapest_136.2.2.2.2.2.2.2.2.2.2.2.2.1
theorem dX10_cheapest_160 : decode cX10_cheapest 160 = .ok (.iload 6, 2) := da9_dX10_cheapest_136.2.2.2.2.2.2.2.2.2.2.2.2.2.1
theorem dX10_cheapest_162 : decode cX10_cheapest 162 = .ok (.iadd, 1) := da9_dX10_cheapest_136.2.2.2.2.2.2.2.2.2.2.2.2.2.2.1
theorem dX10_cheapest_163 : decode cX10_cheapest 163 = .ok (.aload_n 0, 1) := da9_dX10_cheapest_136.2.2.2.2.2.2.2.2.2.2.2.2.2.2.2
theorem da9_dX10_cheapest_164 : (decode cX10_cheapest 164 = .ok (.getfield 91, 3)) ∧ (decode cX10_cheapest 167 = .ok (.iload 5, 2)) ∧ (decode cX10_cheapest 169 = .ok (.iaload, 1)) ∧ (decode cX10_cheapest 170 = .ok (.if_icmp .lt 6, 3)) ∧ (decode cX10_cheapest 173 = .ok (.goto 56, 3)) ∧ (decode cX10_cheapest 176 = .ok (.aload_n 0, 1)) ∧ (decode cX10_cheapest 177 = .ok (.getfield 91, 3)) ∧ (decode cX10_cheapest 180 = .ok (.iload 5, 2)) ∧ (decode cX10_cheapest 182 = .ok (.aload_n 0, 1)) ∧ (decode cX10_cheapest 183 = .ok (.getfield 91, 3)) ∧ (decode cX10_cheapest 186 = .ok (.iload_n 3, 1)) ∧ (decode cX10_cheapest 187 = .ok (.iaload, 1)) ∧ (decode cX10_cheapest 188 = .ok (.iload 6, 2)) ∧ (decode cX10_cheapest 190 = .ok (.iadd, 1)) ∧ (decode cX10_cheapest 191 = .ok (.iastore, 1)) ∧ (decode cX10_cheapest 192 = .ok (.aload_n 0, 1)) := by decide +kernel
theorem dX10_cheapest_164 : decode cX10_cheapest 164 = .ok (.getfield 91, 3) := da9_dX10_cheapest_164.1
theorem dX10_cheapest_167 : decode cX10_cheapest 167 = .ok (.iload 5, 2) := da9_dX10_cheapest_164.2.1
theorem dX10_cheapest_169 : decode cX10_cheapest 169 = .ok (.iaload, 1) := da9_dX10_cheapest_164.2.2.1
theorem dX10_cheapest_170 : decode cX10_cheapest 170 = .ok (.if_icmp .lt 6, 3) := da9_dX10_cheapest_164.2.2.2.1
theorem dX10_cheapest_173 : decode cX10_cheapest 173 = .ok (.goto 56, 3) := da9_dX10_cheapest_164.2.2.2.2.1
theorem dX10_cheapest_176 : decode cX10_cheapest 176 = .ok (.aload_n 0, 1) := da9_dX10_cheapest_164.2.2.2.2.2.1
theorem dX10_cheapest_177 : decode cX10_cheapest 177 = .ok (.getfield 91, 3) := da9_dX10_cheapest_164.2.2.2.2.2.2.1
theorem dX10_cheapest_180 : decode cX10_cheapest 180 = .ok (.iload 5, 2) := da9_dX10_cheapest_164.2.2.2.2.2.2.2.1
theorem dX10_cheapest_182 : decode cX10_cheapest 182 = .ok (.aload_n 0, 1) := da9_dX10_cheapest_164.2.2.2.2.2.2.2.2.1
theorem dX10_cheapest_183 : decode cX10_cheapest 183 = .ok (.getfield 91, 3) := da9_dX10_cheapest_164.2.2.2.2.2.2.2.2.2.1
theorem dX10_cheapest_186 : decode cX10_cheapest 186 = .ok (.iload_n 3, 1) := da9_dX10_cheapest_164.2.2.2.2.2.2.2.2.2.2.1
theorem dX10_cheapest_187 : decode cX10_cheapest 187 = .ok (.iaload, 1) := da9_dX10_cheapest_164.2.2.2.2.2.2.2.2.2.2.2.1
theorem dX10_cheapest_188 : decode cX10_cheapest 188 = .ok (.iload 6, 2) := da9_dX10_cheapest_164.2.2.2.2.2.2.2.2.2.2.2.2.1
theorem dX10_cheapest_190 : decode cX10_cheapest 190 = .ok (.iadd, 1) := da9_dX10_cheapest_164.2.2.2.2.2.2.2.2.2.2.2.2.2.1
theorem dX10_cheapest_191 : decode cX10_cheapest 191 = .ok (.iastore, 1) := da9_dX10_cheapest_164.2.2.2.2.2.2.2.2.2.2.2.2.2.2.1
theorem dX10_cheapest_192 : decode cX10_cheapest 192 = .ok (.aload_n 0, 1) := da9_dX10_cheapest_164.2.2.2.2.2.2.2.2.2.2.2.2.2.2.2
theorem da9_dX10_cheapest_193 : (decode cX10_cheapest 193 = .ok (.getfield 100, 3)) ∧ (decode cX10_cheapest 196 = .ok (.iload 5, 2)) ∧ (decode cX10_cheapest 198 = .ok (.baload, 1)) ∧ (decode cX10_cheapest 199 = .ok (.ifCond .eq 6, 3)) ∧ (decode cX10_cheapest 202 = .ok (.goto 27, 3)) ∧ (decode cX10_cheapest 205 = .ok (.aload_n 0, 1)) ∧ (decode cX10_cheapest 206 = .ok (.getfield 100, 3)) ∧ (decode cX10_cheapest 209 = .ok (.iload 5, 2)) ∧ (decode cX10_cheapest 211 = .ok (.iconst 1, 1)) ∧ (decode cX10_cheapest 212 = .ok (.bastore, 1)) ∧ (decode cX10_cheapest 213 = .ok (.aload_n 0, 1)) ∧ (decode cX10_cheapest 214 = .ok (.getfield 97, 3)) ∧ (decode cX10_cheapest 217 = .ok (.iload_n 2, 1)) ∧ (decode cX10_cheapest 218 = .ok (.iload_n 1, 1)) ∧ (decode cX10_cheapest 219 = .ok (.iadd, 1)) ∧ (decode cX10_cheapest 220 = .ok (.ldc 90, 2)) := by decide +kernel
theorem dX10_cheapest_193 : decode cX10_cheapest 193 = .ok (.getfield 100, 3) := da9_dX10_cheapest_193.1
theorem dX10_cheapest_196 : decode cX10_cheapest 196 = .ok (.iload 5, 2) := da9_dX10_cheapest_193.2.1
theorem dX10_cheapest_198 : decode cX10_cheapest 198 = .ok (.baload, 1) := da9_dX10_cheapest_193.2.2.1
theorem dX10_cheapest_199 : decode cX10_cheapest 199 = .ok (.ifCond .eq 6, 3) := da9_dX10_cheapest_193.2.2.2.1
theorem dX10_cheapest_202 : decode cX10_cheapest 202 = .ok (.goto 27, 3) := da9_dX10_cheapest_193.2.2.2.2.1
theorem dX10_cheapest_205 : decode cX10_cheapest 205 = .ok (.aload_n 0, 1) := da9_dX10_cheapest_193.2.2.2.2.2.1
theorem dX10_cheapest_206 : decode cX10_cheapest 206 = .ok (.getfield 100, 3) := da9_dX10_cheapest_193.2.2.2.2.2.2.1
theorem dX10_cheapest_209 : decode cX10_cheapest 209 = .ok (.iload 5, 2) := da9_dX10_cheapest_193.2.2.2.2.2.2.2.1
theorem dX10_cheapest_211 : decode cX10_cheapest 211 = .ok (.iconst 1, 1) := da9_dX10_cheapest_193.2.2.2.2.2.2.2.2.1
theorem dX10_cheapest_212 : decode cX10_cheapest 212 = .ok (.bastore, 1) := da9_dX10_cheapest_193.2.2.2.2.2.2.2.2.2.1
theorem dX10_cheapest_213 : decode cX10_cheapest 213 = .ok (.aload_n 0, 1) := da9_dX10_cheapest_193.2.2.2.2.2.2.2.2.2.2.1
theorem dX10_cheapest_214 : decode cX10_cheapest 214 = .ok (.getfield 97, 3) := da9_dX10_cheapest_193.2.2.2.2.2.2.2.2.2.2.2.1
theorem dX10_cheapest_217 : decode cX10_cheapest 217 = .ok (.iload_n 2, 1) := da9_dX10_cheapest_193.2.2.2.2.2.2.2.2.2.2.2.2.1
theorem dX10_cheapest_218 : decode cX10_cheapest 218 = .ok (.iload_n 1, 1) := da9_dX10_cheapest_193.2.2.2.2.2.2.2.2.2.2.2.2.2.1
theorem dX10_cheapest_219 : decode cX10_cheapest 219 = .ok (.iadd, 1) := da9_dX10_cheapest_193.2.2.2.2.2.2.2.2.2.2.2.2.2.2.1
theorem dX10_cheapest_220 : decode cX10_cheapest 220 = .ok (.ldc 90, 2) := da9_dX10_cheapest_193.2.2.2.2.2.2.2.2.2.2.2.2.2.2.2
theorem da9_dX10_cheapest_222 : (decode cX10_cheapest 222 = .ok (.irem, 1)) ∧ (decode cX10_cheapest 223 = .ok (.iload 5, 2)) ∧ (decode cX10_cheapest 225 = .ok (.iastore, 1)) ∧ (decode cX10_cheapest 226 = .ok (.iinc 1 1, 3)) ∧ (decode cX10_cheapest 229 = .ok (.iinc 4 1, 3)) ∧ (decode cX10_cheapest 232 = .ok (.goto (-112), 3)) ∧ (decode cX10_cheapest 235 = .ok (.goto (-146), 3)) ∧ (decode cX10_cheapest 238 = .ok (.aload_n 0, 1)) ∧ (decode cX10_cheapest 239 = .ok (.getfield 91, 3)) ∧ (decode cX10_cheapest 242 = .ok (.aload_n 0, 1)) ∧ (decode cX10_cheapest 243 = .ok (.invokevirtual 433, 3)) ∧ (decode cX10_cheapest 246 = .ok (.iaload, 1)) ∧ (decode cX10_cheapest 247 = .ok (.istore_n 3, 1)) ∧ (decode cX10_cheapest 248 = .ok (.iload_n 3, 1)) ∧ (decode cX10_cheapest 249 = .ok (.ldc 188, 2)) ∧ (decode cX10_cheapest 251 = .ok (.if_icmp .ne 7, 3)) := by decide +kernel
theorem dX10_cheapest_222 : decode cX10_cheapest 222 = .ok (.irem, 1) := da9_dX10_cheapest_222.1
theorem dX10_cheapest_223 : decode cX10_cheapest 223 = .ok (.iload 5, 2) := da9_dX10_cheapest_222.2.1
theorem dX10_cheapest_225 : decode cX10_cheapest 225 = .ok (.iastore, 1) := da9_dX10_cheapest_222.2.2.1
theorem dX10_cheapest_226 : decode cX10_cheapest 226 = .ok (.iinc 1 1, 3) := da9_dX10_cheapest_222.2.2.2.1
theorem dX10_cheapest_229 : decode cX10_cheapest 229 = .ok (.iinc 4 1, 3) := da9_dX10_cheapest_222.2.2.2.2.1
theorem dX10_cheapest_232 : decode cX10_cheapest 232 = .ok (.goto (-112), 3) := da9_dX10_cheapest_222.2.2.2.2.2.1
theorem dX10_cheapest_235 : decode cX10_cheapest 235 = .ok (.goto (-146), 3) := da9_dX10_cheapest_222.2.2.2.2.2.2.1
theorem dX10_cheapest_238 : decode cX10_cheapest 238 = .ok (.aload_n 0, 1) := da9_dX10_cheapest_222.2.2.2.2.2.2.2.1
theorem dX10_cheapest_239 : decode cX10_cheapest 239 = .ok (.getfield 91, 3) := da9_dX10_cheapest_222.2.2.2.2.2.2.2.2.1
theorem dX10_cheapest_242 : decode cX10_cheapest 242 = .ok (.aload_n 0, 1) := da9_dX10_cheapest_222.2.2.2.2.2.2.2.2.2.1
theorem dX10_cheapest_243 : decode cX10_cheapest 243 = .ok (.invokevirtual 433, 3) := da9_dX10_cheapest_222.2.2.2.2.2.2.2.2.2.2.1
theorem dX10_cheapest_246 : decode cX10_cheapest 246 = .ok (.iaload, 1) := da9_dX10_cheapest_222.2.2.2.2.2.2.2.2.2.2.2.1
theorem dX10_cheapest_247 : decode cX10_cheapest 247 = .ok (.istore_n 3, 1) := da9_dX10_cheapest_222.2.2.2.2.2.2.2.2.2.2.2.2.1
theorem dX10_cheapest_248 : decode cX10_cheapest 248 = .ok (.iload_n 3, 1) := da9_dX10_cheapest_222.2.2.2.2.2.2.2.2.2.2.2.2.2.1
theorem dX10_cheapest_249 : decode cX10_cheapest 249 = .ok (.ldc 188, 2) := da9_dX10_cheapest_222.2.2.2.2.2.2.2.2.2.2.2.2.2.2.1
theorem dX10_cheapest_251 : decode cX10_cheapest 251 = .ok (.if_icmp .ne 7, 3) := da9_dX10_cheapest_222.2.2.2.2.2.2.2.2.2.2.2.2.2.2.2
theorem da9_dX10_cheapest_254 : (decode cX10_cheapest 254 = .ok (.iconst (-1), 1)) ∧ (decode cX10_cheapest 255 = .ok (.goto 4, 3)) ∧ (decode cX10_cheapest 258 = .ok (.iload_n 3, 1)) ∧ (decode cX10_cheapest 259 = .ok (.ireturn, 1)) := by decide +kernel
theorem dX10_cheapest_254 : decode cX10_cheapest 254 = .ok (.iconst (-1), 1) := da9_dX10_cheapest_254.1
theorem dX10_cheapest_255 : decode cX10_cheapest 255 = .ok (.goto 4, 3) := da9_dX10_cheapest_254.2.1
theorem dX10_cheapest_258 : decode cX10_cheapest 258 = .ok (.iload_n 3, 1) := da9_dX10_cheapest_254.2.2.1
theorem dX10_cheapest_259 : decode cX10_cheapest 259 = .ok (.ireturn, 1) := da9_dX10_cheapest_254.2.2.2
set_option maxRecDepth 20000 in
theorem ggX10_laysReach_X10_laysPrices : GoodIn wsX10_laysReach wsX10_laysPrices := goodIn_r _ [9, 10, 11, 12, 13, 8, 14, 1, 15, 16, 17, 18, 19, 20, 21, 22, 23, 24, 25, 26, 27, 28, 29, 30, 31, 32, 33, 34, 35, 36, 37, 38, 39, 40, 41, 42, 43, 44, 45, 46, 47, 48, 49, 50, 51, 52, 53, 54, 55, 56, 57, 58, 59, 60, 61, 62, 63, 64, 65, 66, 67, 68, 69, 70, 71, 72, 73, 74, 75, 76, 77, 78, 79, 80, 81, 82, 83, 84, 85, 86, 87, 88, 89, 90, 91, 92, 93, 94, 95, 96, 97, 98, 99, 100, 101, 102, 103, 104, 105, 106, 107, 108, 109, 110, 111, 112, 113, 114, 115, 116, 117, 118, 119, 120, 121, 122, 123, 124, 125, 126, 127, 128, 129, 130, 131, 132, 133, 134, 135, 136, 137, 138, 139, 140, 141, 154, 155, 156, 157, 158, 159, 160, 161, 162, 163, 164, 165, 166, 167, 168, 169, 170, 171, 172, 173, 174, 175, 176, 177, 178, 179, 180, 181, 182, 183, 184, 185, 186, 187, 188, 189, 190, 191, 192, 193, 194, 195, 196, 197, 198, 199, 200, 201, 202, 203, 204, 205, 206, 207, 208, 209] rfl (by decide +kernel)
set_option maxRecDepth 20000 in
theorem gX10_laysReach_X10_laysPrices : GoodIn wsX10_laysReach (wsV RX10 414 RX10 yX10_laysPrices wsX10_laysPrices) := goodIn_app (goodIn_of _ (by decide +kernel)) ggX10_laysReach_X10_laysPrices
set_option maxRecDepth 20000 in
theorem ggX10_laysReach_X10_towerNow : GoodIn wsX10_laysReach wsX10_towerNow := goodIn_r _ [145, 16, 24, 20, 21, 22, 8, 23, 47, 48, 49, 50, 35, 36, 37, 38, 154, 155, 156, 157, 158, 159, 160, 161, 162, 163, 164, 165, 166, 167, 168, 169, 170, 171, 172, 173, 174, 175, 176, 177, 178, 179, 180, 181, 182, 183, 184, 185, 186, 187, 188, 189, 190, 191, 192, 193, 194, 195, 196, 197, 198, 199, 200, 201, 202, 203, 204, 205, 206, 207, 208, 209] rfl (by decide +kernel)
set_option maxRecDepth 20000 in
theorem gX10_laysReach_X10_towerNow : GoodIn wsX10_laysReach (wsV RX10 433 RX10 yX10_towerNow wsX10_towerNow) := goodIn_app (goodIn_of _ (by decide +kernel)) ggX10_laysReach_X10_towerNow
set_option maxRecDepth 20000 in
theorem ggX10_laysReach_X10_size : GoodIn wsX10_laysReach wsX10_size := goodIn_r _ [23, 24, 154, 155, 156, 157, 158, 159, 160, 161, 162, 163, 164, 165, 166, 167, 168, 169, 170, 171, 172, 173, 174, 175, 176, 177, 178, 179, 180, 181, 182, 183, 184, 185, 186, 187, 188, 189, 190, 191, 192, 193, 194, 195, 196, 197, 198, 199, 200, 201, 202, 203, 204, 205, 206, 207, 208, 209] rfl (by decide +kernel)
set_option maxRecDepth 20000 in
theorem gX10_laysReach_X10_size : GoodIn wsX10_laysReach (wsV RX10 125 RX10 yX10_size wsX10_size) := goodIn_app (goodIn_of _ (by decide +kernel)) ggX10_laysReach_X10_size
set_option maxRecDepth 20000 in
theorem ggX10_laysReach_X10_behind : GoodIn wsX10_laysReach wsX10_behind := goodIn_r _ [149, 18, 19, 154, 155, 156, 157, 158, 159, 160, 161, 162, 163, 164, 165, 166, 167, 168, 169, 170, 171, 172, 173, 174, 175, 176, 177, 178, 179, 180, 181, 182, 183, 184, 185, 186, 187, 188, 189, 190, 191, 192, 193, 194, 195, 196, 197, 198, 199, 200, 201, 202, 203, 204, 205, 206, 207, 208, 209] rfl (by decide +kernel)
set_option maxRecDepth 20000 in
theorem gX10_laysReach_X10_behind : GoodIn wsX10_laysReach (wsV RX10 423 RX10 yX10_behind wsX10_behind) := goodIn_app (goodIn_of _ (by decide +kernel)) ggX10_laysReach_X10_behind
set_option maxRecDepth 20000 in
theorem ggX10_laysReach_X10_priceOf : GoodIn wsX10_laysReach wsX10_priceOf := goodIn_r _ [153, 10, 17, 20, 21, 22, 8, 23, 24, 60, 61, 62, 154, 155, 156, 157, 158, 159, 160, 161, 162, 163, 164, 165, 166, 167, 168, 169, 170, 171, 172, 173, 174, 175, 176, 177, 178, 179, 180, 181, 182, 183, 184, 185, 186, 187, 188, 189, 190, 191, 192, 193, 194, 195, 196, 197, 198, 199, 200, 201, 202, 203, 204, 205, 206, 207, 208, 209] rfl (by decide +kernel)
set_option maxRecDepth 20000 in
theorem gX10_laysReach_X10_priceOf : GoodIn wsX10_laysReach (wsV RX10 426 RX10 yX10_priceOf wsX10_priceOf) := goodIn_app (goodIn_of _ (by decide +kernel)) ggX10_laysReach_X10_priceOf
theorem da9_dX10_laysReach_0 : (decode cX10_laysReach 0 = .ok (.aload_n 0, 1)) ∧ (decode cX10_laysReach 1 = .ok (.invokevirtual 414, 3)) ∧ (decode cX10_laysReach 4 = .ok (.iconst 0, 1)) ∧ (decode cX10_laysReach 5 = .ok (.istore_n 1, 1)) ∧ (decode cX10_laysReach 6 = .ok (.iload_n 1, 1)) ∧ (decode cX10_laysReach 7 = .ok (.bipush 64, 2)) ∧ (decode cX10_laysReach 9 = .ok (.aload_n 0, 1)) ∧ (decode cX10_laysReach 10 = .ok (.getfield 386, 3)) ∧ (decode cX10_laysReach 13 = .ok (.imul, 1)) ∧ (decode cX10_laysReach 14 = .ok (.if_icmp .ge 17, 3)) ∧ (decode cX10_laysReach 17 = .ok (.aload_n 0, 1)) ∧ (decode cX10_laysReach 18 = .ok (.getfield 91, 3)) ∧ (decode cX10_laysReach 21 = .ok (.iload_n 1, 1)) ∧ (decode cX10_laysReach 22 = .ok (.ldc 188, 2)) ∧ (decode cX10_laysReach 24 = .ok (.iastore, 1)) ∧ (decode cX10_laysReach 25 = .ok (.iinc 1 1, 3)) := by decide +kernel
theorem dX10_laysReach_0 : decode cX10_laysReach 0 = .ok (.aload_n 0, 1) := da9_dX10_laysReach_0.1
theorem dX10_laysReach_1 : decode cX10_laysReach 1 = .ok (.invokevirtual 414, 3) := da9_dX10_laysReach_0.2.1
theorem dX10_laysReach_4 : decode cX10_laysReach 4 = .ok (.iconst 0, 1) := da9_dX10_laysReach_0.2.2.1
theorem dX10_laysReach_5 : decode cX10_laysReach 5 = .ok (.istore_n 1, 1) := da9_dX10_laysReach_0.2.2.2.1
theorem dX10_laysReach_6 : decode cX10_laysReach 6 = .ok (.iload_n 1, 1) := da9_dX10_laysReach_0.2.2.2.2.1
theorem dX10_laysReach_7 : decode cX10_laysReach 7 = .ok (.bipush 64, 2) := da9_dX10_laysReach_0.2.2.2.2.2.1
theorem dX10_laysReach_9 : decode cX10_laysReach 9 = .ok (.aload_n 0, 1) := da9_dX10_laysReach_0.2.2.2.2.2.2.1
theorem dX10_laysReach_10 : decode cX10_laysReach 10 = .ok (.getfield 386, 3) := da9_dX10_laysReach_0.2.2.2.2.2.2.2.1
theorem dX10_laysReach_13 : decode cX10_laysReach 13 = .ok (.imul, 1) := da9_dX10_laysReach_0.2.2.2.2.2.2.2.2.1
theorem dX10_laysReach_14 : decode cX10_laysReach 14 = .ok (.if_icmp .ge 17, 3) := da9_dX10_laysReach_0.2.2.2.2.2.2.2.2.2.1
theorem dX10_laysReach_17 : decode cX10_laysReach 17 = .ok (.aload_n 0, 1) := da9_dX10_laysReach_0.2.2.2.2.2.2.2.2.2.2.1
theorem dX10_laysReach_18 : decode cX10_laysReach 18 = .ok (.getfield 91, 3) := da9_dX10_laysReach_0.2.2.2.2.2.2.2.2.2.2.2.1
theorem dX10_laysReach_21 : decode cX10_laysReach 21 = .ok (.iload_n 1, 1) := da9_dX10_laysReach_0.2.2.2.2.2.2.2.2.2.2.2.2.1
theorem dX10_laysReach_22 : decode cX10_laysReach 22 = .ok (.ldc 188, 2) := da9_dX10_laysReach_0.2.2.2.2.2.2.2.2.2.2.2.2.2.1
theorem dX10_laysReach_24 : decode cX10_laysReach 24 = .ok (.iastore, 1) := da9_dX10_laysReach_0.2.2.2.2.2.2.2.2.2.2.2.2.2.2.1
theorem dX10_laysReach_25 : decode cX10_laysReach 25 = .ok (.iinc 1 1, 3) := da9_dX10_laysReach_0.2.2.2.2.2.2.2.2.2.2.2.2.2.2.2
theorem da9_dX10_laysReach_28 : (decode cX10_laysReach 28 = .ok (.goto (-22), 3)) ∧ (decode cX10_laysReach 31 = .ok (.iconst 1, 1)) ∧ (decode cX10_laysReach 32 = .ok (.istore_n 1, 1)) ∧ (decode cX10_laysReach 33 = .ok (.aload_n 0, 1)) ∧ (decode cX10_laysReach 34 = .ok (.getfield 97, 3)) ∧ (decode cX10_laysReach 37 = .ok (.iconst 0, 1)) ∧ (decode cX10_laysReach 38 = .ok (.aload_n 0, 1)) ∧ (decode cX10_laysReach 39 = .ok (.invokevirtual 433, 3)) ∧ (decode cX10_laysReach 42 = .ok (.iastore, 1)) ∧ (decode cX10_laysReach 43 = .ok (.aload_n 0, 1)) ∧ (decode cX10_laysReach 44 = .ok (.getfield 91, 3)) ∧ (decode cX10_laysReach 47 = .ok (.aload_n 0, 1)) ∧ (decode cX10_laysReach 48 = .ok (.getfield 97, 3)) ∧ (decode cX10_laysReach 51 = .ok (.iconst 0, 1)) ∧ (decode cX10_laysReach 52 = .ok (.iaload, 1)) ∧ (decode cX10_laysReach 53 = .ok (.iconst 0, 1)) := by decide +kernel
theorem dX10_laysReach_28 : decode cX10_laysReach 28 = .ok (.goto (-22), 3) := da9_dX10_laysReach_28.1
theorem dX10_laysReach_31 : decode cX10_laysReach 31 = .ok (.iconst 1, 1) := da9_dX10_laysReach_28.2.1
theorem dX10_laysReach_32 : decode cX10_laysReach 32 = .ok (.istore_n 1, 1) := da9_dX10_laysReach_28.2.2.1
theorem dX10_laysReach_33 : decode cX10_laysReach 33 = .ok (.aload_n 0, 1) := da9_dX10_laysReach_28.2.2.2.1
theorem dX10_laysReach_34 : decode cX10_laysReach 34 = .ok (.getfield 97, 3) := da9_dX10_laysReach_28.2.2.2.2.1
theorem dX10_laysReach_37 : decode cX10_laysReach 37 = .ok (.iconst 0, 1) := da9_dX10_laysReach_28.2.2.2.2.2.1
theorem dX10_laysReach_38 : decode cX10_laysReach 38 = .ok (.aload_n 0, 1) := da9_dX10_laysReach_28.2.2.2.2.2.2.1
theorem dX10_laysReach_39 : decode cX10_laysReach 39 = .ok (.invokevirtual 433, 3) := da9_dX10_laysReach_28.2.2.2.2.2.2.2.1
theorem dX10_laysReach_42 : decode cX10_laysReach 42 = .ok (.iastore, 1) := da9_dX10_laysReach_28.2.2.2.2.2.2.2.2.1
theorem dX10_laysReach_43 : decode cX10_laysReach 43 = .ok (.aload_n 0, 1) := da9_dX10_laysReach_28.2.2.2.2.2.2.2.2.2.1
theorem dX10_laysReach_44 : decode cX10_laysReach 44 = .ok (.getfield 91, 3) := da9_dX10_laysReach_28.2.2.2.2.2.2.2.2.2.2.1
theorem dX10_laysReach_47 : decode cX10_laysReach 47 = .ok (.aload_n 0, 1) := da9_dX10_laysReach_28.2.2.2.2.2.2.2.2.2.2.2.1
theorem dX10_laysReach_48 : decode cX10_laysReach 48 = .ok (.getfield 97, 3) := da9_dX10_laysReach_28.2.2.2.2.2.2.2.2.2.2.2.2.1
theorem dX10_laysReach_51 : decode cX10_laysReach 51 = .ok (.iconst 0, 1) := da9_dX10_laysReach_28.2.2.2.2.2.2.2.2.2.2.2.2.2.1
theorem dX10_laysReach_52 : decode cX10_laysReach 52 = .ok (.iaload, 1) := da9_dX10_laysReach_28.2.2.2.2.2.2.2.2.2.2.2.2.2.2.1
theorem dX10_laysReach_53 : decode cX10_laysReach 53 = .ok (.iconst 0, 1) := da9_dX10_laysReach_28.2.2.2.2.2.2.2.2.2.2.2.2.2.2.2
theorem da9_dX10_laysReach_54 : (decode cX10_laysReach 54 = .ok (.iastore, 1)) ∧ (decode cX10_laysReach 55 = .ok (.iconst 0, 1)) ∧ (decode cX10_laysReach 56 = .ok (.istore_n 2, 1)) ∧ (decode cX10_laysReach 57 = .ok (.iload_n 2, 1)) ∧ (decode cX10_laysReach 58 = .ok (.iload_n 1, 1)) ∧ (decode cX10_laysReach 59 = .ok (.if_icmp .ge 99, 3)) ∧ (decode cX10_laysReach 62 = .ok (.iconst 1, 1)) ∧ (decode cX10_laysReach 63 = .ok (.istore_n 3, 1)) ∧ (decode cX10_laysReach 64 = .ok (.iload_n 3, 1)) ∧ (decode cX10_laysReach 65 = .ok (.aload_n 0, 1)) ∧ (decode cX10_laysReach 66 = .ok (.invokevirtual 125, 3)) ∧ (decode cX10_laysReach 69 = .ok (.if_icmp .gt 83, 3)) ∧ (decode cX10_laysReach 72 = .ok (.aload_n 0, 1)) ∧ (decode cX10_laysReach 73 = .ok (.aload_n 0, 1)) ∧ (decode cX10_laysReach 74 = .ok (.getfield 97, 3)) ∧ (decode cX10_laysReach 77 = .ok (.iload_n 2, 1)) := by decide +kernel
theorem dX10_laysReach_54 : decode cX10_laysReach 54 = .ok (.iastore, 1) := da9_dX10_laysReach_54.1
theorem dX10_laysReach_55 : decode cX10_laysReach 55 = .ok (.iconst 0, 1) := da9_dX10_laysReach_54.2.1
theorem dX10_laysReach_56 : decode cX10_laysReach 56 = .ok (.istore_n 2, 1) := da9_dX10_laysReach_54.2.2.1
theorem dX10_laysReach_57 : decode cX10_laysReach 57 = .ok (.iload_n 2, 1) := da9_dX10_laysReach_54.2.2.2.1
theorem dX10_laysReach_58 : decode cX10_laysReach 58 = .ok (.iload_n 1, 1) := da9_dX10_laysReach_54.2.2.2.2.1
theorem dX10_laysReach_59 : decode cX10_laysReach 59 = .ok (.if_icmp .ge 99, 3) := da9_dX10_laysReach_54.2.2.2.2.2.1
theorem dX10_laysReach_62 : decode cX10_laysReach 62 = .ok (.iconst 1, 1) := da9_dX10_laysReach_54.2.2.2.2.2.2.1
theorem dX10_laysReach_63 : decode cX10_laysReach 63 = .ok (.istore_n 3, 1) := da9_dX10_laysReach_54.2.2.2.2.2.2.2.1
theorem dX10_laysReach_64 : decode cX10_laysReach 64 = .ok (.iload_n 3, 1) := da9_dX10_laysReach_54.2.2.2.2.2.2.2.2.1
theorem dX10_laysReach_65 : decode cX10_laysReach 65 = .ok (.aload_n 0, 1) := da9_dX10_laysReach_54.2.2.2.2.2.2.2.2.2.1
theorem dX10_laysReach_66 : decode cX10_laysReach 66 = .ok (.invokevirtual 125, 3) := da9_dX10_laysReach_54.2.2.2.2.2.2.2.2.2.2.1
theorem dX10_laysReach_69 : decode cX10_laysReach 69 = .ok (.if_icmp .gt 83, 3) := da9_dX10_laysReach_54.2.2.2.2.2.2.2.2.2.2.2.1
theorem dX10_laysReach_72 : decode cX10_laysReach 72 = .ok (.aload_n 0, 1) := da9_dX10_laysReach_54.2.2.2.2.2.2.2.2.2.2.2.2.1
theorem dX10_laysReach_73 : decode cX10_laysReach 73 = .ok (.aload_n 0, 1) := da9_dX10_laysReach_54.2.2.2.2.2.2.2.2.2.2.2.2.2.1
theorem dX10_laysReach_74 : decode cX10_laysReach 74 = .ok (.getfield 97, 3) := da9_dX10_laysReach_54.2.2.2.2.2.2.2.2.2.2.2.2.2.2.1
theorem dX10_laysReach_77 : decode cX10_laysReach 77 = .ok (.iload_n 2, 1) := da9_dX10_laysReach_54.2.2.2.2.2.2.2.2.2.2.2.2.2.2.2
theorem da9_dX10_laysReach_78 : (decode cX10_laysReach 78 = .ok (.iaload, 1)) ∧ (decode cX10_laysReach 79 = .ok (.iload_n 3, 1)) ∧ (decode cX10_laysReach 80 = .ok (.invokevirtual 423, 3)) ∧ (decode cX10_laysReach 83 = .ok (.istore 4, 2)) ∧ (decode cX10_laysReach 85 = .ok (.aload_n 0, 1)) ∧ (decode cX10_laysReach 86 = .ok (.aload_n 0, 1)) ∧ (decode cX10_laysReach 87 = .ok (.getfield 97, 3)) ∧ (decode cX10_laysReach 90 = .ok (.iload_n 2, 1)) ∧ (decode cX10_laysReach 91 = .ok (.iaload, 1)) ∧ (decode cX10_laysReach 92 = .ok (.iload_n 3, 1)) ∧ (decode cX10_laysReach 93 = .ok (.invokevirtual 426, 3)) ∧ (decode cX10_laysReach 96 = .ok (.iconst (-1), 1)) ∧ (decode cX10_laysReach 97 = .ok (.if_icmp .eq 49, 3)) ∧ (decode cX10_laysReach 100 = .ok (.aload_n 0, 1)) ∧ (decode cX10_laysReach 101 = .ok (.getfield 91, 3)) ∧ (decode cX10_laysReach 104 = .ok (.iload 4, 2)) := by decide +kernel
theorem dX10_laysReach_78 : decode cX10_laysReach 78 = .ok (.iaload, 1) := da9_dX10_laysReach_78.1
theorem dX10_laysReach_79 : decode cX10_laysReach 79 = .ok (.iload_n 3, 1) := da9_dX10_laysReach_78.2.1
theorem dX10_laysReach_80 : decode cX10_laysReach 80 = .ok (.invokevirtual 423, 3) := da9_dX10_laysReach_78.2.2.1
theorem dX10_laysReach_83 : decode cX10_laysReach 83 = .ok (.istore 4, 2) := da9_dX10_laysReach_78.2.2.2.1
theorem dX10_laysReach_85 : decode cX10_laysReach 85 = .ok (.aload_n 0, 1) := da9_dX10_laysReach_78.2.2.2.2.1
theorem dX10_laysReach_86 : decode cX10_laysReach 86 = .ok (.aload_n 0, 1) := da9_dX10_laysReach_78.2.2.2.2.2.1
theorem dX10_laysReach_87 : decode cX10_laysReach 87 = .ok (.getfield 97, 3) := da9_dX10_laysReach_78.2.2.2.2.2.2.1
theorem dX10_laysReach_90 : decode cX10_laysReach 90 = .ok (.iload_n 2, 1) := da9_dX10_laysReach_78.2.2.2.2.2.2.2.1
theorem dX10_laysReach_91 : decode cX10_laysReach 91 = .ok (.iaload, 1) := da9_dX10_laysReach_78.2.2.2.2.2.2.2.2.1
theorem dX10_laysReach_92 : decode cX10_laysReach 92 = .ok (.iload_n 3, 1) := da9_dX10_laysReach_78.2.2.2.2.2.2.2.2.2.1
theorem dX10_laysReach_93 : decode cX10_laysReach 93 = .ok (.invokevirtual 426, 3) := da9_dX10_laysReach_78.2.2.2.2.2.2.2.2.2.2.1
theorem dX10_laysReach_96 : decode cX10_laysReach 96 = .ok (.iconst (-1), 1) := da9_dX10_laysReach_78.2.2.2.2.2.2.2.2.2.2.2.1
theorem dX10_laysReach_97 : decode cX10_laysReach 97 = .ok (.if_icmp .eq 49, 3) := da9_dX10_laysReach_78.2.2.2.2.2.2.2.2.2.2.2.2.1
theorem dX10_laysReach_100 : decode cX10_laysReach 100 = .ok (.aload_n 0, 1) := da9_dX10_laysReach_78.2.2.2.2.2.2.2.2.2.2.2.2.2.1
theorem dX10_laysReach_101 : decode cX10_laysReach 101 = .ok (.getfield 91, 3) := da9_dX10_laysReach_78.2.2.2.2.2.2.2.2.2.2.2.2.2.2.1
theorem dX10_laysReach_104 : decode cX10_laysReach 104 = .ok (.iload 4, 2) := da9_dX10_laysReach_78.2.2.2.2.2.2.2.2.2.2.2.2.2.2.2
theorem da9_dX10_laysReach_106 : (decode cX10_laysReach 106 = .ok (.iaload, 1)) ∧ (decode cX10_laysReach 107 = .ok (.ldc 188, 2)) ∧ (decode cX10_laysReach 109 = .ok (.if_icmp .ge 6, 3)) ∧ (decode cX10_laysReach 112 = .ok (.goto 34, 3)) ∧ (decode cX10_laysReach 115 = .ok (.aload_n 0, 1)) ∧ (decode cX10_laysReach 116 = .ok (.getfield 91, 3)) ∧ (decode cX10_laysReach 119 = .ok (.iload 4, 2)) ∧ (decode cX10_laysReach 121 = .ok (.aload_n 0, 1)) ∧ (decode cX10_laysReach 122 = .ok (.getfield 91, 3)) ∧ (decode cX10_laysReach 125 = .ok (.aload_n 0, 1)) ∧ (decode cX10_laysReach 126 = .ok (.getfield 97, 3)) ∧ (decode cX10_laysReach 129 = .ok (.iload_n 2, 1)) ∧ (decode cX10_laysReach 130 = .ok (.iaload, 1)) ∧ (decode cX10_laysReach 131 = .ok (.iaload, 1)) ∧ (decode cX10_laysReach 132 = .ok (.iconst 1, 1)) ∧ (decode cX10_laysReach 133 = .ok (.iadd, 1)) := by decide +kernel
theorem dX10_laysReach_106 : decode cX10_laysReach 106 = .ok (.iaload, 1) := da9_dX10_laysReach_106.1
theorem dX10_laysReach_107 : decode cX10_laysReach 107 = .ok (.ldc 188, 2) := da9_dX10_laysReach_106.2.1
theorem dX10_laysReach_109 : decode cX10_laysReach 109 = .ok (.if_icmp .ge 6, 3) := da9_dX10_laysReach_106.2.2.1
theorem dX10_laysReach_112 : decode cX10_laysReach 112 = .ok (.goto 34, 3) := da9_dX10_laysReach_106.2.2.2.1
theorem dX10_laysReach_115 : decode cX10_laysReach 115 = .ok (.aload_n 0, 1) := da9_dX10_laysReach_106.2.2.2.2.1
theorem dX10_laysReach_116 : decode cX10_laysReach 116 = .ok (.getfield 91, 3) := da9_dX10_laysReach_106.2.2.2.2.2.1
theorem dX10_laysReach_119 : decode cX10_laysReach 119 = .ok (.iload 4, 2) := da9_dX10_laysReach_106.2.2.2.2.2.2.1
theorem dX10_laysReach_121 : decode cX10_laysReach 121 = .ok (.aload_n 0, 1) := da9_dX10_laysReach_106.2.2.2.2.2.2.2.1
theorem dX10_laysReach_122 : decode cX10_laysReach 122 = .ok (.getfield 91, 3) := da9_dX10_laysReach_106.2.2.2.2.2.2.2.2.1
theorem dX10_laysReach_125 : decode cX10_laysReach 125 = .ok (.aload_n 0, 1) := da9_dX10_laysReach_106.2.2.2.2.2.2.2.2.2.1
theorem dX10_laysReach_126 : decode cX10_laysReach 126 = .ok (.getfield 97, 3) := da9_dX10_laysReach_106.2.2.2.2.2.2.2.2.2.2.1
theorem dX10_laysReach_129 : decode cX10_laysReach 129 = .ok (.iload_n 2, 1) := da9_dX10_laysReach_106.2.2.2.2.2.2.2.2.2.2.2.1
theorem dX10_laysReach_130 : decode cX10_laysReach 130 = .ok (.iaload, 1) := da9_dX10_laysReach_106.2.2.2.2.2.2.2.2.2.2.2.2.1
theorem dX10_laysReach_131 : decode cX10_laysReach 131 = .ok (.iaload, 1) := da9_dX10_laysReach_106.2.2.2.2.2.2.2.2.2.2.2.2.2.1
theorem dX10_laysReach_132 : decode cX10_laysReach 132 = .ok (.iconst 1, 1) := da9_dX10_laysReach_106.2.2.2.2.2.2.2.2.2.2.2.2.2.2.1
theorem dX10_laysReach_133 : decode cX10_laysReach 133 = .ok (.iadd, 1) := da9_dX10_laysReach_106.2.2.2.2.2.2.2.2.2.2.2.2.2.2.2
theorem da9_dX10_laysReach_134 : (decode cX10_laysReach 134 = .ok (.iastore, 1)) ∧ (decode cX10_laysReach 135 = .ok (.aload_n 0, 1)) ∧ (decode cX10_laysReach 136 = .ok (.getfield 97, 3)) ∧ (decode cX10_laysReach 139 = .ok (.iload_n 1, 1)) ∧ (decode cX10_laysReach 140 = .ok (.iload 4, 2)) ∧ (decode cX10_laysReach 142 = .ok (.iastore, 1)) ∧ (decode cX10_laysReach 143 = .ok (.iinc 1 1, 3)) ∧ (decode cX10_laysReach 146 = .ok (.iinc 3 1, 3)) ∧ (decode cX10_laysReach 149 = .ok (.goto (-85), 3)) ∧ (decode cX10_laysReach 152 = .ok (.iinc 2 1, 3)) ∧ (decode cX10_laysReach 155 = .ok (.goto (-98), 3)) ∧ (decode cX10_laysReach 158 = .ok (.iload_n 1, 1)) ∧ (decode cX10_laysReach 159 = .ok (.ireturn, 1)) := by decide +kernel
theorem dX10_laysReach_134 : decode cX10_laysReach 134 = .ok (.iastore, 1) := da9_dX10_laysReach_134.1
theorem dX10_laysReach_135 : decode cX10_laysReach 135 = .ok (.aload_n 0, 1) := da9_dX10_laysReach_134.2.1
theorem dX10_laysReach_136 : decode cX10_laysReach 136 = .ok (.getfield 97, 3) := da9_dX10_laysReach_134.2.2.1
theorem dX10_laysReach_139 : decode cX10_laysReach 139 = .ok (.iload_n 1, 1) := da9_dX10_laysReach_134.2.2.2.1
theorem dX10_laysReach_140 : decode cX10_laysReach 140 = .ok (.iload 4, 2) := da9_dX10_laysReach_134.2.2.2.2.1
theorem dX10_laysReach_142 : decode cX10_laysReach 142 = .ok (.iastore, 1) := da9_dX10_laysReach_134.2.2.2.2.2.1
theorem dX10_laysReach_143 : decode cX10_laysReach 143 = .ok (.iinc 1 1, 3) := da9_dX10_laysReach_134.2.2.2.2.2.2.1
theorem dX10_laysReach_146 : decode cX10_laysReach 146 = .ok (.iinc 3 1, 3) := da9_dX10_laysReach_134.2.2.2.2.2.2.2.1
theorem dX10_laysReach_149 : decode cX10_laysReach 149 = .ok (.goto (-85), 3) := da9_dX10_laysReach_134.2.2.2.2.2.2.2.2.1
theorem dX10_laysReach_152 : decode cX10_laysReach 152 = .ok (.iinc 2 1, 3) := da9_dX10_laysReach_134.2.2.2.2.2.2.2.2.2.1
theorem dX10_laysReach_155 : decode cX10_laysReach 155 = .ok (.goto (-98), 3) := da9_dX10_laysReach_134.2.2.2.2.2.2.2.2.2.2.1
theorem dX10_laysReach_158 : decode cX10_laysReach 158 = .ok (.iload_n 1, 1) := da9_dX10_laysReach_134.2.2.2.2.2.2.2.2.2.2.2.1
theorem dX10_laysReach_159 : decode cX10_laysReach 159 = .ok (.ireturn, 1) := da9_dX10_laysReach_134.2.2.2.2.2.2.2.2.2.2.2.2
set_option maxRecDepth 20000 in
theorem ggX10_reach_X10_laysReach : GoodIn wsX10_reach wsX10_laysReach := goodIn_r _ [5, 6, 7, 8, 9, 10, 11, 12, 4, 13, 14, 15, 16, 17, 18, 19, 20, 21, 22, 23, 24, 25, 26, 27, 28, 29, 30, 31, 32, 33, 34, 35, 36, 37, 38, 39, 40, 41, 42, 43, 44, 45, 46, 47, 48, 49, 50, 51, 52, 53, 54, 55, 56, 57, 58, 59, 60, 61, 62, 63, 64, 65, 66, 67, 68, 69, 70, 71, 72, 73, 74, 75, 76, 77, 78, 79, 80, 81, 82, 83, 84, 85, 86, 87, 88, 89, 90, 91, 92, 93, 94, 95, 96, 97, 98, 99, 100, 101, 102, 103, 104, 105, 106, 107, 108, 109, 110, 111, 112, 113, 114, 115, 116, 117, 118, 119, 120, 121, 122, 123, 124, 125, 126, 127, 128, 129, 130, 131, 132, 133, 134, 135, 136, 137, 138, 139, 140, 141, 142, 143, 144, 145, 146, 147, 148, 149, 150, 151, 152, 153, 154, 155, 156, 157, 158, 159, 160, 161, 162, 163, 164, 165, 166, 167, 168, 169, 170, 171, 172, 173, 174, 175, 176, 177, 178, 179, 180, 181, 182, 183, 184, 185, 186, 187, 188, 189, 190, 191, 192, 193, 194, 195, 196, 197, 198, 199, 200, 201, 202, 203, 204, 205, 206, 207, 208, 209, 210, 211, 212, 213] rfl (by decide +kernel)
set_option maxRecDepth 20000 in
theorem gX10_reach_X10_laysReach : GoodIn wsX10_reach (wsV RX10 442 RX10 yX10_laysReach wsX10_laysReach) := goodIn_app (goodIn_of _ (by decide +kernel)) ggX10_reach_X10_laysReach
theorem da9_dX10_reach_0 : (decode cX10_reach 0 = .ok (.aload_n 0, 1)) ∧ (decode cX10_reach 1 = .ok (.invokevirtual 442, 3)) ∧ (decode cX10_reach 4 = .ok (.ireturn, 1)) := by decide +kernel
theorem dX10_reach_0 : decode cX10_reach 0 = .ok (.aload_n 0, 1) := da9_dX10_reach_0.1
theorem dX10_reach_1 : decode cX10_reach 1 = .ok (.invokevirtual 442, 3) := da9_dX10_reach_0.2.1
theorem dX10_reach_4 : decode cX10_reach 4 = .ok (.ireturn, 1) := da9_dX10_reach_0.2.2
set_option maxRecDepth 20000 in
theorem ggX10_isOrder_X10_size : GoodIn wsX10_isOrder wsX10_size := goodIn_r _ [6, 7, 19, 20, 21, 22, 23, 24, 25, 26, 27, 28, 29, 30, 31, 32, 33, 34, 35, 36, 37, 38, 39, 40, 41, 42, 43, 44, 45, 46, 47, 48, 49, 50, 51, 52, 53, 54, 55, 56, 57, 58, 59, 60, 61, 62, 63, 64, 65, 66, 67, 68, 69, 70, 71, 72, 73, 74] rfl (by decide +kernel)
set_option maxRecDepth 20000 in
theorem gX10_isOrder_X10_size : GoodIn wsX10_isOrder (wsV RX10 125 RX10 yX10_size wsX10_size) := goodIn_app (goodIn_of _ (by decide +kernel)) ggX10_isOrder_X10_size
set_option maxRecDepth 20000 in
theorem ggX10_isOrder_X10_placeOf : GoodIn wsX10_isOrder wsX10_placeOf := goodIn_r _ [11, 7, 2, 3, 4, 5, 6, 19, 20, 21, 22, 23, 24, 25, 26, 27, 28, 29, 30, 31, 32, 33, 34, 35, 36, 37, 38, 39, 40, 41, 42, 43, 44, 45, 46, 47, 48, 49, 50, 51, 52, 53, 54, 55, 56, 57, 58, 59, 60, 61, 62, 63, 64, 65, 66, 67, 68, 69, 70, 71, 72, 73, 74] rfl (by decide +kernel)
set_option maxRecDepth 20000 in
theorem gX10_isOrder_X10_placeOf : GoodIn wsX10_isOrder (wsV RX10 136 RX10 yX10_placeOf wsX10_placeOf) := goodIn_app (goodIn_of _ (by decide +kernel)) ggX10_isOrder_X10_placeOf
set_option maxRecDepth 20000 in
theorem ggX10_isOrder_X10_isIn : GoodIn wsX10_isOrder wsX10_isIn := goodIn_r _ [14] rfl (by decide +kernel)
set_option maxRecDepth 20000 in
theorem gX10_isOrder_X10_isIn : GoodIn wsX10_isOrder (va_wsS RX10 383 yX10_isIn wsX10_isIn) := goodIn_app (goodIn_of _ (by decide +kernel)) ggX10_isOrder_X10_isIn
set_option maxRecDepth 20000 in
theorem ggX10_isOrder_X10_lessThan : GoodIn wsX10_isOrder wsX10_lessThan := goodIn_r _ [18, 7, 2, 3, 4, 5, 6, 19, 20, 21, 22, 23, 24, 25, 26, 27, 28, 29, 30, 31, 32, 33, 34, 35, 36, 37, 38, 39, 40, 41, 42, 43, 44, 45, 46, 47, 48, 49, 50, 51, 52, 53, 54, 55, 56, 57, 58, 59, 60, 61, 62, 63, 64, 65, 66, 67, 68, 69, 70, 71, 72, 73, 74] rfl (by decide +kernel)
set_option maxRecDepth 20000 in
theorem gX10_isOrder_X10_lessThan : GoodIn wsX10_isOrder (wsV RX10 401 RX10 yX10_lessThan wsX10_lessThan) := goodIn_app (goodIn_of _ (by decide +kernel)) ggX10_isOrder_X10_lessThan
theorem da9_dX10_isOrder_0 : (decode cX10_isOrder 0 = .ok (.iload_n 1, 1)) ∧ (decode cX10_isOrder 1 = .ok (.istore_n 2, 1)) ∧ (decode cX10_isOrder 2 = .ok (.iconst 0, 1)) ∧ (decode cX10_isOrder 3 = .ok (.istore_n 3, 1)) ∧ (decode cX10_isOrder 4 = .ok (.iload_n 1, 1)) ∧ (decode cX10_isOrder 5 = .ok (.ifCond .lt 7, 3)) ∧ (decode cX10_isOrder 8 = .ok (.iconst 1, 1)) ∧ (decode cX10_isOrder 9 = .ok (.goto 4, 3)) ∧ (decode cX10_isOrder 12 = .ok (.iconst 0, 1)) ∧ (decode cX10_isOrder 13 = .ok (.istore 4, 2)) ∧ (decode cX10_isOrder 15 = .ok (.aload_n 0, 1)) ∧ (decode cX10_isOrder 16 = .ok (.invokevirtual 125, 3)) ∧ (decode cX10_isOrder 19 = .ok (.iconst 1, 1)) ∧ (decode cX10_isOrder 20 = .ok (.isub, 1)) ∧ (decode cX10_isOrder 21 = .ok (.istore 5, 2)) ∧ (decode cX10_isOrder 23 = .ok (.iload 5, 2)) := by decide +kernel
theorem dX10_isOrder_0 : decode cX10_isOrder 0 = .ok (.iload_n 1, 1) := da9_dX10_isOrder_0.1
theorem dX10_isOrder_1 : decode cX10_isOrder 1 = .ok (.istore_n 2, 1) := da9_dX10_isOrder_0.2.1
theorem dX10_isOrder_2 : decode cX10_isOrder 2 = .ok (.iconst 0, 1) := da9_dX10_isOrder_0.2.2.1
theorem dX10_isOrder_3 : decode cX10_isOrder 3 = .ok (.istore_n 3, 1) := da9_dX10_isOrder_0.2.2.2.1
theorem dX10_isOrder_4 : decode cX10_isOrder 4 = .ok (.iload_n 1, 1) := da9_dX10_isOrder_0.2.2.2.2.1
theorem dX10_isOrder_5 : decode cX10_isOrder 5 = .ok (.ifCond .lt 7, 3) := da9_dX10_isOrder_0.2.2.2.2.2.1
theorem dX10_isOrder_8 : decode cX10_isOrder 8 = .ok (.iconst 1, 1) := da9_dX10_isOrder_0.2.2.2.2.2.2.1
theorem dX10_isOrder_9 : decode cX10_isOrder 9 = .ok (.goto 4, 3) := da9_dX10_isOrder_0.2.2.2.2.2.2.2.1
theorem dX10_isOrder_12 : decode cX10_isOrder 12 = .ok (.iconst 0, 1) := da9_dX10_isOrder_0.2.2.2.2.2.2.2.2.1
theorem dX10_isOrder_13 : decode cX10_isOrder 13 = .ok (.istore 4, 2) := da9_dX10_isOrder_0.2.2.2.2.2.2.2.2.2.1
theorem dX10_isOrder_15 : decode cX10_isOrder 15 = .ok (.aload_n 0, 1) := da9_dX10_isOrder_0.2.2.2.2.2.2.2.2.2.2.1
theorem dX10_isOrder_16 : decode cX10_isOrder 16 = .ok (.invokevirtual 125, 3) := da9_dX10_isOrder_0.2.2.2.2.2.2.2.2.2.2.2.1
theorem dX10_isOrder_19 : decode cX10_isOrder 19 = .ok (.iconst 1, 1) := da9_dX10_isOrder_0.2.2.2.2.2.2.2.2.2.2.2.2.1
theorem dX10_isOrder_20 : decode cX10_isOrder 20 = .ok (.isub, 1) := da9_dX10_isOrder_0.2.2.2.2.2.2.2.2.2.2.2.2.2.1
theorem dX10_isOrder_21 : decode cX10_isOrder 21 = .ok (.istore 5, 2) := da9_dX10_isOrder_0.2.2.2.2.2.2.2.2.2.2.2.2.2.2.1
theorem dX10_isOrder_23 : decode cX10_isOrder 23 = .ok (.iload 5, 2) := da9_dX10_isOrder_0.2.2.2.2.2.2.2.2.2.2.2.2.2.2.2
theorem da9_dX10_isOrder_25 : (decode cX10_isOrder 25 = .ok (.ifCond .lt 82, 3)) ∧ (decode cX10_isOrder 28 = .ok (.iload 4, 2)) ∧ (decode cX10_isOrder 30 = .ok (.ifCond .eq 30, 3)) ∧ (decode cX10_isOrder 33 = .ok (.aload_n 0, 1)) ∧ (decode cX10_isOrder 34 = .ok (.iload_n 2, 1)) ∧ (decode cX10_isOrder 35 = .ok (.bipush 10, 2)) ∧ (decode cX10_isOrder 37 = .ok (.irem, 1)) ∧ (decode cX10_isOrder 38 = .ok (.invokevirtual 136, 3)) ∧ (decode cX10_isOrder 41 = .ok (.iconst (-1), 1)) ∧ (decode cX10_isOrder 42 = .ok (.if_icmp .eq 18, 3)) ∧ (decode cX10_isOrder 45 = .ok (.iload_n 3, 1)) ∧ (decode cX10_isOrder 46 = .ok (.iload_n 2, 1)) ∧ (decode cX10_isOrder 47 = .ok (.bipush 10, 2)) ∧ (decode cX10_isOrder 49 = .ok (.irem, 1)) ∧ (decode cX10_isOrder 50 = .ok (.invokestatic 383, 3)) ∧ (decode cX10_isOrder 53 = .ok (.ifCond .ne 7, 3)) := by decide +kernel
theorem dX10_isOrder_25 : decode cX10_isOrder 25 = .ok (.ifCond .lt 82, 3) := da9_dX10_isOrder_25.1
theorem dX10_isOrder_28 : decode cX10_isOrder 28 = .ok (.iload 4, 2) := da9_dX10_isOrder_25.2.1
theorem dX10_isOrder_30 : decode cX10_isOrder 30 = .ok (.ifCond .eq 30, 3) := da9_dX10_isOrder_25.2.2.1
theorem dX10_isOrder_33 : decode cX10_isOrder 33 = .ok (.aload_n 0, 1) := da9_dX10_isOrder_25.2.2.2.1
theorem dX10_isOrder_34 : decode cX10_isOrder 34 = .ok (.iload_n 2, 1) := da9_dX10_isOrder_25.2.2.2.2.1
theorem dX10_isOrder_35 : decode cX10_isOrder 35 = .ok (.bipush 10, 2) := da9_dX10_isOrder_25.2.2.2.2.2.1
theorem dX10_isOrder_37 : decode cX10_isOrder 37 = .ok (.irem, 1) := da9_dX10_isOrder_25.2.2.2.2.2.2.1
theorem dX10_isOrder_38 : decode cX10_isOrder 38 = .ok (.invokevirtual 136, 3) := da9_dX10_isOrder_25.2.2.2.2.2.2.2.1
theorem dX10_isOrder_41 : decode cX10_isOrder 41 = .ok (.iconst (-1), 1) := da9_dX10_isOrder_25.2.2.2.2.2.2.2.2.1
theorem dX10_isOrder_42 : decode cX10_isOrder 42 = .ok (.if_icmp .eq 18, 3) := da9_dX10_isOrder_25.2.2.2.2.2.2.2.2.2.1
theorem dX10_isOrder_45 : decode cX10_isOrder 45 = .ok (.iload_n 3, 1) := da9_dX10_isOrder_25.2.2.2.2.2.2.2.2.2.2.1
theorem dX10_isOrder_46 : decode cX10_isOrder 46 = .ok (.iload_n 2, 1) := da9_dX10_isOrder_25.2.2.2.2.2.2.2.2.2.2.2.1
theorem dX10_isOrder_47 : decode cX10_isOrder 47 = .ok (.bipush 10, 2) := da9_dX10_isOrder_25.2.2.2.2.2.2.2.2.2.2.2.2.1
theorem dX10_isOrder_49 : decode cX10_isOrder 49 = .ok (.irem, 1) := da9_dX10_isOrder_25.2.2.2.2.2.2.2.2.2.2.2.2.2.1
theorem dX10_isOrder_50 : decode cX10_isOrder 50 = .ok (.invokestatic 383, 3) := da9_dX10_isOrder_25.2.2.2.2.2.2.2.2.2.2.2.2.2.2.1
theorem dX10_isOrder_53 : decode cX10_isOrder 53 = .ok (.ifCond .ne 7, 3) := da9_dX10_isOrder_25.2.2.2.2.2.2.2.2.2.2.2.2.2.2.2
theorem da9_dX10_isOrder_56 : (decode cX10_isOrder 56 = .ok (.iconst 1, 1)) ∧ (decode cX10_isOrder 57 = .ok (.goto 4, 3)) ∧ (decode cX10_isOrder 60 = .ok (.iconst 0, 1)) ∧ (decode cX10_isOrder 61 = .ok (.istore 4, 2)) ∧ (decode cX10_isOrder 63 = .ok (.iload_n 3, 1)) ∧ (decode cX10_isOrder 64 = .ok (.iconst 1, 1)) ∧ (decode cX10_isOrder 65 = .ok (.iload_n 2, 1)) ∧ (decode cX10_isOrder 66 = .ok (.bipush 10, 2)) ∧ (decode cX10_isOrder 68 = .ok (.irem, 1)) ∧ (decode cX10_isOrder 69 = .ok (.ishl, 1)) ∧ (decode cX10_isOrder 70 = .ok (.ior, 1)) ∧ (decode cX10_isOrder 71 = .ok (.istore_n 3, 1)) ∧ (decode cX10_isOrder 72 = .ok (.aload_n 0, 1)) ∧ (decode cX10_isOrder 73 = .ok (.getfield 84, 3)) ∧ (decode cX10_isOrder 76 = .ok (.iload 5, 2)) ∧ (decode cX10_isOrder 78 = .ok (.iload 4, 2)) := by decide +kernel
theorem dX10_isOrder_56 : decode cX10_isOrder 56 = .ok (.iconst 1, 1) := da9_dX10_isOrder_56.1
theorem dX10_isOrder_57 : decode cX10_isOrder 57 = .ok (.goto 4, 3) := da9_dX10_isOrder_56.2.1
theorem dX10_isOrder_60 : decode cX10_isOrder 60 = .ok (.iconst 0, 1) := da9_dX10_isOrder_56.2.2.1
theorem dX10_isOrder_61 : decode cX10_isOrder 61 = .ok (.istore 4, 2) := da9_dX10_isOrder_56.2.2.2.1
theorem dX10_isOrder_63 : decode cX10_isOrder 63 = .ok (.iload_n 3, 1) := da9_dX10_isOrder_56.2.2.2.2.1
theorem dX10_isOrder_64 : decode cX10_isOrder 64 = .ok (.iconst 1, 1) := da9_dX10_isOrder_56.2.2.2.2.2.1
theorem dX10_isOrder_65 : decode cX10_isOrder 65 = .ok (.iload_n 2, 1) := da9_dX10_isOrder_56.2.2.2.2.2.2.1
theorem dX10_isOrder_66 : decode cX10_isOrder 66 = .ok (.bipush 10, 2) := da9_dX10_isOrder_56.2.2.2.2.2.2.2.1
theorem dX10_isOrder_68 : decode cX10_isOrder 68 = .ok (.irem, 1) := da9_dX10_isOrder_56.2.2.2.2.2.2.2.2.1
theorem dX10_isOrder_69 : decode cX10_isOrder 69 = .ok (.ishl, 1) := da9_dX10_isOrder_56.2.2.2.2.2.2.2.2.2.1
theorem dX10_isOrder_70 : decode cX10_isOrder 70 = .ok (.ior, 1) := da9_dX10_isOrder_56.2.2.2.2.2.2.2.2.2.2.1
theorem dX10_isOrder_71 : decode cX10_isOrder 71 = .ok (.istore_n 3, 1) := da9_dX10_isOrder_56.2.2.2.2.2.2.2.2.2.2.2.1
theorem dX10_isOrder_72 : decode cX10_isOrder 72 = .ok (.aload_n 0, 1) := da9_dX10_isOrder_56.2.2.2.2.2.2.2.2.2.2.2.2.1
theorem dX10_isOrder_73 : decode cX10_isOrder 73 = .ok (.getfield 84, 3) := da9_dX10_isOrder_56.2.2.2.2.2.2.2.2.2.2.2.2.2.1
theorem dX10_isOrder_76 : decode cX10_isOrder 76 = .ok (.iload 5, 2) := da9_dX10_isOrder_56.2.2.2.2.2.2.2.2.2.2.2.2.2.2.1
theorem dX10_isOrder_78 : decode cX10_isOrder 78 = .ok (.iload 4, 2) := da9_dX10_isOrder_56.2.2.2.2.2.2.2.2.2.2.2.2.2.2.2
theorem da9_dX10_isOrder_80 : (decode cX10_isOrder 80 = .ok (.ifCond .eq 14, 3)) ∧ (decode cX10_isOrder 83 = .ok (.aload_n 0, 1)) ∧ (decode cX10_isOrder 84 = .ok (.iload_n 2, 1)) ∧ (decode cX10_isOrder 85 = .ok (.bipush 10, 2)) ∧ (decode cX10_isOrder 87 = .ok (.irem, 1)) ∧ (decode cX10_isOrder 88 = .ok (.invokevirtual 401, 3)) ∧ (decode cX10_isOrder 91 = .ok (.goto 4, 3)) ∧ (decode cX10_isOrder 94 = .ok (.iconst 0, 1)) ∧ (decode cX10_isOrder 95 = .ok (.iastore, 1)) ∧ (decode cX10_isOrder 96 = .ok (.iload_n 2, 1)) ∧ (decode cX10_isOrder 97 = .ok (.bipush 10, 2)) ∧ (decode cX10_isOrder 99 = .ok (.idiv, 1)) ∧ (decode cX10_isOrder 100 = .ok (.istore_n 2, 1)) ∧ (decode cX10_isOrder 101 = .ok (.iinc 5 (-1), 3)) ∧ (decode cX10_isOrder 104 = .ok (.goto (-81), 3)) ∧ (decode cX10_isOrder 107 = .ok (.iload 4, 2)) := by decide +kernel
theorem dX10_isOrder_80 : decode cX10_isOrder 80 = .ok (.ifCond .eq 14, 3) := da9_dX10_isOrder_80.1
theorem dX10_isOrder_83 : decode cX10_isOrder 83 = .ok (.aload_n 0, 1) := da9_dX10_isOrder_80.2.1
theorem dX10_isOrder_84 : decode cX10_isOrder 84 = .ok (.iload_n 2, 1) := da9_dX10_isOrder_80.2.2.1
theorem dX10_isOrder_85 : decode cX10_isOrder 85 = .ok (.bipush 10, 2) := da9_dX10_isOrder_80.2.2.2.1
theorem dX10_isOrder_87 : decode cX10_isOrder 87 = .ok (.irem, 1) := da9_dX10_isOrder_80.2.2.2.2.1
theorem dX10_isOrder_88 : decode cX10_isOrder 88 = .ok (.invokevirtual 401, 3) := da9_dX10_isOrder_80.2.2.2.2.2.1
theorem dX10_isOrder_91 : decode cX10_isOrder 91 = .ok (.goto 4, 3) := da9_dX10_isOrder_80.2.2.2.2.2.2.1
theorem dX10_isOrder_94 : decode cX10_isOrder 94 = .ok (.iconst 0, 1) := da9_dX10_isOrder_80.2.2.2.2.2.2.2.1
theorem dX10_isOrder_95 : decode cX10_isOrder 95 = .ok (.iastore, 1) := da9_dX10_isOrder_80.2.2.2.2.2.2.2.2.1
theorem dX10_isOrder_96 : decode cX10_isOrder 96 = .ok (.iload_n 2, 1) := da9_dX10_isOrder_80.2.2.2.2.2.2.2.2.2.1
theorem dX10_isOrder_97 : decode cX10_isOrder 97 = .ok (.bipush 10, 2) := da9_dX10_isOrder_80.2.2.2.2.2.2.2.2.2.2.1
theorem dX10_isOrder_99 : decode cX10_isOrder 99 = .ok (.idiv, 1) := da9_dX10_isOrder_80.2.2.2.2.2.2.2.2.2.2.2.1
theorem dX10_isOrder_100 : decode cX10_isOrder 100 = .ok (.istore_n 2, 1) := da9_dX10_isOrder_80.2.2.2.2.2.2.2.2.2.2.2.2.1
theorem dX10_isOrder_101 : decode cX10_isOrder 101 = .ok (.iinc 5 (-1), 3) := da9_dX10_isOrder_80.2.2.2.2.2.2.2.2.2.2.2.2.2.1
theorem dX10_isOrder_104 : decode cX10_isOrder 104 = .ok (.goto (-81), 3) := da9_dX10_isOrder_80.2.2.2.2.2.2.2.2.2.2.2.2.2.2.1
theorem dX10_isOrder_107 : decode cX10_isOrder 107 = .ok (.iload 4, 2) := da9_dX10_isOrder_80.2.2.2.2.2.2.2.2.2.2.2.2.2.2.2
theorem da9_dX10_isOrder_109 : (decode cX10_isOrder 109 = .ok (.ifCond .eq 11, 3)) ∧ (decode cX10_isOrder 112 = .ok (.iload_n 2, 1)) ∧ (decode cX10_isOrder 113 = .ok (.ifCond .ne 7, 3)) ∧ (decode cX10_isOrder 116 = .ok (.iconst 1, 1)) ∧ (decode cX10_isOrder 117 = .ok (.goto 4, 3)) ∧ (decode cX10_isOrder 120 = .ok (.iconst 0, 1)) ∧ (decode cX10_isOrder 121 = .ok (.ireturn, 1)) := by decide +kernel
theorem dX10_isOrder_109 : decode cX10_isOrder 109 = .ok (.ifCond .eq 11, 3) := da9_dX10_isOrder_109.1
theorem dX10_isOrder_112 : decode cX10_isOrder 112 = .ok (.iload_n 2, 1) := da9_dX10_isOrder_109.2.1
theorem dX10_isOrder_113 : decode cX10_isOrder 113 = .ok (.ifCond .ne 7, 3) := da9_dX10_isOrder_109.2.2.1
theorem dX10_isOrder_116 : decode cX10_isOrder 116 = .ok (.iconst 1, 1) := da9_dX10_isOrder_109.2.2.2.1
theorem dX10_isOrder_117 : decode cX10_isOrder 117 = .ok (.goto 4, 3) := da9_dX10_isOrder_109.2.2.2.2.1
theorem dX10_isOrder_120 : decode cX10_isOrder 120 = .ok (.iconst 0, 1) := da9_dX10_isOrder_109.2.2.2.2.2.1
theorem dX10_isOrder_121 : decode cX10_isOrder 121 = .ok (.ireturn, 1) := da9_dX10_isOrder_109.2.2.2.2.2.2
set_option maxRecDepth 20000 in
theorem ggX10_comes_X10_isOrder : GoodIn wsX10_comes wsX10_isOrder := goodIn_r _ [8, 9, 10, 11, 12, 7, 13, 14, 15, 16, 17, 18, 19, 20, 21, 22, 23, 24, 25, 169, 170, 171, 172, 173, 174, 175, 176, 177, 178, 179, 180, 181, 182, 183, 184, 185, 186, 187, 188, 189, 190, 191, 192, 193, 194, 195, 196, 197, 198, 199, 200, 201, 202, 203, 204, 205, 206, 207, 208, 209, 210, 211, 212, 213, 214, 215, 216, 217, 218, 219, 220, 221, 222, 223, 224] rfl (by decide +kernel)
set_option maxRecDepth 20000 in
theorem gX10_comes_X10_isOrder : GoodIn wsX10_comes (wsV RX10 445 RX10 yX10_isOrder wsX10_isOrder) := goodIn_app (goodIn_of _ (by decide +kernel)) ggX10_comes_X10_isOrder
set_option maxRecDepth 20000 in
theorem ggX10_comes_X10_numberOf : GoodIn wsX10_comes wsX10_numberOf := goodIn_r _ [29, 9, 10, 11, 12, 7, 13, 14, 169, 170, 171, 172, 173, 174, 175, 176, 177, 178, 179, 180, 181, 182, 183, 184, 185, 186, 187, 188, 189, 190, 191, 192, 193, 194, 195, 196, 197, 198, 199, 200, 201, 202, 203, 204, 205, 206, 207, 208, 209, 210, 211, 212, 213, 214, 215, 216, 217, 218, 219, 220, 221, 222, 223, 224] rfl (by decide +kernel)
set_option maxRecDepth 20000 in
theorem gX10_comes_X10_numberOf : GoodIn wsX10_comes (wsV RX10 395 RX10 yX10_numberOf wsX10_numberOf) := goodIn_app (goodIn_of _ (by decide +kernel)) ggX10_comes_X10_numberOf
set_option maxRecDepth 20000 in
theorem ggX10_comes_X10_laysReach : GoodIn wsX10_comes wsX10_laysReach := goodIn_r _ [33, 34, 3, 1, 35, 36, 37, 38, 7, 39, 40, 41, 42, 43, 44, 2, 9, 45, 46, 47, 10, 11, 12, 13, 14, 48, 49, 50, 51, 52, 53, 54, 19, 20, 21, 26, 27, 28, 29, 55, 56, 57, 58, 59, 60, 61, 62, 22, 23, 24, 25, 63, 64, 65, 66, 67, 68, 69, 70, 71, 72, 73, 74, 75, 76, 77, 78, 79, 80, 81, 82, 83, 84, 85, 86, 87, 88, 89, 90, 91, 92, 93, 94, 95, 96, 97, 98, 99, 100, 101, 102, 103, 104, 105, 106, 107, 108, 109, 110, 111, 112, 113, 114, 115, 116, 117, 118, 119, 120, 121, 122, 123, 124, 125, 126, 127, 128, 129, 130, 131, 132, 133, 134, 135, 136, 137, 138, 139, 140, 141, 142, 143, 144, 145, 146, 147, 148, 149, 150, 151, 152, 153, 154, 155, 156, 157, 158, 159, 160, 161, 162, 163, 164, 165, 169, 170, 171, 172, 173, 174, 175, 176, 177, 178, 179, 180, 181, 182, 183, 184, 185, 186, 187, 188, 189, 190, 191, 192, 193, 194, 195, 196, 197, 198, 199, 200, 201, 202, 203, 204, 205, 206, 207, 208, 209, 210, 211, 212, 213, 214, 215, 216, 217, 218, 219, 220, 221, 222, 223, 224] rfl (by decide +kernel)
set_option maxRecDepth 20000 in
theorem gX10_comes_X10_laysReach : GoodIn wsX10_comes (wsV RX10 442 RX10 yX10_laysReach wsX10_laysReach) := goodIn_app (goodIn_of _ (by decide +kernel)) ggX10_comes_X10_laysReach
set_option maxRecDepth 20000 in
theorem ggX10_comes_X10_lesser : GoodIn wsX10_comes wsX10_lesser := goodIn_r _ [168] rfl (by decide +kernel)
set_option maxRecDepth 20000 in
theorem gX10_comes_X10_lesser : GoodIn wsX10_comes (va_wsS RX10 350 yX10_lesser wsX10_lesser) := goodIn_app (goodIn_of _ (by decide +kernel)) ggX10_comes_X10_lesser
theorem da9_dX10_comes_0 : (decode cX10_comes 0 = .ok (.aload_n 0, 1)) ∧ (decode cX10_comes 1 = .ok (.iload_n 1, 1)) ∧ (decode cX10_comes 2 = .ok (.invokevirtual 445, 3)) ∧ (decode cX10_comes 5 = .ok (.ifCond .ne 5, 3)) ∧ (decode cX10_comes 8 = .ok (.iconst (-1), 1)) ∧ (decode cX10_comes 9 = .ok (.ireturn, 1)) ∧ (decode cX10_comes 10 = .ok (.aload_n 0, 1)) ∧ (decode cX10_comes 11 = .ok (.invokevirtual 395, 3)) ∧ (decode cX10_comes 14 = .ok (.istore_n 2, 1)) ∧ (decode cX10_comes 15 = .ok (.aload_n 0, 1)) ∧ (decode cX10_comes 16 = .ok (.invokevirtual 442, 3)) ∧ (decode cX10_comes 19 = .ok (.pop, 1)) ∧ (decode cX10_comes 20 = .ok (.ldc 188, 2)) ∧ (decode cX10_comes 22 = .ok (.istore_n 3, 1)) ∧ (decode cX10_comes 23 = .ok (.iconst 0, 1)) ∧ (decode cX10_comes 24 = .ok (.istore 4, 2)) := by decide +kernel
theorem dX10_comes_0 : decode cX10_comes 0 = .ok (.aload_n 0, 1) := da9_dX10_comes_0.1
theorem dX10_comes_1 : decode cX10_comes 1 = .ok (.iload_n 1, 1) := da9_dX10_comes_0.2.1
theorem dX10_comes_2 : decode cX10_comes 2 = .ok (.invokevirtual 445, 3) := da9_dX10_comes_0.2.2.1
theorem dX10_comes_5 : decode cX10_comes 5 = .ok (.ifCond .ne 5, 3) := da9_dX10_comes_0.2.2.2.1
theorem dX10_comes_8 : decode cX10_comes 8 = .ok (.iconst (-1), 1) := da9_dX10_comes_0.2.2.2.2.1
theorem dX10_comes_9 : decode cX10_comes 9 = .ok (.ireturn, 1) := da9_dX10_comes_0.2.2.2.2.2.1
theorem dX10_comes_10 : decode cX10_comes 10 = .ok (.aload_n 0, 1) := da9_dX10_comes_0.2.2.2.2.2.2.1
theorem dX10_comes_11 : decode cX10_comes 11 = .ok (.invokevirtual 395, 3) := da9_dX10_comes_0.2.2.2.2.2.2.2.1
theorem dX10_comes_14 : decode cX10_comes 14 = .ok (.istore_n 2, 1) := da9_dX10_comes_0.2.2.2.2.2.2.2.2.1
theorem dX10_comes_15 : decode cX10_comes 15 = .ok (.aload_n 0, 1) := da9_dX10_comes_0.2.2.2.2.2.2.2.2.2.1
theorem dX10_comes_16 : decode cX10_comes 16 = .ok (.invokevirtual 442, 3) := da9_dX10_comes_0.2.2.2.2.2.2.2.2.2.2.1
theorem dX10_comes_19 : decode cX10_comes 19 = .ok (.pop, 1) := da9_dX10_comes_0.2.2.2.2.2.2.2.2.2.2.2.1
theorem dX10_comes_20 : decode cX10_comes 20 = .ok (.ldc 188, 2) := da9_dX10_comes_0.2.2.2.2.2.2.2.2.2.2.2.2.1
theorem dX10_comes_22 : decode cX10_comes 22 = .ok (.istore_n 3, 1) := da9_dX10_comes_0.2.2.2.2.2.2.2.2.2.2.2.2.2.1
theorem dX10_comes_23 : decode cX10_comes 23 = .ok (.iconst 0, 1) := da9_dX10_comes_0.2.2.2.2.2.2.2.2.2.2.2.2.2.2.1
theorem dX10_comes_24 : decode cX10_comes 24 = .ok (.istore 4, 2) := da9_dX10_comes_0.2.2.2.2.2.2.2.2.2.2.2.2.2.2.2
theorem da9_dX10_comes_26 : (decode cX10_comes 26 = .ok (.iload 4, 2)) ∧ (decode cX10_comes 28 = .ok (.aload_n 0, 1)) ∧ (decode cX10_comes 29 = .ok (.getfield 389, 3)) ∧ (decode cX10_comes 32 = .ok (.if_icmp .ge 26, 3)) ∧ (decode cX10_comes 35 = .ok (.iload_n 3, 1)) ∧ (decode cX10_comes 36 = .ok (.aload_n 0, 1)) ∧ (decode cX10_comes 37 = .ok (.getfield 91, 3)) ∧ (decode cX10_comes 40 = .ok (.bipush 64, 2)) ∧ (decode cX10_comes 42 = .ok (.iload_n 2, 1)) ∧ (decode cX10_comes 43 = .ok (.imul, 1)) ∧ (decode cX10_comes 44 = .ok (.iload 4, 2)) ∧ (decode cX10_comes 46 = .ok (.iadd, 1)) ∧ (decode cX10_comes 47 = .ok (.iaload, 1)) ∧ (decode cX10_comes 48 = .ok (.invokestatic 350, 3)) ∧ (decode cX10_comes 51 = .ok (.istore_n 3, 1)) ∧ (decode cX10_comes 52 = .ok (.iinc 4 1, 3)) := by decide +kernel
theorem dX10_comes_26 : decode cX10_comes 26 = .ok (.iload 4, 2) := da9_dX10_comes_26.1
theorem dX10_comes_28 : decode cX10_comes 28 = .ok (.aload_n 0, 1) := da9_dX10_comes_26.2.1
theorem dX10_comes_29 : decode cX10_comes 29 = .ok (.getfield 389, 3) := da9_dX10_comes_26.2.2.1
theorem dX10_comes_32 : decode cX10_comes 32 = .ok (.if_icmp .ge 26, 3) := da9_dX10_comes_26.2.2.2.1
theorem dX10_comes_35 : decode cX10_comes 35 = .ok (.iload_n 3, 1) := da9_dX10_comes_26.2.2.2.2.1
theorem dX10_comes_36 : decode cX10_comes 36 = .ok (.aload_n 0, 1) := da9_dX10_comes_26.2.2.2.2.2.1
theorem dX10_comes_37 : decode cX10_comes 37 = .ok (.getfield 91, 3) := da9_dX10_comes_26.2.2.2.2.2.2.1
theorem dX10_comes_40 : decode cX10_comes 40 = .ok (.bipush 64, 2) := da9_dX10_comes_26.2.2.2.2.2.2.2.1
theorem dX10_comes_42 : decode cX10_comes 42 = .ok (.iload_n 2, 1) := da9_dX10_comes_26.2.2.2.2.2.2.2.2.1
theorem dX10_comes_43 : decode cX10_comes 43 = .ok (.imul, 1) := da9_dX10_comes_26.2.2.2.2.2.2.2.2.2.1
theorem dX10_comes_44 : decode cX10_comes 44 = .ok (.iload 4, 2) := da9_dX10_comes_26.2.2.2.2.2.2.2.2.2.2.1
theorem dX10_comes_46 : decode cX10_comes 46 = .ok (.iadd, 1) := da9_dX10_comes_26.2.2.2.2.2.2.2.2.2.2.2.1
theorem dX10_comes_47 : decode cX10_comes 47 = .ok (.iaload, 1) := da9_dX10_comes_26.2.2.2.2.2.2.2.2.2.2.2.2.1
theorem dX10_comes_48 : decode cX10_comes 48 = .ok (.invokestatic 350, 3) := da9_dX10_comes_26.2.2.2.2.2.2.2.2.2.2.2.2.2.1
theorem dX10_comes_51 : decode cX10_comes 51 = .ok (.istore_n 3, 1) := da9_dX10_comes_26.2.2.2.2.2.2.2.2.2.2.2.2.2.2.1
theorem dX10_comes_52 : decode cX10_comes 52 = .ok (.iinc 4 1, 3) := da9_dX10_comes_26.2.2.2.2.2.2.2.2.2.2.2.2.2.2.2
theorem da9_dX10_comes_55 : (decode cX10_comes 55 = .ok (.goto (-29), 3)) ∧ (decode cX10_comes 58 = .ok (.iload_n 3, 1)) ∧ (decode cX10_comes 59 = .ok (.ldc 188, 2)) ∧ (decode cX10_comes 61 = .ok (.if_icmp .ne 7, 3)) ∧ (decode cX10_comes 64 = .ok (.iconst (-1), 1)) ∧ (decode cX10_comes 65 = .ok (.goto 4, 3)) ∧ (decode cX10_comes 68 = .ok (.iload_n 3, 1)) ∧ (decode cX10_comes 69 = .ok (.ireturn, 1)) := by decide +kernel
theorem dX10_comes_55 : decode cX10_comes 55 = .ok (.goto (-29), 3) := da9_dX10_comes_55.1
theorem dX10_comes_58 : decode cX10_comes 58 = .ok (.iload_n 3, 1) := da9_dX10_comes_55.2.1
theorem dX10_comes_59 : decode cX10_comes 59 = .ok (.ldc 188, 2) := da9_dX10_comes_55.2.2.1
theorem dX10_comes_61 : decode cX10_comes 61 = .ok (.if_icmp .ne 7, 3) := da9_dX10_comes_55.2.2.2.1
theorem dX10_comes_64 : decode cX10_comes 64 = .ok (.iconst (-1), 1) := da9_dX10_comes_55.2.2.2.2.1
theorem dX10_comes_65 : decode cX10_comes 65 = .ok (.goto 4, 3) := da9_dX10_comes_55.2.2.2.2.2.1
theorem dX10_comes_68 : decode cX10_comes 68 = .ok (.iload_n 3, 1) := da9_dX10_comes_55.2.2.2.2.2.2.1
theorem dX10_comes_69 : decode cX10_comes 69 = .ok (.ireturn, 1) := da9_dX10_comes_55.2.2.2.2.2.2.2
