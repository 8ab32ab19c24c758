set_option maxRecDepth 20000 in
theorem ggX4_readTimes_X4_fail : GoodIn wsX4_readTimes wsX4_fail := goodIn_r _ [8, 9, 10, 32, 33, 34, 35, 36, 37, 38, 39, 40, 41, 42] rfl (by decide +kernel)
set_option maxRecDepth 20000 in
theorem gX4_readTimes_X4_fail : GoodIn wsX4_readTimes (wsV RX4 62 RX4 yX4_fail wsX4_fail) := goodIn_app (goodIn_of _ (by decide +kernel)) ggX4_readTimes_X4_fail
set_option maxRecDepth 20000 in
theorem ggX4_readTimes_X7_setTimes : GoodIn wsX4_readTimes wsX7_setTimes := goodIn_r _ [15, 16, 17, 43, 44, 45, 46, 47, 48, 49, 50] rfl (by decide +kernel)
set_option maxRecDepth 20000 in
theorem gX4_readTimes_X7_setTimes : GoodIn wsX4_readTimes (wsV RX4 107 RX7 yX7_setTimes wsX7_setTimes) := goodIn_app (goodIn_of _ (by decide +kernel)) ggX4_readTimes_X7_setTimes
set_option maxRecDepth 20000 in
theorem ggX4_readTimes_X4_step : GoodIn wsX4_readTimes wsX4_step := goodIn_r _ [21, 9, 22, 10, 23, 24, 2, 1, 25, 26, 27, 28, 29, 30, 7, 31, 32, 33, 34, 35, 36, 37, 38, 39, 40, 41, 42] rfl (by decide +kernel)
set_option maxRecDepth 20000 in
theorem gX4_readTimes_X4_step : GoodIn wsX4_readTimes (wsV RX4 59 RX4 yX4_step wsX4_step) := goodIn_app (goodIn_of _ (by decide +kernel)) ggX4_readTimes_X4_step
theorem da9_dX4_readTimes_0 : (decode cX4_readTimes 0 = .ok (.aload_n 0, 1)) ∧ (decode cX4_readTimes 1 = .ok (.getfield 27, 3)) ∧ (decode cX4_readTimes 4 = .ok (.iconst 2, 1)) ∧ (decode cX4_readTimes 5 = .ok (.if_icmp .ne 20, 3)) ∧ (decode cX4_readTimes 8 = .ok (.aload_n 0, 1)) ∧ (decode cX4_readTimes 9 = .ok (.getfield 36, 3)) ∧ (decode cX4_readTimes 12 = .ok (.iconst 1, 1)) ∧ (decode cX4_readTimes 13 = .ok (.if_icmp .lt 12, 3)) ∧ (decode cX4_readTimes 16 = .ok (.aload_n 0, 1)) ∧ (decode cX4_readTimes 17 = .ok (.getfield 36, 3)) ∧ (decode cX4_readTimes 20 = .ok (.bipush 20, 2)) ∧ (decode cX4_readTimes 22 = .ok (.if_icmp .le 8, 3)) ∧ (decode cX4_readTimes 25 = .ok (.aload_n 0, 1)) ∧ (decode cX4_readTimes 26 = .ok (.invokevirtual 62, 3)) ∧ (decode cX4_readTimes 29 = .ok (.return_, 1)) ∧ (decode cX4_readTimes 30 = .ok (.aload_n 0, 1)) := by decide +kernel
theorem dX4_readTimes_0 : decode cX4_readTimes 0 = .ok (.aload_n 0, 1) := da9_dX4_readTimes_0.1
theorem dX4_readTimes_1 : decode cX4_readTimes 1 = .ok (.getfield 27, 3) := da9_dX4_readTimes_0.2.1
theorem dX4_readTimes_4 : decode cX4_readTimes 4 = .ok (.iconst 2, 1) := da9_dX4_readTimes_0.2.2.1
theorem dX4_readTimes_5 : decode cX4_readTimes 5 = .ok (.if_icmp .ne 20, 3) := da9_dX4_readTimes_0.2.2.2.1
theorem dX4_readTimes_8 : decode cX4_readTimes 8 = .ok (.aload_n 0, 1) := da9_dX4_readTimes_0.2.2.2.2.1
theorem dX4_readTimes_9 : decode cX4_readTimes 9 = .ok (.getfield 36, 3) := da9_dX4_readTimes_0.2.2.2.2.2.1
theorem dX4_readTimes_12 : decode cX4_readTimes 12 = .ok (.iconst 1, 1) := da9_dX4_readTimes_0.2.2.2.2.2.2.1
theorem dX4_readTimes_13 : decode cX4_readTimes 13 = .ok (.if_icmp .lt 12, 3) := da9_dX4_readTimes_0.2.2.2.2.2.2.2.1
theorem dX4_readTimes_16 : decode cX4_readTimes 16 = .ok (.aload_n 0, 1) := da9_dX4_readTimes_0.2.2.2.2.2.2.2.2.1
theorem dX4_readTimes_17 : decode cX4_readTimes 17 = .ok (.getfield 36, 3) := da9_dX4_readTimes_0.2.2.2.2.2.2.2.2.2.1
theorem dX4_readTimes_20 : decode cX4_readTimes 20 = .ok (.bipush 20, 2) := da9_dX4_readTimes_0.2.2.2.2.2.2.2.2.2.2.1
theorem dX4_readTimes_22 : decode cX4_readTimes 22 = .ok (.if_icmp .le 8, 3) := da9_dX4_readTimes_0.2.2.2.2.2.2.2.2.2.2.2.1
theorem dX4_readTimes_25 : decode cX4_readTimes 25 = .ok (.aload_n 0, 1) := da9_dX4_readTimes_0.2.2.2.2.2.2.2.2.2.2.2.2.1
theorem dX4_readTimes_26 : decode cX4_readTimes 26 = .ok (.invokevirtual 62, 3) := da9_dX4_readTimes_0.2.2.2.2.2.2.2.2.2.2.2.2.2.1
theorem dX4_readTimes_29 : decode cX4_readTimes 29 = .ok (.return_, 1) := da9_dX4_readTimes_0.2.2.2.2.2.2.2.2.2.2.2.2.2.2.1
theorem dX4_readTimes_30 : decode cX4_readTimes 30 = .ok (.aload_n 0, 1) := da9_dX4_readTimes_0.2.2.2.2.2.2.2.2.2.2.2.2.2.2.2
theorem da9_dX4_readTimes_31 : (decode cX4_readTimes 31 = .ok (.getfield 23, 3)) ∧ (decode cX4_readTimes 34 = .ok (.aload_n 0, 1)) ∧ (decode cX4_readTimes 35 = .ok (.getfield 36, 3)) ∧ (decode cX4_readTimes 38 = .ok (.invokevirtual 107, 3)) ∧ (decode cX4_readTimes 41 = .ok (.aload_n 0, 1)) ∧ (decode cX4_readTimes 42 = .ok (.invokevirtual 59, 3)) ∧ (decode cX4_readTimes 45 = .ok (.return_, 1)) := by decide +kernel
theorem dX4_readTimes_31 : decode cX4_readTimes 31 = .ok (.getfield 23, 3) := da9_dX4_readTimes_31.1
theorem dX4_readTimes_34 : decode cX4_readTimes 34 = .ok (.aload_n 0, 1) := da9_dX4_readTimes_31.2.1
theorem dX4_readTimes_35 : decode cX4_readTimes 35 = .ok (.getfield 36, 3) := da9_dX4_readTimes_31.2.2.1
theorem dX4_readTimes_38 : decode cX4_readTimes 38 = .ok (.invokevirtual 107, 3) := da9_dX4_readTimes_31.2.2.2.1
theorem dX4_readTimes_41 : decode cX4_readTimes 41 = .ok (.aload_n 0, 1) := da9_dX4_readTimes_31.2.2.2.2.1
theorem dX4_readTimes_42 : decode cX4_readTimes 42 = .ok (.invokevirtual 59, 3) := da9_dX4_readTimes_31.2.2.2.2.2.1
theorem dX4_readTimes_45 : decode cX4_readTimes 45 = .ok (.return_, 1) := da9_dX4_readTimes_31.2.2.2.2.2.2
set_option maxRecDepth 20000 in
theorem ggX4_readSum_X4_readTerm : GoodIn wsX4_readSum wsX4_readTerm := goodIn_r _ [119, 1, 2, 3, 120, 121, 122, 7, 8, 9, 10, 11, 12, 13, 14, 15, 16, 17, 18, 19, 20, 21, 22, 23, 24, 25, 26, 27, 28, 29, 30, 31, 32, 33, 34, 35, 36, 37, 38, 39, 40, 41, 42, 43, 44, 45, 46, 47, 48, 49, 50, 51, 52, 53, 54, 55, 56, 57, 58, 59, 60, 61, 62, 63, 64, 65, 66, 67, 68, 69, 70, 71, 72, 73, 74, 75, 76, 77, 78, 79, 80, 81, 82, 83, 84, 85, 86, 87, 88, 89, 90, 91, 92, 93, 94, 95, 96, 97, 98, 99, 100, 101, 102, 103, 104, 105, 106, 107, 108, 109, 110, 111, 112, 113, 114, 115, 116, 117, 118, 0, 4, 5, 6, 123, 124, 125, 126, 127, 128, 129, 130, 131, 132, 133, 134, 135, 136, 137, 138, 139, 140, 141] rfl (by decide +kernel)
set_option maxRecDepth 20000 in
theorem gX4_readSum_X4_readTerm : GoodIn wsX4_readSum (wsV RX4 144 RX4 yX4_readTerm wsX4_readTerm) := goodIn_app (goodIn_of _ (by decide +kernel)) ggX4_readSum_X4_readTerm
set_option maxRecDepth 20000 in
theorem ggX4_readSum_X4_signIn : GoodIn wsX4_readSum wsX4_signIn := goodIn_r _ [11, 12, 13, 14, 15, 16, 17, 18, 19, 20, 21, 22, 23, 24, 25, 26, 27, 28, 29, 30, 31, 32, 33, 34, 35, 36, 37, 38, 39, 40, 41, 42, 43, 44, 45, 46, 47, 48, 49, 50, 51, 52, 53, 54, 55, 56, 57, 58, 59, 60, 61, 62, 63, 7, 64, 65, 66, 1, 67, 123, 124, 125, 126, 127, 128, 129, 130, 131, 132, 133] rfl (by decide +kernel)
set_option maxRecDepth 20000 in
theorem gX4_readSum_X4_signIn : GoodIn wsX4_readSum (wsV RX4 140 RX4 yX4_signIn wsX4_signIn) := goodIn_app (goodIn_of _ (by decide +kernel)) ggX4_readSum_X4_signIn
set_option maxRecDepth 20000 in
theorem ggX4_readSum_X4_step : GoodIn wsX4_readSum wsX4_step := goodIn_r _ [71, 2, 72, 66, 1, 67, 73, 65, 74, 75, 76, 77, 78, 79, 7, 80, 123, 124, 125, 126, 127, 128, 129, 130, 131, 132, 133] rfl (by decide +kernel)
set_option maxRecDepth 20000 in
theorem gX4_readSum_X4_step : GoodIn wsX4_readSum (wsV RX4 59 RX4 yX4_step wsX4_step) := goodIn_app (goodIn_of _ (by decide +kernel)) ggX4_readSum_X4_step
set_option maxRecDepth 20000 in
theorem ggX4_readSum_X7_emit : GoodIn wsX4_readSum wsX7_emit := goodIn_r _ [85, 86, 87, 134, 135, 136, 137, 138, 139, 140, 141] rfl (by decide +kernel)
set_option maxRecDepth 20000 in
theorem gX4_readSum_X7_emit : GoodIn wsX4_readSum (wsV RX4 116 RX7 yX7_emit wsX7_emit) := goodIn_app (goodIn_of _ (by decide +kernel)) ggX4_readSum_X7_emit
theorem da9_dX4_readSum_0 : (decode cX4_readSum 0 = .ok (.aload_n 0, 1)) ∧ (decode cX4_readSum 1 = .ok (.invokevirtual 144, 3)) ∧ (decode cX4_readSum 4 = .ok (.iconst 0, 1)) ∧ (decode cX4_readSum 5 = .ok (.istore_n 1, 1)) ∧ (decode cX4_readSum 6 = .ok (.iload_n 1, 1)) ∧ (decode cX4_readSum 7 = .ok (.aload_n 0, 1)) ∧ (decode cX4_readSum 8 = .ok (.getfield 15, 3)) ∧ (decode cX4_readSum 11 = .ok (.if_icmp .ge 48, 3)) ∧ (decode cX4_readSum 14 = .ok (.aload_n 0, 1)) ∧ (decode cX4_readSum 15 = .ok (.getfield 45, 3)) ∧ (decode cX4_readSum 18 = .ok (.iconst (-1), 1)) ∧ (decode cX4_readSum 19 = .ok (.if_icmp .ne 40, 3)) ∧ (decode cX4_readSum 22 = .ok (.aload_n 0, 1)) ∧ (decode cX4_readSum 23 = .ok (.ldc 147, 2)) ∧ (decode cX4_readSum 25 = .ok (.iconst 2, 1)) ∧ (decode cX4_readSum 26 = .ok (.invokevirtual 140, 3)) := by decide +kernel
theorem dX4_readSum_0 : decode cX4_readSum 0 = .ok (.aload_n 0, 1) := da9_dX4_readSum_0.1
theorem dX4_readSum_1 : decode cX4_readSum 1 = .ok (.invokevirtual 144, 3) := da9_dX4_readSum_0.2.1
theorem dX4_readSum_4 : decode cX4_readSum 4 = .ok (.iconst 0, 1) := da9_dX4_readSum_0.2.2.1
theorem dX4_readSum_5 : decode cX4_readSum 5 = .ok (.istore_n 1, 1) := da9_dX4_readSum_0.2.2.2.1
theorem dX4_readSum_6 : decode cX4_readSum 6 = .ok (.iload_n 1, 1) := da9_dX4_readSum_0.2.2.2.2.1
theorem dX4_readSum_7 : decode cX4_readSum 7 = .ok (.aload_n 0, 1) := da9_dX4_readSum_0.2.2.2.2.2.1
theorem dX4_readSum_8 : decode cX4_readSum 8 = .ok (.getfield 15, 3) := da9_dX4_readSum_0.2.2.2.2.2.2.1
theorem dX4_readSum_11 : decode cX4_readSum 11 = .ok (.if_icmp .ge 48, 3) := da9_dX4_readSum_0.2.2.2.2.2.2.2.1
theorem dX4_readSum_14 : decode cX4_readSum 14 = .ok (.aload_n 0, 1) := da9_dX4_readSum_0.2.2.2.2.2.2.2.2.1
theorem dX4_readSum_15 : decode cX4_readSum 15 = .ok (.getfield 45, 3) := da9_dX4_readSum_0.2.2.2.2.2.2.2.2.2.1
theorem dX4_readSum_18 : decode cX4_readSum 18 = .ok (.iconst (-1), 1) := da9_dX4_readSum_0.2.2.2.2.2.2.2.2.2.2.1
theorem dX4_readSum_19 : decode cX4_readSum 19 = .ok (.if_icmp .ne 40, 3) := da9_dX4_readSum_0.2.2.2.2.2.2.2.2.2.2.2.1
theorem dX4_readSum_22 : decode cX4_readSum 22 = .ok (.aload_n 0, 1) := da9_dX4_readSum_0.2.2.2.2.2.2.2.2.2.2.2.2.1
theorem dX4_readSum_23 : decode cX4_readSum 23 = .ok (.ldc 147, 2) := da9_dX4_readSum_0.2.2.2.2.2.2.2.2.2.2.2.2.2.1
theorem dX4_readSum_25 : decode cX4_readSum 25 = .ok (.iconst 2, 1) := da9_dX4_readSum_0.2.2.2.2.2.2.2.2.2.2.2.2.2.2.1
theorem dX4_readSum_26 : decode cX4_readSum 26 = .ok (.invokevirtual 140, 3) := da9_dX4_readSum_0.2.2.2.2.2.2.2.2.2.2.2.2.2.2.2
theorem da9_dX4_readSum_29 : (decode cX4_readSum 29 = .ok (.istore_n 2, 1)) ∧ (decode cX4_readSum 30 = .ok (.iload_n 2, 1)) ∧ (decode cX4_readSum 31 = .ok (.iconst (-1), 1)) ∧ (decode cX4_readSum 32 = .ok (.if_icmp .ne 4, 3)) ∧ (decode cX4_readSum 35 = .ok (.return_, 1)) ∧ (decode cX4_readSum 36 = .ok (.aload_n 0, 1)) ∧ (decode cX4_readSum 37 = .ok (.invokevirtual 59, 3)) ∧ (decode cX4_readSum 40 = .ok (.aload_n 0, 1)) ∧ (decode cX4_readSum 41 = .ok (.invokevirtual 144, 3)) ∧ (decode cX4_readSum 44 = .ok (.aload_n 0, 1)) ∧ (decode cX4_readSum 45 = .ok (.getfield 23, 3)) ∧ (decode cX4_readSum 48 = .ok (.iload_n 2, 1)) ∧ (decode cX4_readSum 49 = .ok (.iconst 0, 1)) ∧ (decode cX4_readSum 50 = .ok (.invokevirtual 116, 3)) ∧ (decode cX4_readSum 53 = .ok (.iinc 1 1, 3)) ∧ (decode cX4_readSum 56 = .ok (.goto (-50), 3)) := by decide +kernel
theorem dX4_readSum_29 : decode cX4_readSum 29 = .ok (.istore_n 2, 1) := da9_dX4_readSum_29.1
theorem dX4_readSum_30 : decode cX4_readSum 30 = .ok (.iload_n 2, 1) := da9_dX4_readSum_29.2.1
theorem dX4_readSum_31 : decode cX4_readSum 31 = .ok (.iconst (-1), 1) := da9_dX4_readSum_29.2.2.1
theorem dX4_readSum_32 : decode cX4_readSum 32 = .ok (.if_icmp .ne 4, 3) := da9_dX4_readSum_29.2.2.2.1
theorem dX4_readSum_35 : decode cX4_readSum 35 = .ok (.return_, 1) := da9_dX4_readSum_29.2.2.2.2.1
theorem dX4_readSum_36 : decode cX4_readSum 36 = .ok (.aload_n 0, 1) := da9_dX4_readSum_29.2.2.2.2.2.1
theorem dX4_readSum_37 : decode cX4_readSum 37 = .ok (.invokevirtual 59, 3) := da9_dX4_readSum_29.2.2.2.2.2.2.1
theorem dX4_readSum_40 : decode cX4_readSum 40 = .ok (.aload_n 0, 1) := da9_dX4_readSum_29.2.2.2.2.2.2.2.1
theorem dX4_readSum_41 : decode cX4_readSum 41 = .ok (.invokevirtual 144, 3) := da9_dX4_readSum_29.2.2.2.2.2.2.2.2.1
theorem dX4_readSum_44 : decode cX4_readSum 44 = .ok (.aload_n 0, 1) := da9_dX4_readSum_29.2.2.2.2.2.2.2.2.2.1
theorem dX4_readSum_45 : decode cX4_readSum 45 = .ok (.getfield 23, 3) := da9_dX4_readSum_29.2.2.2.2.2.2.2.2.2.2.1
theorem dX4_readSum_48 : decode cX4_readSum 48 = .ok (.iload_n 2, 1) := da9_dX4_readSum_29.2.2.2.2.2.2.2.2.2.2.2.1
theorem dX4_readSum_49 : decode cX4_readSum 49 = .ok (.iconst 0, 1) := da9_dX4_readSum_29.2.2.2.2.2.2.2.2.2.2.2.2.1
theorem dX4_readSum_50 : decode cX4_readSum 50 = .ok (.invokevirtual 116, 3) := da9_dX4_readSum_29.2.2.2.2.2.2.2.2.2.2.2.2.2.1
theorem dX4_readSum_53 : decode cX4_readSum 53 = .ok (.iinc 1 1, 3) := da9_dX4_readSum_29.2.2.2.2.2.2.2.2.2.2.2.2.2.2.1
theorem dX4_readSum_56 : decode cX4_readSum 56 = .ok (.goto (-50), 3) := da9_dX4_readSum_29.2.2.2.2.2.2.2.2.2.2.2.2.2.2.2
theorem dX4_readSum_59 : decode cX4_readSum 59 = .ok (.return_, 1) := by decide +kernel
set_option maxRecDepth 20000 in
theorem ggX4_isWord_J0_length_8abf5 : GoodIn wsX4_isWord wsJ0_length_8abf5 := goodIn_r _ [6, 7, 8, 9, 10, 5, 11, 12, 13] rfl (by decide +kernel)
set_option maxRecDepth 20000 in
theorem gX4_isWord_J0_length_8abf5 : GoodIn wsX4_isWord (wsV RX4 167 RJ0 yJ0_length_8abf5 wsJ0_length_8abf5) := goodIn_app (goodIn_of _ (by decide +kernel)) ggX4_isWord_J0_length_8abf5
set_option maxRecDepth 20000 in
theorem ggX4_isWord_X4_isSame : GoodIn wsX4_isWord wsX4_isSame := goodIn_r _ [18, 19, 20, 21, 22, 23, 24, 5, 25, 7, 26, 27, 28, 29, 12, 13, 30, 31, 32, 33, 34, 35, 36, 37, 38, 39, 40, 41, 42, 43, 44, 45, 46, 47, 48, 49, 50, 51, 52, 53, 54, 55, 56, 57, 58, 59, 60, 61, 62, 63, 64, 65, 66, 67, 68, 69] rfl (by decide +kernel)
set_option maxRecDepth 20000 in
theorem gX4_isWord_X4_isSame : GoodIn wsX4_isWord (wsV RX4 176 RX4 yX4_isSame wsX4_isSame) := goodIn_app (goodIn_of _ (by decide +kernel)) ggX4_isWord_X4_isSame
theorem da9_dX4_isWord_0 : (decode cX4_isWord 0 = .ok (.aload_n 0, 1)) ∧ (decode cX4_isWord 1 = .ok (.getfield 27, 3)) ∧ (decode cX4_isWord 4 = .ok (.iconst 1, 1)) ∧ (decode cX4_isWord 5 = .ok (.if_icmp .ne 20, 3)) ∧ (decode cX4_isWord 8 = .ok (.aload_n 0, 1)) ∧ (decode cX4_isWord 9 = .ok (.aload_n 1, 1)) ∧ (decode cX4_isWord 10 = .ok (.iconst 0, 1)) ∧ (decode cX4_isWord 11 = .ok (.aload_n 1, 1)) ∧ (decode cX4_isWord 12 = .ok (.invokevirtual 167, 3)) ∧ (decode cX4_isWord 15 = .ok (.invokevirtual 176, 3)) ∧ (decode cX4_isWord 18 = .ok (.ifCond .eq 7, 3)) ∧ (decode cX4_isWord 21 = .ok (.iconst 1, 1)) ∧ (decode cX4_isWord 22 = .ok (.goto 4, 3)) ∧ (decode cX4_isWord 25 = .ok (.iconst 0, 1)) ∧ (decode cX4_isWord 26 = .ok (.ireturn, 1)) := by decide +kernel
theorem dX4_isWord_0 : decode cX4_isWord 0 = .ok (.aload_n 0, 1) := da9_dX4_isWord_0.1
theorem dX4_isWord_1 : decode cX4_isWord 1 = .ok (.getfield 27, 3) := da9_dX4_isWord_0.2.1
theorem dX4_isWord_4 : decode cX4_isWord 4 = .ok (.iconst 1, 1) := da9_dX4_isWord_0.2.2.1
theorem dX4_isWord_5 : decode cX4_isWord 5 = .ok (.if_icmp .ne 20, 3) := da9_dX4_isWord_0.2.2.2.1
theorem dX4_isWord_8 : decode cX4_isWord 8 = .ok (.aload_n 0, 1) := da9_dX4_isWord_0.2.2.2.2.1
theorem dX4_isWord_9 : decode cX4_isWord 9 = .ok (.aload_n 1, 1) := da9_dX4_isWord_0.2.2.2.2.2.1
theorem dX4_isWord_10 : decode cX4_isWord 10 = .ok (.iconst 0, 1) := da9_dX4_isWord_0.2.2.2.2.2.2.1
theorem dX4_isWord_11 : decode cX4_isWord 11 = .ok (.aload_n 1, 1) := da9_dX4_isWord_0.2.2.2.2.2.2.2.1
theorem dX4_isWord_12 : decode cX4_isWord 12 = .ok (.invokevirtual 167, 3) := da9_dX4_isWord_0.2.2.2.2.2.2.2.2.1
theorem dX4_isWord_15 : decode cX4_isWord 15 = .ok (.invokevirtual 176, 3) := da9_dX4_isWord_0.2.2.2.2.2.2.2.2.2.1
theorem dX4_isWord_18 : decode cX4_isWord 18 = .ok (.ifCond .eq 7, 3) := da9_dX4_isWord_0.2.2.2.2.2.2.2.2.2.2.1
theorem dX4_isWord_21 : decode cX4_isWord 21 = .ok (.iconst 1, 1) := da9_dX4_isWord_0.2.2.2.2.2.2.2.2.2.2.2.1
theorem dX4_isWord_22 : decode cX4_isWord 22 = .ok (.goto 4, 3) := da9_dX4_isWord_0.2.2.2.2.2.2.2.2.2.2.2.2.1
theorem dX4_isWord_25 : decode cX4_isWord 25 = .ok (.iconst 0, 1) := da9_dX4_isWord_0.2.2.2.2.2.2.2.2.2.2.2.2.2.1
theorem dX4_isWord_26 : decode cX4_isWord 26 = .ok (.ireturn, 1) := da9_dX4_isWord_0.2.2.2.2.2.2.2.2.2.2.2.2.2.2
theorem da9_dX7_endSum_0 : (decode cX7_endSum 0 = .ok (.aload_n 0, 1)) ∧ (decode cX7_endSum 1 = .ok (.getfield 7, 3)) ∧ (decode cX7_endSum 4 = .ok (.ifCond .le 33, 3)) ∧ (decode cX7_endSum 7 = .ok (.aload_n 0, 1)) ∧ (decode cX7_endSum 8 = .ok (.getfield 26, 3)) ∧ (decode cX7_endSum 11 = .ok (.aload_n 0, 1)) ∧ (decode cX7_endSum 12 = .ok (.getfield 7, 3)) ∧ (decode cX7_endSum 15 = .ok (.iconst 1, 1)) ∧ (decode cX7_endSum 16 = .ok (.isub, 1)) ∧ (decode cX7_endSum 17 = .ok (.aload_n 0, 1)) ∧ (decode cX7_endSum 18 = .ok (.getfield 13, 3)) ∧ (decode cX7_endSum 21 = .ok (.iastore, 1)) ∧ (decode cX7_endSum 22 = .ok (.aload_n 0, 1)) ∧ (decode cX7_endSum 23 = .ok (.getfield 29, 3)) ∧ (decode cX7_endSum 26 = .ok (.aload_n 0, 1)) ∧ (decode cX7_endSum 27 = .ok (.getfield 7, 3)) := by decide +kernel
theorem dX7_endSum_0 : decode cX7_endSum 0 = .ok (.aload_n 0, 1) := da9_dX7_endSum_0.1
theorem dX7_endSum_1 : decode cX7_endSum 1 = .ok (.getfield 7, 3) := da9_dX7_endSum_0.2.1
theorem dX7_endSum_4 : decode cX7_endSum 4 = .ok (.ifCond .le 33, 3) := da9_dX7_endSum_0.2.2.1
theorem dX7_endSum_7 : decode cX7_endSum 7 = .ok (.aload_n 0, 1) := da9_dX7_endSum_0.2.2.2.1
theorem dX7_endSum_8 : decode cX7_endSum 8 = .ok (.getfield 26, 3) := da9_dX7_endSum_0.2.2.2.2.1
theorem dX7_endSum_11 : decode cX7_endSum 11 = .ok (.aload_n 0, 1) := da9_dX7_endSum_0.2.2.2.2.2.1
theorem dX7_endSum_12 : decode cX7_endSum 12 = .ok (.getfield 7, 3) := da9_dX7_endSum_0.2.2.2.2.2.2.1
theorem dX7_endSum_15 : decode cX7_endSum 15 = .ok (.iconst 1, 1) := da9_dX7_endSum_0.2.2.2.2.2.2.2.1
theorem dX7_endSum_16 : decode cX7_endSum 16 = .ok (.isub, 1) := da9_dX7_endSum_0.2.2.2.2.2.2.2.2.1
theorem dX7_endSum_17 : decode cX7_endSum 17 = .ok (.aload_n 0, 1) := da9_dX7_endSum_0.2.2.2.2.2.2.2.2.2.1
theorem dX7_endSum_18 : decode cX7_endSum 18 = .ok (.getfield 13, 3) := da9_dX7_endSum_0.2.2.2.2.2.2.2.2.2.2.1
theorem dX7_endSum_21 : decode cX7_endSum 21 = .ok (.iastore, 1) := da9_dX7_endSum_0.2.2.2.2.2.2.2.2.2.2.2.1
theorem dX7_endSum_22 : decode cX7_endSum 22 = .ok (.aload_n 0, 1) := da9_dX7_endSum_0.2.2.2.2.2.2.2.2.2.2.2.2.1
theorem dX7_endSum_23 : decode cX7_endSum 23 = .ok (.getfield 29, 3) := da9_dX7_endSum_0.2.2.2.2.2.2.2.2.2.2.2.2.2.1
theorem dX7_endSum_26 : decode cX7_endSum 26 = .ok (.aload_n 0, 1) := da9_dX7_endSum_0.2.2.2.2.2.2.2.2.2.2.2.2.2.2.1
theorem dX7_endSum_27 : decode cX7_endSum 27 = .ok (.getfield 7, 3) := da9_dX7_endSum_0.2.2.2.2.2.2.2.2.2.2.2.2.2.2.2
theorem da9_dX7_endSum_30 : (decode cX7_endSum 30 = .ok (.iconst 1, 1)) ∧ (decode cX7_endSum 31 = .ok (.isub, 1)) ∧ (decode cX7_endSum 32 = .ok (.aload_n 0, 1)) ∧ (decode cX7_endSum 33 = .ok (.getfield 13, 3)) ∧ (decode cX7_endSum 36 = .ok (.iastore, 1)) ∧ (decode cX7_endSum 37 = .ok (.return_, 1)) := by decide +kernel
theorem dX7_endSum_30 : decode cX7_endSum 30 = .ok (.iconst 1, 1) := da9_dX7_endSum_30.1
theorem dX7_endSum_31 : decode cX7_endSum 31 = .ok (.isub, 1) := da9_dX7_endSum_30.2.1
theorem dX7_endSum_32 : decode cX7_endSum 32 = .ok (.aload_n 0, 1) := da9_dX7_endSum_30.2.2.1
theorem dX7_endSum_33 : decode cX7_endSum 33 = .ok (.getfield 13, 3) := da9_dX7_endSum_30.2.2.2.1
theorem dX7_endSum_36 : decode cX7_endSum 36 = .ok (.iastore, 1) := da9_dX7_endSum_30.2.2.2.2.1
theorem dX7_endSum_37 : decode cX7_endSum 37 = .ok (.return_, 1) := da9_dX7_endSum_30.2.2.2.2.2
theorem da9_dX7_setTimes_0 : (decode cX7_setTimes 0 = .ok (.aload_n 0, 1)) ∧ (decode cX7_setTimes 1 = .ok (.getfield 7, 3)) ∧ (decode cX7_setTimes 4 = .ok (.ifCond .le 15, 3)) ∧ (decode cX7_setTimes 7 = .ok (.aload_n 0, 1)) ∧ (decode cX7_setTimes 8 = .ok (.getfield 20, 3)) ∧ (decode cX7_setTimes 11 = .ok (.aload_n 0, 1)) ∧ (decode cX7_setTimes 12 = .ok (.getfield 7, 3)) ∧ (decode cX7_setTimes 15 = .ok (.iconst 1, 1)) ∧ (decode cX7_setTimes 16 = .ok (.isub, 1)) ∧ (decode cX7_setTimes 17 = .ok (.iload_n 1, 1)) ∧ (decode cX7_setTimes 18 = .ok (.iastore, 1)) ∧ (decode cX7_setTimes 19 = .ok (.return_, 1)) := by decide +kernel
theorem dX7_setTimes_0 : decode cX7_setTimes 0 = .ok (.aload_n 0, 1) := da9_dX7_setTimes_0.1
theorem dX7_setTimes_1 : decode cX7_setTimes 1 = .ok (.getfield 7, 3) := da9_dX7_setTimes_0.2.1
theorem dX7_setTimes_4 : decode cX7_setTimes 4 = .ok (.ifCond .le 15, 3) := da9_dX7_setTimes_0.2.2.1
theorem dX7_setTimes_7 : decode cX7_setTimes 7 = .ok (.aload_n 0, 1) := da9_dX7_setTimes_0.2.2.2.1
theorem dX7_setTimes_8 : decode cX7_setTimes 8 = .ok (.getfield 20, 3) := da9_dX7_setTimes_0.2.2.2.2.1
theorem dX7_setTimes_11 : decode cX7_setTimes 11 = .ok (.aload_n 0, 1) := da9_dX7_setTimes_0.2.2.2.2.2.1
theorem dX7_setTimes_12 : decode cX7_setTimes 12 = .ok (.getfield 7, 3) := da9_dX7_setTimes_0.2.2.2.2.2.2.1
theorem dX7_setTimes_15 : decode cX7_setTimes 15 = .ok (.iconst 1, 1) := da9_dX7_setTimes_0.2.2.2.2.2.2.2.1
theorem dX7_setTimes_16 : decode cX7_setTimes 16 = .ok (.isub, 1) := da9_dX7_setTimes_0.2.2.2.2.2.2.2.2.1
theorem dX7_setTimes_17 : decode cX7_setTimes 17 = .ok (.iload_n 1, 1) := da9_dX7_setTimes_0.2.2.2.2.2.2.2.2.2.1
theorem dX7_setTimes_18 : decode cX7_setTimes 18 = .ok (.iastore, 1) := da9_dX7_setTimes_0.2.2.2.2.2.2.2.2.2.2.1
theorem dX7_setTimes_19 : decode cX7_setTimes 19 = .ok (.return_, 1) := da9_dX7_setTimes_0.2.2.2.2.2.2.2.2.2.2.2
