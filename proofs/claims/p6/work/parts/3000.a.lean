theorem da9_dX10_lies_0 : (decode cX10_lies 0 = .ok (.iload_n 0, 1)) ∧ (decode cX10_lies 1 = .ok (.iload_n 1, 1)) ∧ (decode cX10_lies 2 = .ok (.if_icmp .lt 12, 3)) ∧ (decode cX10_lies 5 = .ok (.iload_n 0, 1)) ∧ (decode cX10_lies 6 = .ok (.iload_n 2, 1)) ∧ (decode cX10_lies 7 = .ok (.if_icmp .gt 7, 3)) ∧ (decode cX10_lies 10 = .ok (.iconst 1, 1)) ∧ (decode cX10_lies 11 = .ok (.goto 4, 3)) ∧ (decode cX10_lies 14 = .ok (.iconst 0, 1)) ∧ (decode cX10_lies 15 = .ok (.ireturn, 1)) := by decide +kernel
theorem dX10_lies_0 : decode cX10_lies 0 = .ok (.iload_n 0, 1) := da9_dX10_lies_0.1
theorem dX10_lies_1 : decode cX10_lies 1 = .ok (.iload_n 1, 1) := da9_dX10_lies_0.2.1
theorem dX10_lies_2 : decode cX10_lies 2 = .ok (.if_icmp .lt 12, 3) := da9_dX10_lies_0.2.2.1
theorem dX10_lies_5 : decode cX10_lies 5 = .ok (.iload_n 0, 1) := da9_dX10_lies_0.2.2.2.1
theorem dX10_lies_6 : decode cX10_lies 6 = .ok (.iload_n 2, 1) := da9_dX10_lies_0.2.2.2.2.1
theorem dX10_lies_7 : decode cX10_lies 7 = .ok (.if_icmp .gt 7, 3) := da9_dX10_lies_0.2.2.2.2.2.1
theorem dX10_lies_10 : decode cX10_lies 10 = .ok (.iconst 1, 1) := da9_dX10_lies_0.2.2.2.2.2.2.1
theorem dX10_lies_11 : decode cX10_lies 11 = .ok (.goto 4, 3) := da9_dX10_lies_0.2.2.2.2.2.2.2.1
theorem dX10_lies_14 : decode cX10_lies 14 = .ok (.iconst 0, 1) := da9_dX10_lies_0.2.2.2.2.2.2.2.2.1
theorem dX10_lies_15 : decode cX10_lies 15 = .ok (.ireturn, 1) := da9_dX10_lies_0.2.2.2.2.2.2.2.2.2
theorem da9_dX10_lesser_0 : (decode cX10_lesser 0 = .ok (.iload_n 0, 1)) ∧ (decode cX10_lesser 1 = .ok (.iload_n 1, 1)) ∧ (decode cX10_lesser 2 = .ok (.if_icmp .ge 7, 3)) ∧ (decode cX10_lesser 5 = .ok (.iload_n 0, 1)) ∧ (decode cX10_lesser 6 = .ok (.goto 4, 3)) ∧ (decode cX10_lesser 9 = .ok (.iload_n 1, 1)) ∧ (decode cX10_lesser 10 = .ok (.ireturn, 1)) := by decide +kernel
theorem dX10_lesser_0 : decode cX10_lesser 0 = .ok (.iload_n 0, 1) := da9_dX10_lesser_0.1
theorem dX10_lesser_1 : decode cX10_lesser 1 = .ok (.iload_n 1, 1) := da9_dX10_lesser_0.2.1
theorem dX10_lesser_2 : decode cX10_lesser 2 = .ok (.if_icmp .ge 7, 3) := da9_dX10_lesser_0.2.2.1
theorem dX10_lesser_5 : decode cX10_lesser 5 = .ok (.iload_n 0, 1) := da9_dX10_lesser_0.2.2.2.1
theorem dX10_lesser_6 : decode cX10_lesser 6 = .ok (.goto 4, 3) := da9_dX10_lesser_0.2.2.2.2.1
theorem dX10_lesser_9 : decode cX10_lesser 9 = .ok (.iload_n 1, 1) := da9_dX10_lesser_0.2.2.2.2.2.1
theorem dX10_lesser_10 : decode cX10_lesser 10 = .ok (.ireturn, 1) := da9_dX10_lesser_0.2.2.2.2.2.2
theorem da9_dX10_greater_0 : (decode cX10_greater 0 = .ok (.iload_n 0, 1)) ∧ (decode cX10_greater 1 = .ok (.iload_n 1, 1)) ∧ (decode cX10_greater 2 = .ok (.if_icmp .le 7, 3)) ∧ (decode cX10_greater 5 = .ok (.iload_n 0, 1)) ∧ (decode cX10_greater 6 = .ok (.goto 4, 3)) ∧ (decode cX10_greater 9 = .ok (.iload_n 1, 1)) ∧ (decode cX10_greater 10 = .ok (.ireturn, 1)) := by decide +kernel
theorem dX10_greater_0 : decode cX10_greater 0 = .ok (.iload_n 0, 1) := da9_dX10_greater_0.1
theorem dX10_greater_1 : decode cX10_greater 1 = .ok (.iload_n 1, 1) := da9_dX10_greater_0.2.1
theorem dX10_greater_2 : decode cX10_greater 2 = .ok (.if_icmp .le 7, 3) := da9_dX10_greater_0.2.2.1
theorem dX10_greater_5 : decode cX10_greater 5 = .ok (.iload_n 0, 1) := da9_dX10_greater_0.2.2.2.1
theorem dX10_greater_6 : decode cX10_greater 6 = .ok (.goto 4, 3) := da9_dX10_greater_0.2.2.2.2.1
theorem dX10_greater_9 : decode cX10_greater 9 = .ok (.iload_n 1, 1) := da9_dX10_greater_0.2.2.2.2.2.1
theorem dX10_greater_10 : decode cX10_greater 10 = .ok (.ireturn, 1) := da9_dX10_greater_0.2.2.2.2.2.2
theorem da9_dX10_refuses_0 : (decode cX10_refuses 0 = .ok (.aload_n 0, 1)) ∧ (decode cX10_refuses 1 = .ok (.iload_n 1, 1)) ∧ (decode cX10_refuses 2 = .ok (.putfield 3, 3)) ∧ (decode cX10_refuses 5 = .ok (.aload_n 0, 1)) ∧ (decode cX10_refuses 6 = .ok (.getfield 7, 3)) ∧ (decode cX10_refuses 9 = .ok (.iload_n 1, 1)) ∧ (decode cX10_refuses 10 = .ok (.ineg, 1)) ∧ (decode cX10_refuses 11 = .ok (.dup2, 1)) ∧ (decode cX10_refuses 12 = .ok (.iaload, 1)) ∧ (decode cX10_refuses 13 = .ok (.iconst 1, 1)) ∧ (decode cX10_refuses 14 = .ok (.iadd, 1)) ∧ (decode cX10_refuses 15 = .ok (.iastore, 1)) ∧ (decode cX10_refuses 16 = .ok (.iload_n 1, 1)) ∧ (decode cX10_refuses 17 = .ok (.ireturn, 1)) := by decide +kernel
theorem dX10_refuses_0 : decode cX10_refuses 0 = .ok (.aload_n 0, 1) := da9_dX10_refuses_0.1
theorem dX10_refuses_1 : decode cX10_refuses 1 = .ok (.iload_n 1, 1) := da9_dX10_refuses_0.2.1
theorem dX10_refuses_2 : decode cX10_refuses 2 = .ok (.putfield 3, 3) := da9_dX10_refuses_0.2.2.1
theorem dX10_refuses_5 : decode cX10_refuses 5 = .ok (.aload_n 0, 1) := da9_dX10_refuses_0.2.2.2.1
theorem dX10_refuses_6 : decode cX10_refuses 6 = .ok (.getfield 7, 3) := da9_dX10_refuses_0.2.2.2.2.1
theorem dX10_refuses_9 : decode cX10_refuses 9 = .ok (.iload_n 1, 1) := da9_dX10_refuses_0.2.2.2.2.2.1
theorem dX10_refuses_10 : decode cX10_refuses 10 = .ok (.ineg, 1) := da9_dX10_refuses_0.2.2.2.2.2.2.1
theorem dX10_refuses_11 : decode cX10_refuses 11 = .ok (.dup2, 1) := da9_dX10_refuses_0.2.2.2.2.2.2.2.1
theorem dX10_refuses_12 : decode cX10_refuses 12 = .ok (.iaload, 1) := da9_dX10_refuses_0.2.2.2.2.2.2.2.2.1
theorem dX10_refuses_13 : decode cX10_refuses 13 = .ok (.iconst 1, 1) := da9_dX10_refuses_0.2.2.2.2.2.2.2.2.2.1
theorem dX10_refuses_14 : decode cX10_refuses 14 = .ok (.iadd, 1) := da9_dX10_refuses_0.2.2.2.2.2.2.2.2.2.2.1
theorem dX10_refuses_15 : decode cX10_refuses 15 = .ok (.iastore, 1) := da9_dX10_refuses_0.2.2.2.2.2.2.2.2.2.2.2.1
theorem dX10_refuses_16 : decode cX10_refuses 16 = .ok (.iload_n 1, 1) := da9_dX10_refuses_0.2.2.2.2.2.2.2.2.2.2.2.2.1
theorem dX10_refuses_17 : decode cX10_refuses 17 = .ok (.ireturn, 1) := da9_dX10_refuses_0.2.2.2.2.2.2.2.2.2.2.2.2.2
theorem da9_dX10_good_0 : (decode cX10_good 0 = .ok (.aload_n 0, 1)) ∧ (decode cX10_good 1 = .ok (.iconst 0, 1)) ∧ (decode cX10_good 2 = .ok (.putfield 3, 3)) ∧ (decode cX10_good 5 = .ok (.iload_n 1, 1)) ∧ (decode cX10_good 6 = .ok (.ireturn, 1)) := by decide +kernel
theorem dX10_good_0 : decode cX10_good 0 = .ok (.aload_n 0, 1) := da9_dX10_good_0.1
theorem dX10_good_1 : decode cX10_good 1 = .ok (.iconst 0, 1) := da9_dX10_good_0.2.1
theorem dX10_good_2 : decode cX10_good 2 = .ok (.putfield 3, 3) := da9_dX10_good_0.2.2.1
theorem dX10_good_5 : decode cX10_good 5 = .ok (.iload_n 1, 1) := da9_dX10_good_0.2.2.2.1
theorem dX10_good_6 : decode cX10_good 6 = .ok (.ireturn, 1) := da9_dX10_good_0.2.2.2.2
set_option maxRecDepth 20000 in
theorem ggX10_settled_X10_good : GoodIn wsX10_settled wsX10_good := goodIn_r _ [6, 7, 8, 9, 10, 11, 12, 13, 14, 15, 16, 17, 18, 19, 20, 21, 22, 23, 24, 25, 26, 27, 28, 29, 30, 31, 32, 33, 34, 35, 36, 37, 38, 39, 40, 41, 42, 43, 44, 45, 46, 47, 48, 49, 50, 51, 52, 53, 54, 55, 56, 57, 58, 59, 60, 61, 62, 63] rfl (by decide +kernel)
set_option maxRecDepth 20000 in
theorem gX10_settled_X10_good : GoodIn wsX10_settled (wsV RX10 14 RX10 yX10_good wsX10_good) := goodIn_app (goodIn_of _ (by decide +kernel)) ggX10_settled_X10_good
theorem da9_dX10_settled_0 : (decode cX10_settled 0 = .ok (.aload_n 0, 1)) ∧ (decode cX10_settled 1 = .ok (.iconst 0, 1)) ∧ (decode cX10_settled 2 = .ok (.putfield 11, 3)) ∧ (decode cX10_settled 5 = .ok (.aload_n 0, 1)) ∧ (decode cX10_settled 6 = .ok (.iload_n 1, 1)) ∧ (decode cX10_settled 7 = .ok (.invokevirtual 14, 3)) ∧ (decode cX10_settled 10 = .ok (.ireturn, 1)) := by decide +kernel
theorem dX10_settled_0 : decode cX10_settled 0 = .ok (.aload_n 0, 1) := da9_dX10_settled_0.1
theorem dX10_settled_1 : decode cX10_settled 1 = .ok (.iconst 0, 1) := da9_dX10_settled_0.2.1
theorem dX10_settled_2 : decode cX10_settled 2 = .ok (.putfield 11, 3) := da9_dX10_settled_0.2.2.1
theorem dX10_settled_5 : decode cX10_settled 5 = .ok (.aload_n 0, 1) := da9_dX10_settled_0.2.2.2.1
theorem dX10_settled_6 : decode cX10_settled 6 = .ok (.iload_n 1, 1) := da9_dX10_settled_0.2.2.2.2.1
theorem dX10_settled_7 : decode cX10_settled 7 = .ok (.invokevirtual 14, 3) := da9_dX10_settled_0.2.2.2.2.2.1
theorem dX10_settled_10 : decode cX10_settled 10 = .ok (.ireturn, 1) := da9_dX10_settled_0.2.2.2.2.2.2
theorem da9_dX10_isIn_0 : (decode cX10_isIn 0 = .ok (.iload_n 0, 1)) ∧ (decode cX10_isIn 1 = .ok (.iload_n 1, 1)) ∧ (decode cX10_isIn 2 = .ok (.ishr, 1)) ∧ (decode cX10_isIn 3 = .ok (.iconst 1, 1)) ∧ (decode cX10_isIn 4 = .ok (.iand, 1)) ∧ (decode cX10_isIn 5 = .ok (.iconst 1, 1)) ∧ (decode cX10_isIn 6 = .ok (.if_icmp .ne 7, 3)) ∧ (decode cX10_isIn 9 = .ok (.iconst 1, 1)) ∧ (decode cX10_isIn 10 = .ok (.goto 4, 3)) ∧ (decode cX10_isIn 13 = .ok (.iconst 0, 1)) ∧ (decode cX10_isIn 14 = .ok (.ireturn, 1)) := by decide +kernel
theorem dX10_isIn_0 : decode cX10_isIn 0 = .ok (.iload_n 0, 1) := da9_dX10_isIn_0.1
theorem dX10_isIn_1 : decode cX10_isIn 1 = .ok (.iload_n 1, 1) := da9_dX10_isIn_0.2.1
theorem dX10_isIn_2 : decode cX10_isIn 2 = .ok (.ishr, 1) := da9_dX10_isIn_0.2.2.1
theorem dX10_isIn_3 : decode cX10_isIn 3 = .ok (.iconst 1, 1) := da9_dX10_isIn_0.2.2.2.1
theorem dX10_isIn_4 : decode cX10_isIn 4 = .ok (.iand, 1) := da9_dX10_isIn_0.2.2.2.2.1
theorem dX10_isIn_5 : decode cX10_isIn 5 = .ok (.iconst 1, 1) := da9_dX10_isIn_0.2.2.2.2.2.1
theorem dX10_isIn_6 : decode cX10_isIn 6 = .ok (.if_icmp .ne 7, 3) := da9_dX10_isIn_0.2.2.2.2.2.2.1
theorem dX10_isIn_9 : decode cX10_isIn 9 = .ok (.iconst 1, 1) := da9_dX10_isIn_0.2.2.2.2.2.2.2.1
theorem dX10_isIn_10 : decode cX10_isIn 10 = .ok (.goto 4, 3) := da9_dX10_isIn_0.2.2.2.2.2.2.2.2.1
theorem dX10_isIn_13 : decode cX10_isIn 13 = .ok (.iconst 0, 1) := da9_dX10_isIn_0.2.2.2.2.2.2.2.2.2.1
theorem dX10_isIn_14 : decode cX10_isIn 14 = .ok (.ireturn, 1) := da9_dX10_isIn_0.2.2.2.2.2.2.2.2.2.2
theorem da9_dX10_ones_0 : (decode cX10_ones 0 = .ok (.iconst 0, 1)) ∧ (decode cX10_ones 1 = .ok (.istore_n 1, 1)) ∧ (decode cX10_ones 2 = .ok (.iconst 0, 1)) ∧ (decode cX10_ones 3 = .ok (.istore_n 2, 1)) ∧ (decode cX10_ones 4 = .ok (.iload_n 2, 1)) ∧ (decode cX10_ones 5 = .ok (.bipush 7, 2)) ∧ (decode cX10_ones 7 = .ok (.if_icmp .ge 17, 3)) ∧ (decode cX10_ones 10 = .ok (.iload_n 1, 1)) ∧ (decode cX10_ones 11 = .ok (.iload_n 0, 1)) ∧ (decode cX10_ones 12 = .ok (.iload_n 2, 1)) ∧ (decode cX10_ones 13 = .ok (.ishr, 1)) ∧ (decode cX10_ones 14 = .ok (.iconst 1, 1)) ∧ (decode cX10_ones 15 = .ok (.iand, 1)) ∧ (decode cX10_ones 16 = .ok (.iadd, 1)) ∧ (decode cX10_ones 17 = .ok (.istore_n 1, 1)) ∧ (decode cX10_ones 18 = .ok (.iinc 2 1, 3)) := by decide +kernel
theorem dX10_ones_0 : decode cX10_ones 0 = .ok (.iconst 0, 1) := da9_dX10_ones_0.1
theorem dX10_ones_1 : decode cX10_ones 1 = .ok (.istore_n 1, 1) := da9_dX10_ones_0.2.1
theorem dX10_ones_2 : decode cX10_ones 2 = .ok (.iconst 0, 1) := da9_dX10_ones_0.2.2.1
theorem dX10_ones_3 : decode cX10_ones 3 = .ok (.istore_n 2, 1) := da9_dX10_ones_0.2.2.2.1
theorem dX10_ones_4 : decode cX10_ones 4 = .ok (.iload_n 2, 1) := da9_dX10_ones_0.2.2.2.2.1
theorem dX10_ones_5 : decode cX10_ones 5 = .ok (.bipush 7, 2) := da9_dX10_ones_0.2.2.2.2.2.1
theorem dX10_ones_7 : decode cX10_ones 7 = .ok (.if_icmp .ge 17, 3) := da9_dX10_ones_0.2.2.2.2.2.2.1
theorem dX10_ones_10 : decode cX10_ones 10 = .ok (.iload_n 1, 1) := da9_dX10_ones_0.2.2.2.2.2.2.2.1
theorem dX10_ones_11 : decode cX10_ones 11 = .ok (.iload_n 0, 1) := da9_dX10_ones_0.2.2.2.2.2.2.2.2.1
theorem dX10_ones_12 : decode cX10_ones 12 = .ok (.iload_n 2, 1) := da9_dX10_ones_0.2.2.2.2.2.2.2.2.2.1
theorem dX10_ones_13 : decode cX10_ones 13 = .ok (.ishr, 1) := da9_dX10_ones_0.2.2.2.2.2.2.2.2.2.2.1
theorem dX10_ones_14 : decode cX10_ones 14 = .ok (.iconst 1, 1) := da9_dX10_ones_0.2.2.2.2.2.2.2.2.2.2.2.1
theorem dX10_ones_15 : decode cX10_ones 15 = .ok (.iand, 1) := da9_dX10_ones_0.2.2.2.2.2.2.2.2.2.2.2.2.1
theorem dX10_ones_16 : decode cX10_ones 16 = .ok (.iadd, 1) := da9_dX10_ones_0.2.2.2.2.2.2.2.2.2.2.2.2.2.1
theorem dX10_ones_17 : decode cX10_ones 17 = .ok (.istore_n 1, 1) := da9_dX10_ones_0.2.2.2.2.2.2.2.2.2.2.2.2.2.2.1
theorem dX10_ones_18 : decode cX10_ones 18 = .ok (.iinc 2 1, 3) := da9_dX10_ones_0.2.2.2.2.2.2.2.2.2.2.2.2.2.2.2
theorem da9_dX10_ones_21 : (decode cX10_ones 21 = .ok (.goto (-17), 3)) ∧ (decode cX10_ones 24 = .ok (.iload_n 1, 1)) ∧ (decode cX10_ones 25 = .ok (.ireturn, 1)) := by decide +kernel
theorem dX10_ones_21 : decode cX10_ones 21 = .ok (.goto (-17), 3) := da9_dX10_ones_21.1
theorem dX10_ones_24 : decode cX10_ones 24 = .ok (.iload_n 1, 1) := da9_dX10_ones_21.2.1
theorem dX10_ones_25 : decode cX10_ones 25 = .ok (.ireturn, 1) := da9_dX10_ones_21.2.2
set_option maxRecDepth 20000 in
theorem ggX10_isBit_X10_lies : GoodIn wsX10_isBit wsX10_lies := goodIn_r _ [4] rfl (by decide +kernel)
set_option maxRecDepth 20000 in
theorem gX10_isBit_X10_lies : GoodIn wsX10_isBit (va_wsS RX10 18 yX10_lies wsX10_lies) := goodIn_app (goodIn_of _ (by decide +kernel)) ggX10_isBit_X10_lies
theorem da9_dX10_isBit_0 : (decode cX10_isBit 0 = .ok (.iload_n 0, 1)) ∧ (decode cX10_isBit 1 = .ok (.iconst 0, 1)) ∧ (decode cX10_isBit 2 = .ok (.iconst 1, 1)) ∧ (decode cX10_isBit 3 = .ok (.invokestatic 18, 3)) ∧ (decode cX10_isBit 6 = .ok (.ireturn, 1)) := by decide +kernel
theorem dX10_isBit_0 : decode cX10_isBit 0 = .ok (.iload_n 0, 1) := da9_dX10_isBit_0.1
theorem dX10_isBit_1 : decode cX10_isBit 1 = .ok (.iconst 0, 1) := da9_dX10_isBit_0.2.1
theorem dX10_isBit_2 : decode cX10_isBit 2 = .ok (.iconst 1, 1) := da9_dX10_isBit_0.2.2.1
theorem dX10_isBit_3 : decode cX10_isBit 3 = .ok (.invokestatic 18, 3) := da9_dX10_isBit_0.2.2.2.1
theorem dX10_isBit_6 : decode cX10_isBit 6 = .ok (.ireturn, 1) := da9_dX10_isBit_0.2.2.2.2
set_option maxRecDepth 20000 in
theorem ggX10_isRank_X10_lies : GoodIn wsX10_isRank wsX10_lies := goodIn_r _ [4] rfl (by decide +kernel)
set_option maxRecDepth 20000 in
theorem gX10_isRank_X10_lies : GoodIn wsX10_isRank (va_wsS RX10 18 yX10_lies wsX10_lies) := goodIn_app (goodIn_of _ (by decide +kernel)) ggX10_isRank_X10_lies
theorem da9_dX10_isRank_0 : (decode cX10_isRank 0 = .ok (.iload_n 0, 1)) ∧ (decode cX10_isRank 1 = .ok (.iconst 0, 1)) ∧ (decode cX10_isRank 2 = .ok (.iconst 5, 1)) ∧ (decode cX10_isRank 3 = .ok (.invokestatic 18, 3)) ∧ (decode cX10_isRank 6 = .ok (.ireturn, 1)) := by decide +kernel
theorem dX10_isRank_0 : decode cX10_isRank 0 = .ok (.iload_n 0, 1) := da9_dX10_isRank_0.1
theorem dX10_isRank_1 : decode cX10_isRank 1 = .ok (.iconst 0, 1) := da9_dX10_isRank_0.2.1
theorem dX10_isRank_2 : decode cX10_isRank 2 = .ok (.iconst 5, 1) := da9_dX10_isRank_0.2.2.1
theorem dX10_isRank_3 : decode cX10_isRank 3 = .ok (.invokestatic 18, 3) := da9_dX10_isRank_0.2.2.2.1
theorem dX10_isRank_6 : decode cX10_isRank 6 = .ok (.ireturn, 1) := da9_dX10_isRank_0.2.2.2.2
theorem da9_dX10_laysAside_0 : (decode cX10_laysAside 0 = .ok (.iconst 0, 1)) ∧ (decode cX10_laysAside 1 = .ok (.istore_n 2, 1)) ∧ (decode cX10_laysAside 2 = .ok (.iload_n 2, 1)) ∧ (decode cX10_laysAside 3 = .ok (.bipush 14, 2)) ∧ (decode cX10_laysAside 5 = .ok (.if_icmp .ge 26, 3)) ∧ (decode cX10_laysAside 8 = .ok (.aload_n 0, 1)) ∧ (decode cX10_laysAside 9 = .ok (.getfield 38, 3)) ∧ (decode cX10_laysAside 12 = .ok (.bipush 14, 2)) ∧ (decode cX10_laysAside 14 = .ok (.iload_n 1, 1)) ∧ (decode cX10_laysAside 15 = .ok (.imul, 1)) ∧ (decode cX10_laysAside 16 = .ok (.iload_n 2, 1)) ∧ (decode cX10_laysAside 17 = .ok (.iadd, 1)) ∧ (decode cX10_laysAside 18 = .ok (.aload_n 0, 1)) ∧ (decode cX10_laysAside 19 = .ok (.getfield 28, 3)) ∧ (decode cX10_laysAside 22 = .ok (.iload_n 2, 1)) ∧ (decode cX10_laysAside 23 = .ok (.iaload, 1)) := by decide +kernel
theorem dX10_laysAside_0 : decode cX10_laysAside 0 = .ok (.iconst 0, 1) := da9_dX10_laysAside_0.1
theorem dX10_laysAside_1 : decode cX10_laysAside 1 = .ok (.istore_n 2, 1) := da9_dX10_laysAside_0.2.1
theorem dX10_laysAside_2 : decode cX10_laysAside 2 = .ok (.iload_n 2, 1) := da9_dX10_laysAside_0.2.2.1
theorem dX10_laysAside_3 : decode cX10_laysAside 3 = .ok (.bipush 14, 2) := da9_dX10_laysAside_0.2.2.2.1
theorem dX10_laysAside_5 : decode cX10_laysAside 5 = .ok (.if_icmp .ge 26, 3) := da9_dX10_laysAside_0.2.2.2.2.1
theorem dX10_laysAside_8 : decode cX10_laysAside 8 = .ok (.aload_n 0, 1) := da9_dX10_laysAside_0.2.2.2.2.2.1
theorem dX10_laysAside_9 : decode cX10_laysAside 9 = .ok (.getfield 38, 3) := da9_dX10_laysAside_0.2.2.2.2.2.2.1
theorem dX10_laysAside_12 : decode cX10_laysAside 12 = .ok (.bipush 14, 2) := da9_dX10_laysAside_0.2.2.2.2.2.2.2.1
theorem dX10_laysAside_14 : decode cX10_laysAside 14 = .ok (.iload_n 1, 1) := da9_dX10_laysAside_0.2.2.2.2.2.2.2.2.1
theorem dX10_laysAside_15 : decode cX10_laysAside 15 = .ok (.imul, 1) := da9_dX10_laysAside_0.2.2.2.2.2.2.2.2.2.1
theorem dX10_laysAside_16 : decode cX10_laysAside 16 = .ok (.iload_n 2, 1) := da9_dX10_laysAside_0.2.2.2.2.2.2.2.2.2.2.1
theorem dX10_laysAside_17 : decode cX10_laysAside 17 = .ok (.iadd, 1) := da9_dX10_laysAside_0.2.2.2.2.2.2.2.2.2.2.2.1
theorem dX10_laysAside_18 : decode cX10_laysAside 18 = .ok (.aload_n 0, 1) := da9_dX10_laysAside_0.2.2.2.2.2.2.2.2.2.2.2.2.1
theorem dX10_laysAside_19 : decode cX10_laysAside 19 = .ok (.getfield 28, 3) := da9_dX10_laysAside_0.2.2.2.2.2.2.2.2.2.2.2.2.2.1
theorem dX10_laysAside_22 : decode cX10_laysAside 22 = .ok (.iload_n 2, 1) := da9_dX10_laysAside_0.2.2.2.2.2.2.2.2.2.2.2.2.2.2.1
theorem dX10_laysAside_23 : decode cX10_laysAside 23 = .ok (.iaload, 1) := da9_dX10_laysAside_0.2.2.2.2.2.2.2.2.2.2.2.2.2.2.2
theorem da9_dX10_laysAside_24 : (decode cX10_laysAside 24 = .ok (.iastore, 1)) ∧ (decode cX10_laysAside 25 = .ok (.iinc 2 1, 3)) ∧ (decode cX10_laysAside 28 = .ok (.goto (-26), 3)) ∧ (decode cX10_laysAside 31 = .ok (.return_, 1)) := by decide +kernel
theorem dX10_laysAside_24 : decode cX10_laysAside 24 = .ok (.iastore, 1) := da9_dX10_laysAside_24.1
theorem dX10_laysAside_25 : decode cX10_laysAside 25 = .ok (.iinc 2 1, 3) := da9_dX10_laysAside_24.2.1
theorem dX10_laysAside_28 : decode cX10_laysAside 28 = .ok (.goto (-26), 3) := da9_dX10_laysAside_24.2.2.1
theorem dX10_laysAside_31 : decode cX10_laysAside 31 = .ok (.return_, 1) := da9_dX10_laysAside_24.2.2.2
theorem da9_dX10_takesBack_0 : (decode cX10_takesBack 0 = .ok (.iconst 0, 1)) ∧ (decode cX10_takesBack 1 = .ok (.istore_n 2, 1)) ∧ (decode cX10_takesBack 2 = .ok (.iload_n 2, 1)) ∧ (decode cX10_takesBack 3 = .ok (.bipush 14, 2)) ∧ (decode cX10_takesBack 5 = .ok (.if_icmp .ge 26, 3)) ∧ (decode cX10_takesBack 8 = .ok (.aload_n 0, 1)) ∧ (decode cX10_takesBack 9 = .ok (.getfield 28, 3)) ∧ (decode cX10_takesBack 12 = .ok (.iload_n 2, 1)) ∧ (decode cX10_takesBack 13 = .ok (.aload_n 0, 1)) ∧ (decode cX10_takesBack 14 = .ok (.getfield 38, 3)) ∧ (decode cX10_takesBack 17 = .ok (.bipush 14, 2)) ∧ (decode cX10_takesBack 19 = .ok (.iload_n 1, 1)) ∧ (decode cX10_takesBack 20 = .ok (.imul, 1)) ∧ (decode cX10_takesBack 21 = .ok (.iload_n 2, 1)) ∧ (decode cX10_takesBack 22 = .ok (.iadd, 1)) ∧ (decode cX10_takesBack 23 = .ok (.iaload, 1)) := by decide +kernel
theorem dX10_takesBack_0 : decode cX10_takesBack 0 = .ok (.iconst 0, 1) := da9_dX10_takesBack_0.1
theorem dX10_takesBack_1 : decode cX10_takesBack 1 = .ok (.istore_n 2, 1) := da9_dX10_takesBack_0.2.1
theorem dX10_takesBack_2 : decode cX10_takesBack 2 = .ok (.iload_n 2, 1) := da9_dX10_takesBack_0.2.2.1
theorem dX10_takesBack_3 : decode cX10_takesBack 3 = .ok (.bipush 14, 2) := da9_dX10_takesBack_0.2.2.2.1
theorem dX10_takesBack_5 : decode cX10_takesBack 5 = .ok (.if_icmp .ge 26, 3) := da9_dX10_takesBack_0.2.2.2.2.1
theorem dX10_takesBack_8 : decode cX10_takesBack 8 = .ok (.aload_n 0, 1) := da9_dX10_takesBack_0.2.2.2.2.2.1
theorem dX10_takesBack_9 : decode cX10_takesBack 9 = .ok (.getfield 28, 3) := da9_dX10_takesBack_0.2.2.2.2.2.2.1
theorem dX10_takesBack_12 : decode cX10_takesBack 12 = .ok (.iload_n 2, 1) := da9_dX10_takesBack_0.2.2.2.2.2.2.2.1
theorem dX10_takesBack_13 : decode cX10_takesBack 13 = .ok (.aload_n 0, 1) := da9_dX10_takesBack_0.2.2.2.2.2.2.2.2.1
theorem dX10_takesBack_14 : decode cX10_takesBack 14 = .ok (.getfield 38, 3) := da9_dX10_takesBack_0.2.2.2.2.2.2.2.2.2.1
theorem dX10_takesBack_17 : decode cX10_takesBack 17 = .ok (.bipush 14, 2) := da9_dX10_takesBack_0.2.2.2.2.2.2.2.2.2.2.1
theorem dX10_takesBack_19 : decode cX10_takesBack 19 = .ok (.iload_n 1, 1) := da9_dX10_takesBack_0.2.2.2.2.2.2.2.2.2.2.2.1
theorem dX10_takesBack_20 : decode cX10_takesBack 20 = .ok (.imul, 1) := da9_dX10_takesBack_0.2.2.2.2.2.2.2.2.2.2.2.2.1
theorem dX10_takesBack_21 : decode cX10_takesBack 21 = .ok (.iload_n 2, 1) := da9_dX10_takesBack_0.2.2.2.2.2.2.2.2.2.2.2.2.2.1
theorem dX10_takesBack_22 : decode cX10_takesBack 22 = .ok (.iadd, 1) := da9_dX10_takesBack_0.2.2.2.2.2.2.2.2.2.2.2.2.2.2.1
theorem dX10_takesBack_23 : decode cX10_takesBack 23 = .ok (.iaload, 1) := da9_dX10_takesBack_0.2.2.2.2.2.2.2.2.2.2.2.2.2.2.2
theorem da9_dX10_takesBack_24 : (decode cX10_takesBack 24 = .ok (.iastore, 1)) ∧ (decode cX10_takesBack 25 = .ok (.iinc 2 1, 3)) ∧ (decode cX10_takesBack 28 = .ok (.goto (-26), 3)) ∧ (decode cX10_takesBack 31 = .ok (.return_, 1)) := by decide +kernel
theorem dX10_takesBack_24 : decode cX10_takesBack 24 = .ok (.iastore, 1) := da9_dX10_takesBack_24.1
theorem dX10_takesBack_25 : decode cX10_takesBack 25 = .ok (.iinc 2 1, 3) := da9_dX10_takesBack_24.2.1
theorem dX10_takesBack_28 : decode cX10_takesBack 28 = .ok (.goto (-26), 3) := da9_dX10_takesBack_24.2.2.1
theorem dX10_takesBack_31 : decode cX10_takesBack 31 = .ok (.return_, 1) := da9_dX10_takesBack_24.2.2.2
set_option maxRecDepth 20000 in
theorem ggX10_image_X10_lies : GoodIn wsX10_image wsX10_lies := goodIn_r _ [7] rfl (by decide +kernel)
set_option maxRecDepth 20000 in
theorem gX10_image_X10_lies : GoodIn wsX10_image (va_wsS RX10 18 yX10_lies wsX10_lies) := goodIn_app (goodIn_of _ (by decide +kernel)) ggX10_image_X10_lies
set_option maxRecDepth 20000 in
theorem ggX10_image_X10_refuses : GoodIn wsX10_image wsX10_refuses := goodIn_r _ [11, 12, 13, 18, 19, 20, 21, 22, 23, 24, 25, 26, 27, 28, 29, 30, 31, 32, 33, 34, 35, 36, 37, 38, 39, 40, 41, 42, 43, 44, 45, 46, 47, 48, 49, 50, 51, 52, 53, 54, 55, 56, 57, 58, 59, 60, 61, 62, 63, 64, 65, 66, 67, 68, 69, 70, 71, 72, 73] rfl (by decide +kernel)
set_option maxRecDepth 20000 in
theorem gX10_image_X10_refuses : GoodIn wsX10_image (wsV RX10 119 RX10 yX10_refuses wsX10_refuses) := goodIn_app (goodIn_of _ (by decide +kernel)) ggX10_image_X10_refuses
set_option maxRecDepth 20000 in
theorem ggX10_image_X10_good : GoodIn wsX10_image wsX10_good := goodIn_r _ [17, 12, 18, 19, 20, 21, 22, 23, 24, 25, 26, 27, 28, 29, 30, 31, 32, 33, 34, 35, 36, 37, 38, 39, 40, 41, 42, 43, 44, 45, 46, 47, 48, 49, 50, 51, 52, 53, 54, 55, 56, 57, 58, 59, 60, 61, 62, 63, 64, 65, 66, 67, 68, 69, 70, 71, 72, 73] rfl (by decide +kernel)
set_option maxRecDepth 20000 in
theorem gX10_image_X10_good : GoodIn wsX10_image (wsV RX10 14 RX10 yX10_good wsX10_good) := goodIn_app (goodIn_of _ (by decide +kernel)) ggX10_image_X10_good
theorem da9_dX10_image_0 : (decode cX10_image 0 = .ok (.iload_n 1, 1)) ∧ (decode cX10_image 1 = .ok (.iconst 0, 1)) ∧ (decode cX10_image 2 = .ok (.iconst 1, 1)) ∧ (decode cX10_image 3 = .ok (.invokestatic 18, 3)) ∧ (decode cX10_image 6 = .ok (.ifCond .ne 9, 3)) ∧ (decode cX10_image 9 = .ok (.aload_n 0, 1)) ∧ (decode cX10_image 10 = .ok (.iconst (-1), 1)) ∧ (decode cX10_image 11 = .ok (.invokevirtual 119, 3)) ∧ (decode cX10_image 14 = .ok (.ireturn, 1)) ∧ (decode cX10_image 15 = .ok (.iconst 0, 1)) ∧ (decode cX10_image 16 = .ok (.istore_n 2, 1)) ∧ (decode cX10_image 17 = .ok (.iload_n 2, 1)) ∧ (decode cX10_image 18 = .ok (.sipush 5640, 3)) ∧ (decode cX10_image 21 = .ok (.if_icmp .ge 27, 3)) ∧ (decode cX10_image 24 = .ok (.aload_n 0, 1)) ∧ (decode cX10_image 25 = .ok (.getfield 31, 3)) := by decide +kernel
theorem dX10_image_0 : decode cX10_image 0 = .ok (.iload_n 1, 1) := da9_dX10_image_0.1
theorem dX10_image_1 : decode cX10_image 1 = .ok (.iconst 0, 1) := da9_dX10_image_0.2.1
theorem dX10_image_2 : decode cX10_image 2 = .ok (.iconst 1, 1) := da9_dX10_image_0.2.2.1
theorem dX10_image_3 : decode cX10_image 3 = .ok (.invokestatic 18, 3) := da9_dX10_image_0.2.2.2.1
theorem dX10_image_6 : decode cX10_image 6 = .ok (.ifCond .ne 9, 3) := da9_dX10_image_0.2.2.2.2.1
theorem dX10_image_9 : decode cX10_image 9 = .ok (.aload_n 0, 1) := da9_dX10_image_0.2.2.2.2.2.1
theorem dX10_image_10 : decode cX10_image 10 = .ok (.iconst (-1), 1) := da9_dX10_image_0.2.2.2.2.2.2.1
theorem dX10_image_11 : decode cX10_image 11 = .ok (.invokevirtual 119, 3) := da9_dX10_image_0.2.2.2.2.2.2.2.1
theorem dX10_image_14 : decode cX10_image 14 = .ok (.ireturn, 1) := da9_dX10_image_0.2.2.2.2.2.2.2.2.1
theorem dX10_image_15 : decode cX10_image 15 = .ok (.iconst 0, 1) := da9_dX10_image_0.2.2.2.2.2.2.2.2.2.1
theorem dX10_image_16 : decode cX10_image 16 = .ok (.istore_n 2, 1) := da9_dX10_image_0.2.2.2.2.2.2.2.2.2.2.1
theorem dX10_image_17 : decode cX10_image 17 = .ok (.iload_n 2, 1) := da9_dX10_image_0.2.2.2.2.2.2.2.2.2.2.2.1
theorem dX10_image_18 : decode cX10_image 18 = .ok (.sipush 5640, 3) := da9_dX10_image_0.2.2.2.2.2.2.2.2.2.2.2.2.1
theorem dX10_image_21 : decode cX10_image 21 = .ok (.if_icmp .ge 27, 3) := da9_dX10_image_0.2.2.2.2.2.2.2.2.2.2.2.2.2.1
theorem dX10_image_24 : decode cX10_image 24 = .ok (.aload_n 0, 1) := da9_dX10_image_0.2.2.2.2.2.2.2.2.2.2.2.2.2.2.1
theorem dX10_image_25 : decode cX10_image 25 = .ok (.getfield 31, 3) := da9_dX10_image_0.2.2.2.2.2.2.2.2.2.2.2.2.2.2.2
theorem da9_dX10_image_28 : (decode cX10_image 28 = .ok (.sipush 5640, 3)) ∧ (decode cX10_image 31 = .ok (.iload_n 1, 1)) ∧ (decode cX10_image 32 = .ok (.imul, 1)) ∧ (decode cX10_image 33 = .ok (.iload_n 2, 1)) ∧ (decode cX10_image 34 = .ok (.iadd, 1)) ∧ (decode cX10_image 35 = .ok (.aload_n 0, 1)) ∧ (decode cX10_image 36 = .ok (.getfield 28, 3)) ∧ (decode cX10_image 39 = .ok (.iload_n 2, 1)) ∧ (decode cX10_image 40 = .ok (.iaload, 1)) ∧ (decode cX10_image 41 = .ok (.iastore, 1)) ∧ (decode cX10_image 42 = .ok (.iinc 2 1, 3)) ∧ (decode cX10_image 45 = .ok (.goto (-28), 3)) ∧ (decode cX10_image 48 = .ok (.aload_n 0, 1)) ∧ (decode cX10_image 49 = .ok (.getfield 34, 3)) ∧ (decode cX10_image 52 = .ok (.iload_n 1, 1)) ∧ (decode cX10_image 53 = .ok (.iconst 1, 1)) := by decide +kernel
theorem dX10_image_28 : decode cX10_image 28 = .ok (.sipush 5640, 3) := da9_dX10_image_28.1
theorem dX10_image_31 : decode cX10_image 31 = .ok (.iload_n 1, 1) := da9_dX10_image_28.2.1
theorem dX10_image_32 : decode cX10_image 32 = .ok (.imul, 1) := da9_dX10_image_28.2.2.1
theorem dX10_image_33 : decode cX10_image 33 = .ok (.iload_n 2, 1) := da9_dX10_image_28.2.2.2.1
theorem dX10_image_34 : decode cX10_image 34 = .ok (.iadd, 1) := da9_dX10_image_28.2.2.2.2.1
theorem dX10_image_35 : decode cX10_image 35 = .ok (.aload_n 0, 1) := da9_dX10_image_28.2.2.2.2.2.1
theorem dX10_image_36 : decode cX10_image 36 = .ok (.getfield 28, 3) := da9_dX10_image_28.2.2.2.2.2.2.1
theorem dX10_image_39 : decode cX10_image 39 = .ok (.iload_n 2, 1) := da9_dX10_image_28.2.2.2.2.2.2.2.1
theorem dX10_image_40 : decode cX10_image 40 = .ok (.iaload, 1) := da9_dX10_image_28.2.2.2.2.2.2.2.2.1
theorem dX10_image_41 : decode cX10_image 41 = .ok (.iastore, 1) := da9_dX10_image_28.2.2.2.2.2.2.2.2.2.1
theorem dX10_image_42 : decode cX10_image 42 = .ok (.iinc 2 1, 3) := da9_dX10_image_28.2.2.2.2.2.2.2.2.2.2.1
theorem dX10_image_45 : decode cX10_image 45 = .ok (.goto (-28), 3) := da9_dX10_image_28.2.2.2.2.2.2.2.2.2.2.2.1
theorem dX10_image_48 : decode cX10_image 48 = .ok (.aload_n 0, 1) := da9_dX10_image_28.2.2.2.2.2.2.2.2.2.2.2.2.1
theorem dX10_image_49 : decode cX10_image 49 = .ok (.getfield 34, 3) := da9_dX10_image_28.2.2.2.2.2.2.2.2.2.2.2.2.2.1
theorem dX10_image_52 : decode cX10_image 52 = .ok (.iload_n 1, 1) := da9_dX10_image_28.2.2.2.2.2.2.2.2.2.2.2.2.2.2.1
theorem dX10_image_53 : decode cX10_image 53 = .ok (.iconst 1, 1) := da9_dX10_image_28.2.2.2.2.2.2.2.2.2.2.2.2.2.2.2
theorem da9_dX10_image_54 : (decode cX10_image 54 = .ok (.bastore, 1)) ∧ (decode cX10_image 55 = .ok (.aload_n 0, 1)) ∧ (decode cX10_image 56 = .ok (.iconst 0, 1)) ∧ (decode cX10_image 57 = .ok (.invokevirtual 14, 3)) ∧ (decode cX10_image 60 = .ok (.ireturn, 1)) := by decide +kernel
theorem dX10_image_54 : decode cX10_image 54 = .ok (.bastore, 1) := da9_dX10_image_54.1
theorem dX10_image_55 : decode cX10_image 55 = .ok (.aload_n 0, 1) := da9_dX10_image_54.2.1
theorem dX10_image_56 : decode cX10_image 56 = .ok (.iconst 0, 1) := da9_dX10_image_54.2.2.1
theorem dX10_image_57 : decode cX10_image 57 = .ok (.invokevirtual 14, 3) := da9_dX10_image_54.2.2.2.1
theorem dX10_image_60 : decode cX10_image 60 = .ok (.ireturn, 1) := da9_dX10_image_54.2.2.2.2
set_option maxRecDepth 20000 in
theorem ggX10_back_X10_lies : GoodIn wsX10_back wsX10_lies := goodIn_r _ [7] rfl (by decide +kernel)
set_option maxRecDepth 20000 in
theorem gX10_back_X10_lies : GoodIn wsX10_back (va_wsS RX10 18 yX10_lies wsX10_lies) := goodIn_app (goodIn_of _ (by decide +kernel)) ggX10_back_X10_lies
set_option maxRecDepth 20000 in
theorem ggX10_back_X10_refuses : GoodIn wsX10_back wsX10_refuses := goodIn_r _ [11, 12, 13, 23, 24, 25, 26, 27, 28, 29, 30, 31, 32, 33, 34, 35, 36, 37, 38, 39, 40, 41, 42, 43, 44, 45, 46, 47, 48, 49, 50, 51, 52, 53, 54, 55, 56, 57, 58, 59, 60, 61, 62, 63, 64, 65, 66, 67, 68, 69, 70, 71, 72, 73, 74, 75, 76, 77, 78] rfl (by decide +kernel)
set_option maxRecDepth 20000 in
theorem gX10_back_X10_refuses : GoodIn wsX10_back (wsV RX10 119 RX10 yX10_refuses wsX10_refuses) := goodIn_app (goodIn_of _ (by decide +kernel)) ggX10_back_X10_refuses
set_option maxRecDepth 20000 in
theorem ggX10_back_X10_settled : GoodIn wsX10_back wsX10_settled := goodIn_r _ [17, 18, 19, 20, 21, 6, 22, 12, 23, 24, 25, 26, 27, 28, 29, 30, 31, 32, 33, 34, 35, 36, 37, 38, 39, 40, 41, 42, 43, 44, 45, 46, 47, 48, 49, 50, 51, 52, 53, 54, 55, 56, 57, 58, 59, 60, 61, 62, 63, 64, 65, 66, 67, 68, 69, 70, 71, 72, 73, 74, 75, 76, 77, 78] rfl (by decide +kernel)
set_option maxRecDepth 20000 in
theorem gX10_back_X10_settled : GoodIn wsX10_back (wsV RX10 122 RX10 yX10_settled wsX10_settled) := goodIn_app (goodIn_of _ (by decide +kernel)) ggX10_back_X10_settled
theorem da9_dX10_back_0 : (decode cX10_back 0 = .ok (.iload_n 1, 1)) ∧ (decode cX10_back 1 = .ok (.iconst 0, 1)) ∧ (decode cX10_back 2 = .ok (.iconst 1, 1)) ∧ (decode cX10_back 3 = .ok (.invokestatic 18, 3)) ∧ (decode cX10_back 6 = .ok (.ifCond .ne 9, 3)) ∧ (decode cX10_back 9 = .ok (.aload_n 0, 1)) ∧ (decode cX10_back 10 = .ok (.iconst (-1), 1)) ∧ (decode cX10_back 11 = .ok (.invokevirtual 119, 3)) ∧ (decode cX10_back 14 = .ok (.ireturn, 1)) ∧ (decode cX10_back 15 = .ok (.aload_n 0, 1)) ∧ (decode cX10_back 16 = .ok (.getfield 34, 3)) ∧ (decode cX10_back 19 = .ok (.iload_n 1, 1)) ∧ (decode cX10_back 20 = .ok (.baload, 1)) ∧ (decode cX10_back 21 = .ok (.ifCond .ne 10, 3)) ∧ (decode cX10_back 24 = .ok (.aload_n 0, 1)) ∧ (decode cX10_back 25 = .ok (.bipush (-2), 2)) := by decide +kernel
theorem dX10_back_0 : decode cX10_back 0 = .ok (.iload_n 1, 1) := da9_dX10_back_0.1
theorem dX10_back_1 : decode cX10_back 1 = .ok (.iconst 0, 1) := da9_dX10_back_0.2.1
theorem dX10_back_2 : decode cX10_back 2 = .ok (.iconst 1, 1) := da9_dX10_back_0.2.2.1
theorem dX10_back_3 : decode cX10_back 3 = .ok (.invokestatic 18, 3) := da9_dX10_back_0.2.2.2.1
theorem dX10_back_6 : decode cX10_back 6 = .ok (.ifCond .ne 9, 3) := da9_dX10_back_0.2.2.2.2.1
theorem dX10_back_9 : decode cX10_back 9 = .ok (.aload_n 0, 1) := da9_dX10_back_0.2.2.2.2.2.1
theorem dX10_back_10 : decode cX10_back 10 = .ok (.iconst (-1), 1) := da9_dX10_back_0.2.2.2.2.2.2.1
theorem dX10_back_11 : decode cX10_back 11 = .ok (.invokevirtual 119, 3) := da9_dX10_back_0.2.2.2.2.2.2.2.1
theorem dX10_back_14 : decode cX10_back 14 = .ok (.ireturn, 1) := da9_dX10_back_0.2.2.2.2.2.2.2.2.1
theorem dX10_back_15 : decode cX10_back 15 = .ok (.aload_n 0, 1) := da9_dX10_back_0.2.2.2.2.2.2.2.2.2.1
theorem dX10_back_16 : decode cX10_back 16 = .ok (.getfield 34, 3) := da9_dX10_back_0.2.2.2.2.2.2.2.2.2.2.1
theorem dX10_back_19 : decode cX10_back 19 = .ok (.iload_n 1, 1) := da9_dX10_back_0.2.2.2.2.2.2.2.2.2.2.2.1
theorem dX10_back_20 : decode cX10_back 20 = .ok (.baload, 1) := da9_dX10_back_0.2.2.2.2.2.2.2.2.2.2.2.2.1
theorem dX10_back_21 : decode cX10_back 21 = .ok (.ifCond .ne 10, 3) := da9_dX10_back_0.2.2.2.2.2.2.2.2.2.2.2.2.2.1
theorem dX10_back_24 : decode cX10_back 24 = .ok (.aload_n 0, 1) := da9_dX10_back_0.2.2.2.2.2.2.2.2.2.2.2.2.2.2.1
theorem dX10_back_25 : decode cX10_back 25 = .ok (.bipush (-2), 2) := da9_dX10_back_0.2.2.2.2.2.2.2.2.2.2.2.2.2.2.2
theorem da9_dX10_back_27 : (decode cX10_back 27 = .ok (.invokevirtual 119, 3)) ∧ (decode cX10_back 30 = .ok (.ireturn, 1)) ∧ (decode cX10_back 31 = .ok (.iconst 0, 1)) ∧ (decode cX10_back 32 = .ok (.istore_n 2, 1)) ∧ (decode cX10_back 33 = .ok (.iload_n 2, 1)) ∧ (decode cX10_back 34 = .ok (.sipush 5640, 3)) ∧ (decode cX10_back 37 = .ok (.if_icmp .ge 27, 3)) ∧ (decode cX10_back 40 = .ok (.aload_n 0, 1)) ∧ (decode cX10_back 41 = .ok (.getfield 28, 3)) ∧ (decode cX10_back 44 = .ok (.iload_n 2, 1)) ∧ (decode cX10_back 45 = .ok (.aload_n 0, 1)) ∧ (decode cX10_back 46 = .ok (.getfield 31, 3)) ∧ (decode cX10_back 49 = .ok (.sipush 5640, 3)) ∧ (decode cX10_back 52 = .ok (.iload_n 1, 1)) ∧ (decode cX10_back 53 = .ok (.imul, 1)) ∧ (decode cX10_back 54 = .ok (.iload_n 2, 1)) := by decide +kernel
theorem dX10_back_27 : decode cX10_back 27 = .ok (.invokevirtual 119, 3) := da9_dX10_back_27.1
theorem dX10_back_30 : decode cX10_back 30 = .ok (.ireturn, 1) := da9_dX10_back_27.2.1
theorem dX10_back_31 : decode cX10_back 31 = .ok (.iconst 0, 1) := da9_dX10_back_27.2.2.1
theorem dX10_back_32 : decode cX10_back 32 = .ok (.istore_n 2, 1) := da9_dX10_back_27.2.2.2.1
theorem dX10_back_33 : decode cX10_back 33 = .ok (.iload_n 2, 1) := da9_dX10_back_27.2.2.2.2.1
theorem dX10_back_34 : decode cX10_back 34 = .ok (.sipush 5640, 3) := da9_dX10_back_27.2.2.2.2.2.1
theorem dX10_back_37 : decode cX10_back 37 = .ok (.if_icmp .ge 27, 3) := da9_dX10_back_27.2.2.2.2.2.2.1
theorem dX10_back_40 : decode cX10_back 40 = .ok (.aload_n 0, 1) := da9_dX10_back_27.2.2.2.2.2.2.2.1
theorem dX10_back_41 : decode cX10_back 41 = .ok (.getfield 28, 3) := da9_dX10_back_27.2.2.2.2.2.2.2.2.1
theorem dX10_back_44 : decode cX10_back 44 = .ok (.iload_n 2, 1) := da9_dX10_back_27.2.2.2.2.2.2.2.2.2.1
theorem dX10_back_45 : decode cX10_back 45 = .ok (.aload_n 0, 1) := da9_dX10_back_27.2.2.2.2.2.2.2.2.2.2.1
theorem dX10_back_46 : decode cX10_back 46 = .ok (.getfield 31, 3) := da9_dX10_back_27.2.2.2.2.2.2.2.2.2.2.2.1
theorem dX10_back_49 : decode cX10_back 49 = .ok (.sipush 5640, 3) := da9_dX10_back_27.2.2.2.2.2.2.2.2.2.2.2.2.1
theorem dX10_back_52 : decode cX10_back 52 = .ok (.iload_n 1, 1) := da9_dX10_back_27.2.2.2.2.2.2.2.2.2.2.2.2.2.1
theorem dX10_back_53 : decode cX10_back 53 = .ok (.imul, 1) := da9_dX10_back_27.2.2.2.2.2.2.2.2.2.2.2.2.2.2.1
theorem dX10_back_54 : decode cX10_back 54 = .ok (.iload_n 2, 1) := da9_dX10_back_27.2.2.2.2.2.2.2.2.2.2.2.2.2.2.2
theorem da9_dX10_back_55 : (decode cX10_back 55 = .ok (.iadd, 1)) ∧ (decode cX10_back 56 = .ok (.iaload, 1)) ∧ (decode cX10_back 57 = .ok (.iastore, 1)) ∧ (decode cX10_back 58 = .ok (.iinc 2 1, 3)) ∧ (decode cX10_back 61 = .ok (.goto (-28), 3)) ∧ (decode cX10_back 64 = .ok (.aload_n 0, 1)) ∧ (decode cX10_back 65 = .ok (.iconst 0, 1)) ∧ (decode cX10_back 66 = .ok (.invokevirtual 122, 3)) ∧ (decode cX10_back 69 = .ok (.ireturn, 1)) := by decide +kernel
theorem dX10_back_55 : decode cX10_back 55 = .ok (.iadd, 1) := da9_dX10_back_55.1
theorem dX10_back_56 : decode cX10_back 56 = .ok (.iaload, 1) := da9_dX10_back_55.2.1
theorem dX10_back_57 : decode cX10_back 57 = .ok (.iastore, 1) := da9_dX10_back_55.2.2.1
theorem dX10_back_58 : decode cX10_back 58 = .ok (.iinc 2 1, 3) := da9_dX10_back_55.2.2.2.1
theorem dX10_back_61 : decode cX10_back 61 = .ok (.goto (-28), 3) := da9_dX10_back_55.2.2.2.2.1
theorem dX10_back_64 : decode cX10_back 64 = .ok (.aload_n 0, 1) := da9_dX10_back_55.2.2.2.2.2.1
theorem dX10_back_65 : decode cX10_back 65 = .ok (.iconst 0, 1) := da9_dX10_back_55.2.2.2.2.2.2.1
theorem dX10_back_66 : decode cX10_back 66 = .ok (.invokevirtual 122, 3) := da9_dX10_back_55.2.2.2.2.2.2.2.1
theorem dX10_back_69 : decode cX10_back 69 = .ok (.ireturn, 1) := da9_dX10_back_55.2.2.2.2.2.2.2.2
theorem da9_dX10_size_0 : (decode cX10_size 0 = .ok (.aload_n 0, 1)) ∧ (decode cX10_size 1 = .ok (.getfield 28, 3)) ∧ (decode cX10_size 4 = .ok (.bipush 29, 2)) ∧ (decode cX10_size 6 = .ok (.iaload, 1)) ∧ (decode cX10_size 7 = .ok (.ireturn, 1)) := by decide +kernel
theorem dX10_size_0 : decode cX10_size 0 = .ok (.aload_n 0, 1) := da9_dX10_size_0.1
theorem dX10_size_1 : decode cX10_size 1 = .ok (.getfield 28, 3) := da9_dX10_size_0.2.1
theorem dX10_size_4 : decode cX10_size 4 = .ok (.bipush 29, 2) := da9_dX10_size_0.2.2.1
theorem dX10_size_6 : decode cX10_size 6 = .ok (.iaload, 1) := da9_dX10_size_0.2.2.2.1
theorem dX10_size_7 : decode cX10_size 7 = .ok (.ireturn, 1) := da9_dX10_size_0.2.2.2.2
set_option maxRecDepth 20000 in
theorem ggX10_isPlace_X10_size : GoodIn wsX10_isPlace wsX10_size := goodIn_r _ [5, 6, 10, 11, 12, 13, 14, 15, 16, 17, 18, 19, 20, 21, 22, 23, 24, 25, 26, 27, 28, 29, 30, 31, 32, 33, 34, 35, 36, 37, 38, 39, 40, 41, 42, 43, 44, 45, 46, 47, 48, 49, 50, 51, 52, 53, 54, 55, 56, 57, 58, 59, 60, 61, 62, 63, 64, 65] rfl (by decide +kernel)
set_option maxRecDepth 20000 in
theorem gX10_isPlace_X10_size : GoodIn wsX10_isPlace (wsV RX10 125 RX10 yX10_size wsX10_size) := goodIn_app (goodIn_of _ (by decide +kernel)) ggX10_isPlace_X10_size
set_option maxRecDepth 20000 in
theorem ggX10_isPlace_X10_lies : GoodIn wsX10_isPlace wsX10_lies := goodIn_r _ [9] rfl (by decide +kernel)
set_option maxRecDepth 20000 in
theorem gX10_isPlace_X10_lies : GoodIn wsX10_isPlace (va_wsS RX10 18 yX10_lies wsX10_lies) := goodIn_app (goodIn_of _ (by decide +kernel)) ggX10_isPlace_X10_lies
theorem da9_dX10_isPlace_0 : (decode cX10_isPlace 0 = .ok (.iload_n 1, 1)) ∧ (decode cX10_isPlace 1 = .ok (.iconst 0, 1)) ∧ (decode cX10_isPlace 2 = .ok (.aload_n 0, 1)) ∧ (decode cX10_isPlace 3 = .ok (.invokevirtual 125, 3)) ∧ (decode cX10_isPlace 6 = .ok (.iconst 1, 1)) ∧ (decode cX10_isPlace 7 = .ok (.isub, 1)) ∧ (decode cX10_isPlace 8 = .ok (.invokestatic 18, 3)) ∧ (decode cX10_isPlace 11 = .ok (.ireturn, 1)) := by decide +kernel
theorem dX10_isPlace_0 : decode cX10_isPlace 0 = .ok (.iload_n 1, 1) := da9_dX10_isPlace_0.1
theorem dX10_isPlace_1 : decode cX10_isPlace 1 = .ok (.iconst 0, 1) := da9_dX10_isPlace_0.2.1
theorem dX10_isPlace_2 : decode cX10_isPlace 2 = .ok (.aload_n 0, 1) := da9_dX10_isPlace_0.2.2.1
theorem dX10_isPlace_3 : decode cX10_isPlace 3 = .ok (.invokevirtual 125, 3) := da9_dX10_isPlace_0.2.2.2.1
theorem dX10_isPlace_6 : decode cX10_isPlace 6 = .ok (.iconst 1, 1) := da9_dX10_isPlace_0.2.2.2.2.1
theorem dX10_isPlace_7 : decode cX10_isPlace 7 = .ok (.isub, 1) := da9_dX10_isPlace_0.2.2.2.2.2.1
theorem dX10_isPlace_8 : decode cX10_isPlace 8 = .ok (.invokestatic 18, 3) := da9_dX10_isPlace_0.2.2.2.2.2.2.1
theorem dX10_isPlace_11 : decode cX10_isPlace 11 = .ok (.ireturn, 1) := da9_dX10_isPlace_0.2.2.2.2.2.2.2
set_option maxRecDepth 20000 in
theorem ggX10_placeOf_X10_size : GoodIn wsX10_placeOf wsX10_size := goodIn_r _ [6, 1, 7, 8, 9, 10, 11, 12, 13, 14, 15, 16, 17, 18, 19, 20, 21, 22, 23, 24, 25, 26, 27, 28, 29, 30, 31, 32, 33, 34, 35, 36, 37, 38, 39, 40, 41, 42, 43, 44, 45, 46, 47, 48, 49, 50, 51, 52, 53, 54, 55, 56, 57, 58, 59, 60, 61, 62] rfl (by decide +kernel)
set_option maxRecDepth 20000 in
theorem gX10_placeOf_X10_size : GoodIn wsX10_placeOf (wsV RX10 125 RX10 yX10_size wsX10_size) := goodIn_app (goodIn_of _ (by decide +kernel)) ggX10_placeOf_X10_size
theorem da9_dX10_placeOf_0 : (decode cX10_placeOf 0 = .ok (.iconst (-1), 1)) ∧ (decode cX10_placeOf 1 = .ok (.istore_n 2, 1)) ∧ (decode cX10_placeOf 2 = .ok (.iconst 0, 1)) ∧ (decode cX10_placeOf 3 = .ok (.istore_n 3, 1)) ∧ (decode cX10_placeOf 4 = .ok (.iload_n 3, 1)) ∧ (decode cX10_placeOf 5 = .ok (.aload_n 0, 1)) ∧ (decode cX10_placeOf 6 = .ok (.invokevirtual 125, 3)) ∧ (decode cX10_placeOf 9 = .ok (.if_icmp .ge 27, 3)) ∧ (decode cX10_placeOf 12 = .ok (.aload_n 0, 1)) ∧ (decode cX10_placeOf 13 = .ok (.getfield 28, 3)) ∧ (decode cX10_placeOf 16 = .ok (.iconst 0, 1)) ∧ (decode cX10_placeOf 17 = .ok (.iload_n 3, 1)) ∧ (decode cX10_placeOf 18 = .ok (.iadd, 1)) ∧ (decode cX10_placeOf 19 = .ok (.iaload, 1)) ∧ (decode cX10_placeOf 20 = .ok (.iload_n 1, 1)) ∧ (decode cX10_placeOf 21 = .ok (.if_icmp .ne 7, 3)) := by decide +kernel
theorem dX10_placeOf_0 : decode cX10_placeOf 0 = .ok (.iconst (-1), 1) := da9_dX10_placeOf_0.1
theorem dX10_placeOf_1 : decode cX10_placeOf 1 = .ok (.istore_n 2, 1) := da9_dX10_placeOf_0.2.1
theorem dX10_placeOf_2 : decode cX10_placeOf 2 = .ok (.iconst 0, 1) := da9_dX10_placeOf_0.2.2.1
theorem dX10_placeOf_3 : decode cX10_placeOf 3 = .ok (.istore_n 3, 1) := da9_dX10_placeOf_0.2.2.2.1
theorem dX10_placeOf_4 : decode cX10_placeOf 4 = .ok (.iload_n 3, 1) := da9_dX10_placeOf_0.2.2.2.2.1
theorem dX10_placeOf_5 : decode cX10_placeOf 5 = .ok (.aload_n 0, 1) := da9_dX10_placeOf_0.2.2.2.2.2.1
theorem dX10_placeOf_6 : decode cX10_placeOf 6 = .ok (.invokevirtual 125, 3) := da9_dX10_placeOf_0.2.2.2.2.2.2.1
theorem dX10_placeOf_9 : decode cX10_placeOf 9 = .ok (.if_icmp .ge 27, 3) := da9_dX10_placeOf_0.2.2.2.2.2.2.2.1
theorem dX10_placeOf_12 : decode cX10_placeOf 12 = .ok (.aload_n 0, 1) := da9_dX10_placeOf_0.2.2.2.2.2.2.2.2.1
theorem dX10_placeOf_13 : decode cX10_placeOf 13 = .ok (.getfield 28, 3) := da9_dX10_placeOf_0.2.2.2.2.2.2.2.2.2.1
theorem dX10_placeOf_16 : decode cX10_placeOf 16 = .ok (.iconst 0, 1) := da9_dX10_placeOf_0.2.2.2.2.2.2.2.2.2.2.1
theorem dX10_placeOf_17 : decode cX10_placeOf 17 = .ok (.iload_n 3, 1) := da9_dX10_placeOf_0.2.2.2.2.2.2.2.2.2.2.2.1
theorem dX10_placeOf_18 : decode cX10_placeOf 18 = .ok (.iadd, 1) := da9_dX10_placeOf_0.2.2.2.2.2.2.2.2.2.2.2.2.1
theorem dX10_placeOf_19 : decode cX10_placeOf 19 = .ok (.iaload, 1) := da9_dX10_placeOf_0.2.2.2.2.2.2.2.2.2.2.2.2.2.1
theorem dX10_placeOf_20 : decode cX10_placeOf 20 = .ok (.iload_n 1, 1) := da9_dX10_placeOf_0.2.2.2.2.2.2.2.2.2.2.2.2.2.2.1
theorem dX10_placeOf_21 : decode cX10_placeOf 21 = .ok (.if_icmp .ne 7, 3) := da9_dX10_placeOf_0.2.2.2.2.2.2.2.2.2.2.2.2.2.2.2
theorem da9_dX10_placeOf_24 : (decode cX10_placeOf 24 = .ok (.iload_n 3, 1)) ∧ (decode cX10_placeOf 25 = .ok (.goto 4, 3)) ∧ (decode cX10_placeOf 28 = .ok (.iload_n 2, 1)) ∧ (decode cX10_placeOf 29 = .ok (.istore_n 2, 1)) ∧ (decode cX10_placeOf 30 = .ok (.iinc 3 1, 3)) ∧ (decode cX10_placeOf 33 = .ok (.goto (-29), 3)) ∧ (decode cX10_placeOf 36 = .ok (.iload_n 2, 1)) ∧ (decode cX10_placeOf 37 = .ok (.ireturn, 1)) := by decide +kernel
theorem dX10_placeOf_24 : decode cX10_placeOf 24 = .ok (.iload_n 3, 1) := da9_dX10_placeOf_24.1
theorem dX10_placeOf_25 : decode cX10_placeOf 25 = .ok (.goto 4, 3) := da9_dX10_placeOf_24.2.1
theorem dX10_placeOf_28 : decode cX10_placeOf 28 = .ok (.iload_n 2, 1) := da9_dX10_placeOf_24.2.2.1
theorem dX10_placeOf_29 : decode cX10_placeOf 29 = .ok (.istore_n 2, 1) := da9_dX10_placeOf_24.2.2.2.1
theorem dX10_placeOf_30 : decode cX10_placeOf 30 = .ok (.iinc 3 1, 3) := da9_dX10_placeOf_24.2.2.2.2.1
theorem dX10_placeOf_33 : decode cX10_placeOf 33 = .ok (.goto (-29), 3) := da9_dX10_placeOf_24.2.2.2.2.2.1
theorem dX10_placeOf_36 : decode cX10_placeOf 36 = .ok (.iload_n 2, 1) := da9_dX10_placeOf_24.2.2.2.2.2.2.1
theorem dX10_placeOf_37 : decode cX10_placeOf 37 = .ok (.ireturn, 1) := da9_dX10_placeOf_24.2.2.2.2.2.2.2
set_option maxRecDepth 20000 in
theorem ggX10_adds_X10_size : GoodIn wsX10_adds wsX10_size := goodIn_r _ [6, 1, 7, 8, 9, 10, 11, 12, 13, 14, 15, 16, 17, 18, 19, 20, 21, 22, 23, 24, 25, 26, 27, 28, 29, 30, 31, 32, 33, 34, 35, 36, 37, 38, 39, 40, 41, 42, 43, 44, 45, 46, 47, 48, 49, 50, 51, 52, 53, 54, 55, 56, 57, 58, 59, 60, 61, 62] rfl (by decide +kernel)
set_option maxRecDepth 20000 in
theorem gX10_adds_X10_size : GoodIn wsX10_adds (wsV RX10 125 RX10 yX10_size wsX10_size) := goodIn_app (goodIn_of _ (by decide +kernel)) ggX10_adds_X10_size
theorem da9_dX10_adds_0 : (decode cX10_adds 0 = .ok (.aload_n 0, 1)) ∧ (decode cX10_adds 1 = .ok (.getfield 28, 3)) ∧ (decode cX10_adds 4 = .ok (.iconst 0, 1)) ∧ (decode cX10_adds 5 = .ok (.aload_n 0, 1)) ∧ (decode cX10_adds 6 = .ok (.invokevirtual 125, 3)) ∧ (decode cX10_adds 9 = .ok (.iadd, 1)) ∧ (decode cX10_adds 10 = .ok (.iload_n 1, 1)) ∧ (decode cX10_adds 11 = .ok (.iastore, 1)) ∧ (decode cX10_adds 12 = .ok (.aload_n 0, 1)) ∧ (decode cX10_adds 13 = .ok (.getfield 28, 3)) ∧ (decode cX10_adds 16 = .ok (.bipush 6, 2)) ∧ (decode cX10_adds 18 = .ok (.aload_n 0, 1)) ∧ (decode cX10_adds 19 = .ok (.invokevirtual 125, 3)) ∧ (decode cX10_adds 22 = .ok (.iadd, 1)) ∧ (decode cX10_adds 23 = .ok (.iload_n 2, 1)) ∧ (decode cX10_adds 24 = .ok (.iastore, 1)) := by decide +kernel
theorem dX10_adds_0 : decode cX10_adds 0 = .ok (.aload_n 0, 1) := da9_dX10_adds_0.1
theorem dX10_adds_1 : decode cX10_adds 1 = .ok (.getfield 28, 3) := da9_dX10_adds_0.2.1
theorem dX10_adds_4 : decode cX10_adds 4 = .ok (.iconst 0, 1) := da9_dX10_adds_0.2.2.1
theorem dX10_adds_5 : decode cX10_adds 5 = .ok (.aload_n 0, 1) := da9_dX10_adds_0.2.2.2.1
theorem dX10_adds_6 : decode cX10_adds 6 = .ok (.invokevirtual 125, 3) := da9_dX10_adds_0.2.2.2.2.1
theorem dX10_adds_9 : decode cX10_adds 9 = .ok (.iadd, 1) := da9_dX10_adds_0.2.2.2.2.2.1
theorem dX10_adds_10 : decode cX10_adds 10 = .ok (.iload_n 1, 1) := da9_dX10_adds_0.2.2.2.2.2.2.1
theorem dX10_adds_11 : decode cX10_adds 11 = .ok (.iastore, 1) := da9_dX10_adds_0.2.2.2.2.2.2.2.1
theorem dX10_adds_12 : decode cX10_adds 12 = .ok (.aload_n 0, 1) := da9_dX10_adds_0.2.2.2.2.2.2.2.2.1
theorem dX10_adds_13 : decode cX10_adds 13 = .ok (.getfield 28, 3) := da9_dX10_adds_0.2.2.2.2.2.2.2.2.2.1
theorem dX10_adds_16 : decode cX10_adds 16 = .ok (.bipush 6, 2) := da9_dX10_adds_0.2.2.2.2.2.2.2.2.2.2.1
theorem dX10_adds_18 : decode cX10_adds 18 = .ok (.aload_n 0, 1) := da9_dX10_adds_0.2.2.2.2.2.2.2.2.2.2.2.1
theorem dX10_adds_19 : decode cX10_adds 19 = .ok (.invokevirtual 125, 3) := da9_dX10_adds_0.2.2.2.2.2.2.2.2.2.2.2.2.1
theorem dX10_adds_22 : decode cX10_adds 22 = .ok (.iadd, 1) := da9_dX10_adds_0.2.2.2.2.2.2.2.2.2.2.2.2.2.1
theorem dX10_adds_23 : decode cX10_adds 23 = .ok (.iload_n 2, 1) := da9_dX10_adds_0.2.2.2.2.2.2.2.2.2.2.2.2.2.2.1
theorem dX10_adds_24 : decode cX10_adds 24 = .ok (.iastore, 1) := da9_dX10_adds_0.2.2.2.2.2.2.2.2.2.2.2.2.2.2.2
theorem da9_dX10_adds_25 : (decode cX10_adds 25 = .ok (.aload_n 0, 1)) ∧ (decode cX10_adds 26 = .ok (.getfield 28, 3)) ∧ (decode cX10_adds 29 = .ok (.bipush 29, 2)) ∧ (decode cX10_adds 31 = .ok (.dup2, 1)) ∧ (decode cX10_adds 32 = .ok (.iaload, 1)) ∧ (decode cX10_adds 33 = .ok (.iconst 1, 1)) ∧ (decode cX10_adds 34 = .ok (.iadd, 1)) ∧ (decode cX10_adds 35 = .ok (.iastore, 1)) ∧ (decode cX10_adds 36 = .ok (.return_, 1)) := by decide +kernel
theorem dX10_adds_25 : decode cX10_adds 25 = .ok (.aload_n 0, 1) := da9_dX10_adds_25.1
theorem dX10_adds_26 : decode cX10_adds 26 = .ok (.getfield 28, 3) := da9_dX10_adds_25.2.1
theorem dX10_adds_29 : decode cX10_adds 29 = .ok (.bipush 29, 2) := da9_dX10_adds_25.2.2.1
theorem dX10_adds_31 : decode cX10_adds 31 = .ok (.dup2, 1) := da9_dX10_adds_25.2.2.2.1
theorem dX10_adds_32 : decode cX10_adds 32 = .ok (.iaload, 1) := da9_dX10_adds_25.2.2.2.2.1
theorem dX10_adds_33 : decode cX10_adds 33 = .ok (.iconst 1, 1) := da9_dX10_adds_25.2.2.2.2.2.1
theorem dX10_adds_34 : decode cX10_adds 34 = .ok (.iadd, 1) := da9_dX10_adds_25.2.2.2.2.2.2.1
theorem dX10_adds_35 : decode cX10_adds 35 = .ok (.iastore, 1) := da9_dX10_adds_25.2.2.2.2.2.2.2.1
theorem dX10_adds_36 : decode cX10_adds 36 = .ok (.return_, 1) := da9_dX10_adds_25.2.2.2.2.2.2.2.2
set_option maxRecDepth 20000 in
theorem ggX10_floor_X10_isRank : GoodIn wsX10_floor wsX10_isRank := goodIn_r _ [4, 5, 6, 3, 7] rfl (by decide +kernel)
set_option maxRecDepth 20000 in
theorem gX10_floor_X10_isRank : GoodIn wsX10_floor (va_wsS RX10 129 yX10_isRank wsX10_isRank) := goodIn_app (goodIn_of _ (by decide +kernel)) ggX10_floor_X10_isRank
set_option maxRecDepth 20000 in
theorem ggX10_floor_X10_isBit : GoodIn wsX10_floor wsX10_isBit := goodIn_r _ [10, 5, 6, 3, 7] rfl (by decide +kernel)
set_option maxRecDepth 20000 in
theorem gX10_floor_X10_isBit : GoodIn wsX10_floor (va_wsS RX10 133 yX10_isBit wsX10_isBit) := goodIn_app (goodIn_of _ (by decide +kernel)) ggX10_floor_X10_isBit
set_option maxRecDepth 20000 in
theorem ggX10_floor_X10_refuses : GoodIn wsX10_floor wsX10_refuses := goodIn_r _ [14, 15, 16, 39, 40, 41, 42, 43, 44, 45, 46, 47, 48, 49, 50, 51, 52, 53, 54, 55, 56, 57, 58, 59, 60, 61, 62, 63, 64, 65, 66, 67, 68, 69, 70, 71, 72, 73, 74, 75, 76, 77, 78, 79, 80, 81, 82, 83, 84, 85, 86, 87, 88, 89, 90, 91, 92, 93, 94] rfl (by decide +kernel)
set_option maxRecDepth 20000 in
theorem gX10_floor_X10_refuses : GoodIn wsX10_floor (wsV RX10 119 RX10 yX10_refuses wsX10_refuses) := goodIn_app (goodIn_of _ (by decide +kernel)) ggX10_floor_X10_refuses
set_option maxRecDepth 20000 in
theorem ggX10_floor_X10_placeOf : GoodIn wsX10_floor wsX10_placeOf := goodIn_r _ [20, 21, 22, 23, 24, 3, 25, 39, 40, 41, 42, 43, 44, 45, 46, 47, 48, 49, 50, 51, 52, 53, 54, 55, 56, 57, 58, 59, 60, 61, 62, 63, 64, 65, 66, 67, 68, 69, 70, 71, 72, 73, 74, 75, 76, 77, 78, 79, 80, 81, 82, 83, 84, 85, 86, 87, 88, 89, 90, 91, 92, 93, 94] rfl (by decide +kernel)
set_option maxRecDepth 20000 in
theorem gX10_floor_X10_placeOf : GoodIn wsX10_floor (wsV RX10 136 RX10 yX10_placeOf wsX10_placeOf) := goodIn_app (goodIn_of _ (by decide +kernel)) ggX10_floor_X10_placeOf
set_option maxRecDepth 20000 in
theorem ggX10_floor_X10_size : GoodIn wsX10_floor wsX10_size := goodIn_r _ [25, 21, 39, 40, 41, 42, 43, 44, 45, 46, 47, 48, 49, 50, 51, 52, 53, 54, 55, 56, 57, 58, 59, 60, 61, 62, 63, 64, 65, 66, 67, 68, 69, 70, 71, 72, 73, 74, 75, 76, 77, 78, 79, 80, 81, 82, 83, 84, 85, 86, 87, 88, 89, 90, 91, 92, 93, 94] rfl (by decide +kernel)
set_option maxRecDepth 20000 in
theorem gX10_floor_X10_size : GoodIn wsX10_floor (wsV RX10 125 RX10 yX10_size wsX10_size) := goodIn_app (goodIn_of _ (by decide +kernel)) ggX10_floor_X10_size
set_option maxRecDepth 20000 in
theorem ggX10_floor_X10_adds : GoodIn wsX10_floor wsX10_adds := goodIn_r _ [29, 21, 22, 23, 24, 3, 25, 39, 40, 41, 42, 43, 44, 45, 46, 47, 48, 49, 50, 51, 52, 53, 54, 55, 56, 57, 58, 59, 60, 61, 62, 63, 64, 65, 66, 67, 68, 69, 70, 71, 72, 73, 74, 75, 76, 77, 78, 79, 80, 81, 82, 83, 84, 85, 86, 87, 88, 89, 90, 91, 92, 93, 94] rfl (by decide +kernel)
set_option maxRecDepth 20000 in
theorem gX10_floor_X10_adds : GoodIn wsX10_floor (wsV RX10 139 RX10 yX10_adds wsX10_adds) := goodIn_app (goodIn_of _ (by decide +kernel)) ggX10_floor_X10_adds
set_option maxRecDepth 20000 in
theorem ggX10_floor_X10_settled : GoodIn wsX10_floor wsX10_settled := goodIn_r _ [33, 34, 35, 36, 37, 3, 38, 15, 39, 40, 41, 42, 43, 44, 45, 46, 47, 48, 49, 50, 51, 52, 53, 54, 55, 56, 57, 58, 59, 60, 61, 62, 63, 64, 65, 66, 67, 68, 69, 70, 71, 72, 73, 74, 75, 76, 77, 78, 79, 80, 81, 82, 83, 84, 85, 86, 87, 88, 89, 90, 91, 92, 93, 94] rfl (by decide +kernel)
set_option maxRecDepth 20000 in
theorem gX10_floor_X10_settled : GoodIn wsX10_floor (wsV RX10 122 RX10 yX10_settled wsX10_settled) := goodIn_app (goodIn_of _ (by decide +kernel)) ggX10_floor_X10_settled
theorem da9_dX10_floor_0 : (decode cX10_floor 0 = .ok (.iload_n 1, 1)) ∧ (decode cX10_floor 1 = .ok (.invokestatic 129, 3)) ∧ (decode cX10_floor 4 = .ok (.ifCond .eq 10, 3)) ∧ (decode cX10_floor 7 = .ok (.iload_n 2, 1)) ∧ (decode cX10_floor 8 = .ok (.invokestatic 133, 3)) ∧ (decode cX10_floor 11 = .ok (.ifCond .ne 9, 3)) ∧ (decode cX10_floor 14 = .ok (.aload_n 0, 1)) ∧ (decode cX10_floor 15 = .ok (.iconst (-1), 1)) ∧ (decode cX10_floor 16 = .ok (.invokevirtual 119, 3)) ∧ (decode cX10_floor 19 = .ok (.ireturn, 1)) ∧ (decode cX10_floor 20 = .ok (.aload_n 0, 1)) ∧ (decode cX10_floor 21 = .ok (.iload_n 1, 1)) ∧ (decode cX10_floor 22 = .ok (.invokevirtual 136, 3)) ∧ (decode cX10_floor 25 = .ok (.iconst (-1), 1)) ∧ (decode cX10_floor 26 = .ok (.if_icmp .eq 10, 3)) ∧ (decode cX10_floor 29 = .ok (.aload_n 0, 1)) := by decide +kernel
theorem dX10_floor_0 : decode cX10_floor 0 = .ok (.iload_n 1, 1) := da9_dX10_floor_0.1
theorem dX10_floor_1 : decode cX10_floor 1 = .ok (.invokestatic 129, 3) := da9_dX10_floor_0.2.1
theorem dX10_floor_4 : decode cX10_floor 4 = .ok (.ifCond .eq 10, 3) := da9_dX10_floor_0.2.2.1
theorem dX10_floor_7 : decode cX10_floor 7 = .ok (.iload_n 2, 1) := da9_dX10_floor_0.2.2.2.1
theorem dX10_floor_8 : decode cX10_floor 8 = .ok (.invokestatic 133, 3) := da9_dX10_floor_0.2.2.2.2.1
theorem dX10_floor_11 : decode cX10_floor 11 = .ok (.ifCond .ne 9, 3) := da9_dX10_floor_0.2.2.2.2.2.1
theorem dX10_floor_14 : decode cX10_floor 14 = .ok (.aload_n 0, 1) := da9_dX10_floor_0.2.2.2.2.2.2.1
theorem dX10_floor_15 : decode cX10_floor 15 = .ok (.iconst (-1), 1) := da9_dX10_floor_0.2.2.2.2.2.2.2.1
theorem dX10_floor_16 : decode cX10_floor 16 = .ok (.invokevirtual 119, 3) := da9_dX10_floor_0.2.2.2.2.2.2.2.2.1
theorem dX10_floor_19 : decode cX10_floor 19 = .ok (.ireturn, 1) := da9_dX10_floor_0.2.2.2.2.2.2.2.2.2.1
theorem dX10_floor_20 : decode cX10_floor 20 = .ok (.aload_n 0, 1) := da9_dX10_floor_0.2.2.2.2.2.2.2.2.2.2.1
theorem dX10_floor_21 : decode cX10_floor 21 = .ok (.iload_n 1, 1) := da9_dX10_floor_0.2.2.2.2.2.2.2.2.2.2.2.1
theorem dX10_floor_22 : decode cX10_floor 22 = .ok (.invokevirtual 136, 3) := da9_dX10_floor_0.2.2.2.2.2.2.2.2.2.2.2.2.1
theorem dX10_floor_25 : decode cX10_floor 25 = .ok (.iconst (-1), 1) := da9_dX10_floor_0.2.2.2.2.2.2.2.2.2.2.2.2.2.1
theorem dX10_floor_26 : decode cX10_floor 26 = .ok (.if_icmp .eq 10, 3) := da9_dX10_floor_0.2.2.2.2.2.2.2.2.2.2.2.2.2.2.1
theorem dX10_floor_29 : decode cX10_floor 29 = .ok (.aload_n 0, 1) := da9_dX10_floor_0.2.2.2.2.2.2.2.2.2.2.2.2.2.2.2
theorem da9_dX10_floor_30 : (decode cX10_floor 30 = .ok (.bipush (-3), 2)) ∧ (decode cX10_floor 32 = .ok (.invokevirtual 119, 3)) ∧ (decode cX10_floor 35 = .ok (.ireturn, 1)) ∧ (decode cX10_floor 36 = .ok (.aload_n 0, 1)) ∧ (decode cX10_floor 37 = .ok (.invokevirtual 125, 3)) ∧ (decode cX10_floor 40 = .ok (.bipush 6, 2)) ∧ (decode cX10_floor 42 = .ok (.if_icmp .ne 10, 3)) ∧ (decode cX10_floor 45 = .ok (.aload_n 0, 1)) ∧ (decode cX10_floor 46 = .ok (.bipush (-5), 2)) ∧ (decode cX10_floor 48 = .ok (.invokevirtual 119, 3)) ∧ (decode cX10_floor 51 = .ok (.ireturn, 1)) ∧ (decode cX10_floor 52 = .ok (.aload_n 0, 1)) ∧ (decode cX10_floor 53 = .ok (.iload_n 1, 1)) ∧ (decode cX10_floor 54 = .ok (.iload_n 2, 1)) ∧ (decode cX10_floor 55 = .ok (.invokevirtual 139, 3)) ∧ (decode cX10_floor 58 = .ok (.aload_n 0, 1)) := by decide +kernel
theorem dX10_floor_30 : decode cX10_floor 30 = .ok (.bipush (-3), 2) := da9_dX10_floor_30.1
theorem dX10_floor_32 : decode cX10_floor 32 = .ok (.invokevirtual 119, 3) := da9_dX10_floor_30.2.1
theorem dX10_floor_35 : decode cX10_floor 35 = .ok (.ireturn, 1) := da9_dX10_floor_30.2.2.1
theorem dX10_floor_36 : decode cX10_floor 36 = .ok (.aload_n 0, 1) := da9_dX10_floor_30.2.2.2.1
theorem dX10_floor_37 : decode cX10_floor 37 = .ok (.invokevirtual 125, 3) := da9_dX10_floor_30.2.2.2.2.1
theorem dX10_floor_40 : decode cX10_floor 40 = .ok (.bipush 6, 2) := da9_dX10_floor_30.2.2.2.2.2.1
theorem dX10_floor_42 : decode cX10_floor 42 = .ok (.if_icmp .ne 10, 3) := da9_dX10_floor_30.2.2.2.2.2.2.1
theorem dX10_floor_45 : decode cX10_floor 45 = .ok (.aload_n 0, 1) := da9_dX10_floor_30.2.2.2.2.2.2.2.1
theorem dX10_floor_46 : decode cX10_floor 46 = .ok (.bipush (-5), 2) := da9_dX10_floor_30.2.2.2.2.2.2.2.2.1
theorem dX10_floor_48 : decode cX10_floor 48 = .ok (.invokevirtual 119, 3) := da9_dX10_floor_30.2.2.2.2.2.2.2.2.2.1
theorem dX10_floor_51 : decode cX10_floor 51 = .ok (.ireturn, 1) := da9_dX10_floor_30.2.2.2.2.2.2.2.2.2.2.1
theorem dX10_floor_52 : decode cX10_floor 52 = .ok (.aload_n 0, 1) := da9_dX10_floor_30.2.2.2.2.2.2.2.2.2.2.2.1
theorem dX10_floor_53 : decode cX10_floor 53 = .ok (.iload_n 1, 1) := da9_dX10_floor_30.2.2.2.2.2.2.2.2.2.2.2.2.1
theorem dX10_floor_54 : decode cX10_floor 54 = .ok (.iload_n 2, 1) := da9_dX10_floor_30.2.2.2.2.2.2.2.2.2.2.2.2.2.1
theorem dX10_floor_55 : decode cX10_floor 55 = .ok (.invokevirtual 139, 3) := da9_dX10_floor_30.2.2.2.2.2.2.2.2.2.2.2.2.2.2.1
theorem dX10_floor_58 : decode cX10_floor 58 = .ok (.aload_n 0, 1) := da9_dX10_floor_30.2.2.2.2.2.2.2.2.2.2.2.2.2.2.2
theorem da9_dX10_floor_59 : (decode cX10_floor 59 = .ok (.aload_n 0, 1)) ∧ (decode cX10_floor 60 = .ok (.invokevirtual 125, 3)) ∧ (decode cX10_floor 63 = .ok (.iconst 1, 1)) ∧ (decode cX10_floor 64 = .ok (.isub, 1)) ∧ (decode cX10_floor 65 = .ok (.invokevirtual 122, 3)) ∧ (decode cX10_floor 68 = .ok (.ireturn, 1)) := by decide +kernel
theorem dX10_floor_59 : decode cX10_floor 59 = .ok (.aload_n 0, 1) := da9_dX10_floor_59.1
theorem dX10_floor_60 : decode cX10_floor 60 = .ok (.invokevirtual 125, 3) := da9_dX10_floor_59.2.1
theorem dX10_floor_63 : decode cX10_floor 63 = .ok (.iconst 1, 1) := da9_dX10_floor_59.2.2.1
theorem dX10_floor_64 : decode cX10_floor 64 = .ok (.isub, 1) := da9_dX10_floor_59.2.2.2.1
theorem dX10_floor_65 : decode cX10_floor 65 = .ok (.invokevirtual 122, 3) := da9_dX10_floor_59.2.2.2.2.1
theorem dX10_floor_68 : decode cX10_floor 68 = .ok (.ireturn, 1) := da9_dX10_floor_59.2.2.2.2.2
set_option maxRecDepth 20000 in
theorem ggX10_setsAsked_X10_size : GoodIn wsX10_setsAsked wsX10_size := goodIn_r _ [7, 2, 8, 9, 10, 11, 12, 13, 14, 15, 16, 17, 18, 19, 20, 21, 22, 23, 24, 25, 26, 27, 28, 29, 30, 31, 32, 33, 34, 35, 36, 37, 38, 39, 40, 41, 42, 43, 44, 45, 46, 47, 48, 49, 50, 51, 52, 53, 54, 55, 56, 57, 58, 59, 60, 61, 62, 63] rfl (by decide +kernel)
set_option maxRecDepth 20000 in
theorem gX10_setsAsked_X10_size : GoodIn wsX10_setsAsked (wsV RX10 125 RX10 yX10_size wsX10_size) := goodIn_app (goodIn_of _ (by decide +kernel)) ggX10_setsAsked_X10_size
theorem da9_dX10_setsAsked_0 : (decode cX10_setsAsked 0 = .ok (.aload_n 0, 1)) ∧ (decode cX10_setsAsked 1 = .ok (.getfield 63, 3)) ∧ (decode cX10_setsAsked 4 = .ok (.iconst 3, 1)) ∧ (decode cX10_setsAsked 5 = .ok (.aload_n 0, 1)) ∧ (decode cX10_setsAsked 6 = .ok (.invokevirtual 125, 3)) ∧ (decode cX10_setsAsked 9 = .ok (.iastore, 1)) ∧ (decode cX10_setsAsked 10 = .ok (.aload_n 0, 1)) ∧ (decode cX10_setsAsked 11 = .ok (.getfield 63, 3)) ∧ (decode cX10_setsAsked 14 = .ok (.iconst 4, 1)) ∧ (decode cX10_setsAsked 15 = .ok (.iload_n 1, 1)) ∧ (decode cX10_setsAsked 16 = .ok (.iastore, 1)) ∧ (decode cX10_setsAsked 17 = .ok (.aload_n 0, 1)) ∧ (decode cX10_setsAsked 18 = .ok (.getfield 63, 3)) ∧ (decode cX10_setsAsked 21 = .ok (.iconst 5, 1)) ∧ (decode cX10_setsAsked 22 = .ok (.iload_n 2, 1)) ∧ (decode cX10_setsAsked 23 = .ok (.iastore, 1)) := by decide +kernel
theorem dX10_setsAsked_0 : decode cX10_setsAsked 0 = .ok (.aload_n 0, 1) := da9_dX10_setsAsked_0.1
theorem dX10_setsAsked_1 : decode cX10_setsAsked 1 = .ok (.getfield 63, 3) := da9_dX10_setsAsked_0.2.1
theorem dX10_setsAsked_4 : decode cX10_setsAsked 4 = .ok (.iconst 3, 1) := da9_dX10_setsAsked_0.2.2.1
theorem dX10_setsAsked_5 : decode cX10_setsAsked 5 = .ok (.aload_n 0, 1) := da9_dX10_setsAsked_0.2.2.2.1
theorem dX10_setsAsked_6 : decode cX10_setsAsked 6 = .ok (.invokevirtual 125, 3) := da9_dX10_setsAsked_0.2.2.2.2.1
theorem dX10_setsAsked_9 : decode cX10_setsAsked 9 = .ok (.iastore, 1) := da9_dX10_setsAsked_0.2.2.2.2.2.1
theorem dX10_setsAsked_10 : decode cX10_setsAsked 10 = .ok (.aload_n 0, 1) := da9_dX10_setsAsked_0.2.2.2.2.2.2.1
theorem dX10_setsAsked_11 : decode cX10_setsAsked 11 = .ok (.getfield 63, 3) := da9_dX10_setsAsked_0.2.2.2.2.2.2.2.1
theorem dX10_setsAsked_14 : decode cX10_setsAsked 14 = .ok (.iconst 4, 1) := da9_dX10_setsAsked_0.2.2.2.2.2.2.2.2.1
theorem dX10_setsAsked_15 : decode cX10_setsAsked 15 = .ok (.iload_n 1, 1) := da9_dX10_setsAsked_0.2.2.2.2.2.2.2.2.2.1
theorem dX10_setsAsked_16 : decode cX10_setsAsked 16 = .ok (.iastore, 1) := da9_dX10_setsAsked_0.2.2.2.2.2.2.2.2.2.2.1
theorem dX10_setsAsked_17 : decode cX10_setsAsked 17 = .ok (.aload_n 0, 1) := da9_dX10_setsAsked_0.2.2.2.2.2.2.2.2.2.2.2.1
theorem dX10_setsAsked_18 : decode cX10_setsAsked 18 = .ok (.getfield 63, 3) := da9_dX10_setsAsked_0.2.2.2.2.2.2.2.2.2.2.2.2.1
theorem dX10_setsAsked_21 : decode cX10_setsAsked 21 = .ok (.iconst 5, 1) := da9_dX10_setsAsked_0.2.2.2.2.2.2.2.2.2.2.2.2.2.1
theorem dX10_setsAsked_22 : decode cX10_setsAsked 22 = .ok (.iload_n 2, 1) := da9_dX10_setsAsked_0.2.2.2.2.2.2.2.2.2.2.2.2.2.2.1
theorem dX10_setsAsked_23 : decode cX10_setsAsked 23 = .ok (.iastore, 1) := da9_dX10_setsAsked_0.2.2.2.2.2.2.2.2.2.2.2.2.2.2.2
theorem da9_dX10_setsAsked_24 : (decode cX10_setsAsked 24 = .ok (.aload_n 0, 1)) ∧ (decode cX10_setsAsked 25 = .ok (.getfield 63, 3)) ∧ (decode cX10_setsAsked 28 = .ok (.bipush 6, 2)) ∧ (decode cX10_setsAsked 30 = .ok (.aload_n 0, 1)) ∧ (decode cX10_setsAsked 31 = .ok (.getfield 28, 3)) ∧ (decode cX10_setsAsked 34 = .ok (.bipush 27, 2)) ∧ (decode cX10_setsAsked 36 = .ok (.iaload, 1)) ∧ (decode cX10_setsAsked 37 = .ok (.iastore, 1)) ∧ (decode cX10_setsAsked 38 = .ok (.aload_n 0, 1)) ∧ (decode cX10_setsAsked 39 = .ok (.getfield 63, 3)) ∧ (decode cX10_setsAsked 42 = .ok (.bipush 7, 2)) ∧ (decode cX10_setsAsked 44 = .ok (.iload_n 3, 1)) ∧ (decode cX10_setsAsked 45 = .ok (.iastore, 1)) ∧ (decode cX10_setsAsked 46 = .ok (.aload_n 0, 1)) ∧ (decode cX10_setsAsked 47 = .ok (.getfield 63, 3)) ∧ (decode cX10_setsAsked 50 = .ok (.bipush 8, 2)) := by decide +kernel
theorem dX10_setsAsked_24 : decode cX10_setsAsked 24 = .ok (.aload_n 0, 1) := da9_dX10_setsAsked_24.1
theorem dX10_setsAsked_25 : decode cX10_setsAsked 25 = .ok (.getfield 63, 3) := da9_dX10_setsAsked_24.2.1
theorem dX10_setsAsked_28 : decode cX10_setsAsked 28 = .ok (.bipush 6, 2) := da9_dX10_setsAsked_24.2.2.1
theorem dX10_setsAsked_30 : decode cX10_setsAsked 30 = .ok (.aload_n 0, 1) := da9_dX10_setsAsked_24.2.2.2.1
theorem dX10_setsAsked_31 : decode cX10_setsAsked 31 = .ok (.getfield 28, 3) := da9_dX10_setsAsked_24.2.2.2.2.1
theorem dX10_setsAsked_34 : decode cX10_setsAsked 34 = .ok (.bipush 27, 2) := da9_dX10_setsAsked_24.2.2.2.2.2.1
theorem dX10_setsAsked_36 : decode cX10_setsAsked 36 = .ok (.iaload, 1) := da9_dX10_setsAsked_24.2.2.2.2.2.2.1
theorem dX10_setsAsked_37 : decode cX10_setsAsked 37 = .ok (.iastore, 1) := da9_dX10_setsAsked_24.2.2.2.2.2.2.2.1
theorem dX10_setsAsked_38 : decode cX10_setsAsked 38 = .ok (.aload_n 0, 1) := da9_dX10_setsAsked_24.2.2.2.2.2.2.2.2.1
theorem dX10_setsAsked_39 : decode cX10_setsAsked 39 = .ok (.getfield 63, 3) := da9_dX10_setsAsked_24.2.2.2.2.2.2.2.2.2.1
theorem dX10_setsAsked_42 : decode cX10_setsAsked 42 = .ok (.bipush 7, 2) := da9_dX10_setsAsked_24.2.2.2.2.2.2.2.2.2.2.1
theorem dX10_setsAsked_44 : decode cX10_setsAsked 44 = .ok (.iload_n 3, 1) := da9_dX10_setsAsked_24.2.2.2.2.2.2.2.2.2.2.2.1
theorem dX10_setsAsked_45 : decode cX10_setsAsked 45 = .ok (.iastore, 1) := da9_dX10_setsAsked_24.2.2.2.2.2.2.2.2.2.2.2.2.1
theorem dX10_setsAsked_46 : decode cX10_setsAsked 46 = .ok (.aload_n 0, 1) := da9_dX10_setsAsked_24.2.2.2.2.2.2.2.2.2.2.2.2.2.1
theorem dX10_setsAsked_47 : decode cX10_setsAsked 47 = .ok (.getfield 63, 3) := da9_dX10_setsAsked_24.2.2.2.2.2.2.2.2.2.2.2.2.2.2.1
theorem dX10_setsAsked_50 : decode cX10_setsAsked 50 = .ok (.bipush 8, 2) := da9_dX10_setsAsked_24.2.2.2.2.2.2.2.2.2.2.2.2.2.2.2
theorem da9_dX10_setsAsked_52 : (decode cX10_setsAsked 52 = .ok (.aload_n 0, 1)) ∧ (decode cX10_setsAsked 53 = .ok (.getfield 28, 3)) ∧ (decode cX10_setsAsked 56 = .ok (.bipush 13, 2)) ∧ (decode cX10_setsAsked 58 = .ok (.iaload, 1)) ∧ (decode cX10_setsAsked 59 = .ok (.iastore, 1)) ∧ (decode cX10_setsAsked 60 = .ok (.return_, 1)) := by decide +kernel
theorem dX10_setsAsked_52 : decode cX10_setsAsked 52 = .ok (.aload_n 0, 1) := da9_dX10_setsAsked_52.1
theorem dX10_setsAsked_53 : decode cX10_setsAsked 53 = .ok (.getfield 28, 3) := da9_dX10_setsAsked_52.2.1
theorem dX10_setsAsked_56 : decode cX10_setsAsked 56 = .ok (.bipush 13, 2) := da9_dX10_setsAsked_52.2.2.1
theorem dX10_setsAsked_58 : decode cX10_setsAsked 58 = .ok (.iaload, 1) := da9_dX10_setsAsked_52.2.2.2.1
theorem dX10_setsAsked_59 : decode cX10_setsAsked 59 = .ok (.iastore, 1) := da9_dX10_setsAsked_52.2.2.2.2.1
theorem dX10_setsAsked_60 : decode cX10_setsAsked 60 = .ok (.return_, 1) := da9_dX10_setsAsked_52.2.2.2.2.2
