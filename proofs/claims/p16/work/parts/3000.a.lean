section
theorem da9_dX10_lies_0 : (decode cX10_lies 0 = .ok (.iload_n 0, 1)) ∧ (decode cX10_lies 1 = .ok (.iload_n 1, 1)) ∧ (decode cX10_lies 2 = .ok (.if_icmp .lt 12, 3)) ∧ (decode cX10_lies 5 = .ok (.iload_n 0, 1)) ∧ (decode cX10_lies 6 = .ok (.iload_n 2, 1)) ∧ (decode cX10_lies 7 = .ok (.if_icmp .gt 7, 3)) ∧ (decode cX10_lies 10 = .ok (.iconst 1, 1)) ∧ (decode cX10_lies 11 = .ok (.goto 4, 3)) ∧ (decode cX10_lies 14 = .ok (.iconst 0, 1)) ∧ (decode cX10_lies 15 = .ok (.ireturn, 1)) := by decide +kernel
theorem dX10_lies_0 : decode cX10_lies 0 = .ok (.iload_n 0, 1) := da9_dX10_lies_0.1
theorem dX10_lies_1 : decode cX10_lies 1 = .ok (.iload_n 1, 1) := da9_dX10_lies_0.2.1
theorem dX10_lies_2 : decode cX10_lies 2 = .ok (.if_icmp .lt 12, 3) := da9_dX10_lies_0.2.2.1
theorem dX10_lies_5 : decode cX10_lies 5 = .ok (.iload_n 0, 1) := da9_dX10_lies_0.2.2.2.1
theorem dX10_lies_6 : decode cX10_lies 6 = .ok (.iload_n 2, 1) := da9_dX10_lies_0.2.2.2.2.1
theorem dX10_lies_7 : decode cX10_lies 7 = .ok (.if_icmp .gt 7, 3) := da9_dX10_lies_0.2.2.2.2.2.1
theorem dX10_lies_10 : decode cX10_lies 10 = .ok (.iconst 1, 1) := da9_dX10_lies_0.2.2.2.2.2.2.1
theorem dX10_lies_11 : decode cX10_lies 11 = .ok (.goto 4, 3) := da9_dX10_lies_0.2.2.2.2.2.2.2.1
theorem dX10_lies_14 : decode cX10_lies 14 = .ok (.iconst 0, 1) := da9_dX10_lies_0.2.2.2.2.2.2.2.2.1
theorem dX10_lies_15 : decode cX10_lies 15 = .ok (.ireturn, 1) := da9_dX10_lies_0.2.2.2.2.2.2.2.2.2
theorem da9_dX10_lesser_0 : (decode cX10_lesser 0 = .ok (.iload_n 0, 1)) ∧ (decode cX10_lesser 1 = .ok (.iload_n 1, 1)) ∧ (decode cX10_lesser 2 = .ok (.if_icmp .ge 7, 3)) ∧ (decode cX10_lesser 5 = .ok (.iload_n 0, 1)) ∧ (decode cX10_lesser 6 = .ok (.goto 4, 3)) ∧ (decode cX10_lesser 9 = .ok (.iload_n 1, 1)) ∧ (decode cX10_lesser 10 = .ok (.ireturn, 1)) := by decide +kernel
theorem dX10_lesser_0 : decode cX10_lesser 0 = .ok (.iload_n 0, 1) := da9_dX10_lesser_0.1
theorem dX10_lesser_1 : decode cX10_lesser 1 = .ok (.iload_n 1, 1) := da9_dX10_lesser_0.2.1
theorem dX10_lesser_2 : decode cX10_lesser 2 = .ok (.if_icmp .ge 7, 3) := da9_dX10_lesser_0.2.2.1
theorem dX10_lesser_5 : decode cX10_lesser 5 = .ok (.iload_n 0, 1) := da9_dX10_lesser_0.2.2.2.1
theorem dX10_lesser_6 : decode cX10_lesser 6 = .ok (.goto 4, 3) := da9_dX10_lesser_0.2.2.2.2.1
theorem dX10_lesser_9 : decode cX10_lesser 9 = .ok (.iload_n 1, 1) := da9_dX10_lesser_0.2.2.2.2.2.1
theorem dX10_lesser_10 : decode cX10_lesser 10 = .ok (.ireturn, 1) := da9_dX10_lesser_0.2.2.2.2.2.2
theorem da9_dX10_greater_0 : (decode cX10_greater 0 = .ok (.iload_n 0, 1)) ∧ (decode cX10_greater 1 = .ok (.iload_n 1, 1)) ∧ (decode cX10_greater 2 = .ok (.if_icmp .le 7, 3)) ∧ (decode cX10_greater 5 = .ok (.iload_n 0, 1)) ∧ (decode cX10_greater 6 = .ok (.goto 4, 3)) ∧ (decode cX10_greater 9 = .ok (.iload_n 1, 1)) ∧ (decode cX10_greater 10 = .ok (.ireturn, 1)) := by decide +kernel
theorem dX10_greater_0 : decode cX10_greater 0 = .ok (.iload_n 0, 1) := da9_dX10_greater_0.1
theorem dX10_greater_1 : decode cX10_greater 1 = .ok (.iload_n 1, 1) := da9_dX10_greater_0.2.1
theorem dX10_greater_2 : decode cX10_greater 2 = .ok (.if_icmp .le 7, 3) := da9_dX10_greater_0.2.2.1
theorem dX10_greater_5 : decode cX10_greater 5 = .ok (.iload_n 0, 1) := da9_dX10_greater_0.2.2.2.1
theorem dX10_greater_6 : decode cX10_greater 6 = .ok (.goto 4, 3) := da9_dX10_greater_0.2.2.2.2.1
theorem dX10_greater_9 : decode cX10_greater 9 = .ok (.iload_n 1, 1) := da9_dX10_greater_0.2.2.2.2.2.1
theorem dX10_greater_10 : decode cX10_greater 10 = .ok (.ireturn, 1) := da9_dX10_greater_0.2.2.2.2.2.2
theorem da9_dX10_refuses_0 : (decode cX10_refuses 0 = .ok (.aload_n 0, 1)) ∧ (decode cX10_refuses 1 = .ok (.iload_n 1, 1)) ∧ (decode cX10_refuses 2 = .ok (.putfield 3, 3)) ∧ (decode cX10_refuses 5 = .ok (.aload_n 0, 1)) ∧ (decode cX10_refuses 6 = .ok (.getfield 7, 3)) ∧ (decode cX10_refuses 9 = .ok (.iload_n 1, 1)) ∧ (decode cX10_refuses 10 = .ok (.ineg, 1)) ∧ (decode cX10_refuses 11 = .ok (.dup2, 1)) ∧ (decode cX10_refuses 12 = .ok (.iaload, 1)) ∧ (decode cX10_refuses 13 = .ok (.iconst 1, 1)) ∧ (decode cX10_refuses 14 = .ok (.iadd, 1)) ∧ (decode cX10_refuses 15 = .ok (.iastore, 1)) ∧ (decode cX10_refuses 16 = .ok (.iload_n 1, 1)) ∧ (decode cX10_refuses 17 = .ok (.ireturn, 1)) := by decide +kernel
theorem dX10_refuses_0 : decode cX10_refuses 0 = .ok (.aload_n 0, 1) := da9_dX10_refuses_0.1
theorem dX10_refuses_1 : decode cX10_refuses 1 = .ok (.iload_n 1, 1) := da9_dX10_refuses_0.2.1
theorem dX10_refuses_2 : decode cX10_refuses 2 = .ok (.putfield 3, 3) := da9_dX10_refuses_0.2.2.1
theorem dX10_refuses_5 : decode cX10_refuses 5 = .ok (.aload_n 0, 1) := da9_dX10_refuses_0.2.2.2.1
theorem dX10_refuses_6 : decode cX10_refuses 6 = .ok (.getfield 7, 3) := da9_dX10_refuses_0.2.2.2.2.1
theorem dX10_refuses_9 : decode cX10_refuses 9 = .ok (.iload_n 1, 1) := da9_dX10_refuses_0.2.2.2.2.2.1
theorem dX10_refuses_10 : decode cX10_refuses 10 = .ok (.ineg, 1) := da9_dX10_refuses_0.2.2.2.2.2.2.1
theorem dX10_refuses_11 : decode cX10_refuses 11 = .ok (.dup2, 1) := da9_dX10_refuses_0.2.2.2.2.2.2.2.1
theorem dX10_refuses_12 : decode cX10_refuses 12 = .ok (.iaload, 1) := da9_dX10_refuses_0.2.2.2.2.2.2.2.2.1
theorem dX10_refuses_13 : decode cX10_refuses 13 = .ok (.iconst 1, 1) := da9_dX10_refuses_0.2.2.2.2.2.2.2.2.2.1
theorem dX10_refuses_14 : decode cX10_refuses 14 = .ok (.iadd, 1) := da9_dX10_refuses_0.2.2.2.2.2.2.2.2.2.2.1
theorem dX10_refuses_15 : decode cX10_refuses 15 = .ok (.iastore, 1) := da9_dX10_refuses_0.2.2.2.2.2.2.2.2.2.2.2.1
theorem dX10_refuses_16 : decode cX10_refuses 16 = .ok (.iload_n 1, 1) := da9_dX10_refuses_0.2.2.2.2.2.2.2.2.2.2.2.2.1
theorem dX10_refuses_17 : decode cX10_refuses 17 = .ok (.ireturn, 1) := da9_dX10_refuses_0.2.2.2.2.2.2.2.2.2.2.2.2.2
theorem da9_dX10_good_0 : (decode cX10_good 0 = .ok (.aload_n 0, 1)) ∧ (decode cX10_good 1 = .ok (.iconst 0, 1)) ∧ (decode cX10_good 2 = .ok (.putfield 3, 3)) ∧ (decode cX10_good 5 = .ok (.iload_n 1, 1)) ∧ (decode cX10_good 6 = .ok (.ireturn, 1)) := by decide +kernel
theorem dX10_good_0 : decode cX10_good 0 = .ok (.aload_n 0, 1) := da9_dX10_good_0.1
theorem dX10_good_1 : decode cX10_good 1 = .ok (.iconst 0, 1) := da9_dX10_good_0.2.1
theorem dX10_good_2 : decode cX10_good 2 = .ok (.putfield 3, 3) := da9_dX10_good_0.2.2.1
theorem dX10_good_5 : decode cX10_good 5 = .ok (.iload_n 1, 1) := da9_dX10_good_0.2.2.2.1
theorem dX10_good_6 : decode cX10_good 6 = .ok (.ireturn, 1) := da9_dX10_good_0.2.2.2.2
set_option maxRecDepth 20000 in
theorem ggX10_settled_X10_good : GoodIn wsX10_settled wsX10_good := wd_c vW10_ok mvW10_37
set_option maxRecDepth 20000 in
theorem gX10_settled_X10_good : GoodIn wsX10_settled (wsV RX10 14 RX10 yX10_good wsX10_good) := goodIn_app (wd_l vW10_ok _ pvW10_140) ggX10_settled_X10_good
theorem da9_dX10_settled_0 : (decode cX10_settled 0 = .ok (.aload_n 0, 1)) ∧ (decode cX10_settled 1 = .ok (.iconst 0, 1)) ∧ (decode cX10_settled 2 = .ok (.putfield 11, 3)) ∧ (decode cX10_settled 5 = .ok (.aload_n 0, 1)) ∧ (decode cX10_settled 6 = .ok (.iload_n 1, 1)) ∧ (decode cX10_settled 7 = .ok (.invokevirtual 14, 3)) ∧ (decode cX10_settled 10 = .ok (.ireturn, 1)) := by decide +kernel
theorem dX10_settled_0 : decode cX10_settled 0 = .ok (.aload_n 0, 1) := da9_dX10_settled_0.1
theorem dX10_settled_1 : decode cX10_settled 1 = .ok (.iconst 0, 1) := da9_dX10_settled_0.2.1
theorem dX10_settled_2 : decode cX10_settled 2 = .ok (.putfield 11, 3) := da9_dX10_settled_0.2.2.1
theorem dX10_settled_5 : decode cX10_settled 5 = .ok (.aload_n 0, 1) := da9_dX10_settled_0.2.2.2.1
theorem dX10_settled_6 : decode cX10_settled 6 = .ok (.iload_n 1, 1) := da9_dX10_settled_0.2.2.2.2.1
theorem dX10_settled_7 : decode cX10_settled 7 = .ok (.invokevirtual 14, 3) := da9_dX10_settled_0.2.2.2.2.2.1
theorem dX10_settled_10 : decode cX10_settled 10 = .ok (.ireturn, 1) := da9_dX10_settled_0.2.2.2.2.2.2
theorem da9_dX10_isIn_0 : (decode cX10_isIn 0 = .ok (.iload_n 0, 1)) ∧ (decode cX10_isIn 1 = .ok (.iload_n 1, 1)) ∧ (decode cX10_isIn 2 = .ok (.ishr, 1)) ∧ (decode cX10_isIn 3 = .ok (.iconst 1, 1)) ∧ (decode cX10_isIn 4 = .ok (.iand, 1)) ∧ (decode cX10_isIn 5 = .ok (.iconst 1, 1)) ∧ (decode cX10_isIn 6 = .ok (.if_icmp .ne 7, 3)) ∧ (decode cX10_isIn 9 = .ok (.iconst 1, 1)) ∧ (decode cX10_isIn 10 = .ok (.goto 4, 3)) ∧ (decode cX10_isIn 13 = .ok (.iconst 0, 1)) ∧ (decode cX10_isIn 14 = .ok (.ireturn, 1)) := by decide +kernel
theorem dX10_isIn_0 : decode cX10_isIn 0 = .ok (.iload_n 0, 1) := da9_dX10_isIn_0.1
theorem dX10_isIn_1 : decode cX10_isIn 1 = .ok (.iload_n 1, 1) := da9_dX10_isIn_0.2.1
theorem dX10_isIn_2 : decode cX10_isIn 2 = .ok (.ishr, 1) := da9_dX10_isIn_0.2.2.1
theorem dX10_isIn_3 : decode cX10_isIn 3 = .ok (.iconst 1, 1) := da9_dX10_isIn_0.2.2.2.1
theorem dX10_isIn_4 : decode cX10_isIn 4 = .ok (.iand, 1) := da9_dX10_isIn_0.2.2.2.2.1
theorem dX10_isIn_5 : decode cX10_isIn 5 = .ok (.iconst 1, 1) := da9_dX10_isIn_0.2.2.2.2.2.1
theorem dX10_isIn_6 : decode cX10_isIn 6 = .ok (.if_icmp .ne 7, 3) := da9_dX10_isIn_0.2.2.2.2.2.2.1
theorem dX10_isIn_9 : decode cX10_isIn 9 = .ok (.iconst 1, 1) := da9_dX10_isIn_0.2.2.2.2.2.2.2.1
theorem dX10_isIn_10 : decode cX10_isIn 10 = .ok (.goto 4, 3) := da9_dX10_isIn_0.2.2.2.2.2.2.2.2.1
theorem dX10_isIn_13 : decode cX10_isIn 13 = .ok (.iconst 0, 1) := da9_dX10_isIn_0.2.2.2.2.2.2.2.2.2.1
theorem dX10_isIn_14 : decode cX10_isIn 14 = .ok (.ireturn, 1) := da9_dX10_isIn_0.2.2.2.2.2.2.2.2.2.2
theorem da9_dX10_ones_0 : (decode cX10_ones 0 = .ok (.iconst 0, 1)) ∧ (decode cX10_ones 1 = .ok (.istore_n 1, 1)) ∧ (decode cX10_ones 2 = .ok (.iconst 0, 1)) ∧ (decode cX10_ones 3 = .ok (.istore_n 2, 1)) ∧ (decode cX10_ones 4 = .ok (.iload_n 2, 1)) ∧ (decode cX10_ones 5 = .ok (.bipush 7, 2)) ∧ (decode cX10_ones 7 = .ok (.if_icmp .ge 17, 3)) ∧ (decode cX10_ones 10 = .ok (.iload_n 1, 1)) ∧ (decode cX10_ones 11 = .ok (.iload_n 0, 1)) ∧ (decode cX10_ones 12 = .ok (.iload_n 2, 1)) ∧ (decode cX10_ones 13 = .ok (.ishr, 1)) ∧ (decode cX10_ones 14 = .ok (.iconst 1, 1)) ∧ (decode cX10_ones 15 = .ok (.iand, 1)) ∧ (decode cX10_ones 16 = .ok (.iadd, 1)) ∧ (decode cX10_ones 17 = .ok (.istore_n 1, 1)) ∧ (decode cX10_ones 18 = .ok (.iinc 2 1, 3)) := by decide +kernel
theorem dX10_ones_0 : decode cX10_ones 0 = .ok (.iconst 0, 1) := da9_dX10_ones_0.1
theorem dX10_ones_1 : decode cX10_ones 1 = .ok (.istore_n 1, 1) := da9_dX10_ones_0.2.1
theorem dX10_ones_2 : decode cX10_ones 2 = .ok (.iconst 0, 1) := da9_dX10_ones_0.2.2.1
theorem dX10_ones_3 : decode cX10_ones 3 = .ok (.istore_n 2, 1) := da9_dX10_ones_0.2.2.2.1
theorem dX10_ones_4 : decode cX10_ones 4 = .ok (.iload_n 2, 1) := da9_dX10_ones_0.2.2.2.2.1
theorem dX10_ones_5 : decode cX10_ones 5 = .ok (.bipush 7, 2) := da9_dX10_ones_0.2.2.2.2.2.1
theorem dX10_ones_7 : decode cX10_ones 7 = .ok (.if_icmp .ge 17, 3) := da9_dX10_ones_0.2.2.2.2.2.2.1
theorem dX10_ones_10 : decode cX10_ones 10 = .ok (.iload_n 1, 1) := da9_dX10_ones_0.2.2.2.2.2.2.2.1
theorem dX10_ones_11 : decode cX10_ones 11 = .ok (.iload_n 0, 1) := da9_dX10_ones_0.2.2.2.2.2.2.2.2.1
theorem dX10_ones_12 : decode cX10_ones 12 = .ok (.iload_n 2, 1) := da9_dX10_ones_0.2.2.2.2.2.2.2.2.2.1
theorem dX10_ones_13 : decode cX10_ones 13 = .ok (.ishr, 1) := da9_dX10_ones_0.2.2.2.2.2.2.2.2.2.2.1
theorem dX10_ones_14 : decode cX10_ones 14 = .ok (.iconst 1, 1) := da9_dX10_ones_0.2.2.2.2.2.2.2.2.2.2.2.1
theorem dX10_ones_15 : decode cX10_ones 15 = .ok (.iand, 1) := da9_dX10_ones_0.2.2.2.2.2.2.2.2.2.2.2.2.1
theorem dX10_ones_16 : decode cX10_ones 16 = .ok (.iadd, 1) := da9_dX10_ones_0.2.2.2.2.2.2.2.2.2.2.2.2.2.1
theorem dX10_ones_17 : decode cX10_ones 17 = .ok (.istore_n 1, 1) := da9_dX10_ones_0.2.2.2.2.2.2.2.2.2.2.2.2.2.2.1
theorem dX10_ones_18 : decode cX10_ones 18 = .ok (.iinc 2 1, 3) := da9_dX10_ones_0.2.2.2.2.2.2.2.2.2.2.2.2.2.2.2
theorem da9_dX10_ones_21 : (decode cX10_ones 21 = .ok (.goto (-17), 3)) ∧ (decode cX10_ones 24 = .ok (.iload_n 1, 1)) ∧ (decode cX10_ones 25 = .ok (.ireturn, 1)) := by decide +kernel
theorem dX10_ones_21 : decode cX10_ones 21 = .ok (.goto (-17), 3) := da9_dX10_ones_21.1
theorem dX10_ones_24 : decode cX10_ones 24 = .ok (.iload_n 1, 1) := da9_dX10_ones_21.2.1
theorem dX10_ones_25 : decode cX10_ones 25 = .ok (.ireturn, 1) := da9_dX10_ones_21.2.2
set_option maxRecDepth 20000 in
theorem ggX10_isBit_X10_lies : GoodIn wsX10_isBit wsX10_lies := wd_c vW10_ok mvW10_6
set_option maxRecDepth 20000 in
theorem gX10_isBit_X10_lies : GoodIn wsX10_isBit (va_wsS RX10 18 yX10_lies wsX10_lies) := goodIn_app (wd_l vW10_ok _ pvW10_141) ggX10_isBit_X10_lies
theorem da9_dX10_isBit_0 : (decode cX10_isBit 0 = .ok (.iload_n 0, 1)) ∧ (decode cX10_isBit 1 = .ok (.iconst 0, 1)) ∧ (decode cX10_isBit 2 = .ok (.iconst 1, 1)) ∧ (decode cX10_isBit 3 = .ok (.invokestatic 18, 3)) ∧ (decode cX10_isBit 6 = .ok (.ireturn, 1)) := by decide +kernel
theorem dX10_isBit_0 : decode cX10_isBit 0 = .ok (.iload_n 0, 1) := da9_dX10_isBit_0.1
theorem dX10_isBit_1 : decode cX10_isBit 1 = .ok (.iconst 0, 1) := da9_dX10_isBit_0.2.1
theorem dX10_isBit_2 : decode cX10_isBit 2 = .ok (.iconst 1, 1) := da9_dX10_isBit_0.2.2.1
theorem dX10_isBit_3 : decode cX10_isBit 3 = .ok (.invokestatic 18, 3) := da9_dX10_isBit_0.2.2.2.1
theorem dX10_isBit_6 : decode cX10_isBit 6 = .ok (.ireturn, 1) := da9_dX10_isBit_0.2.2.2.2
set_option maxRecDepth 20000 in
theorem ggX10_isRank_X10_lies : GoodIn wsX10_isRank wsX10_lies := wd_c vW10_ok mvW10_6
set_option maxRecDepth 20000 in
theorem gX10_isRank_X10_lies : GoodIn wsX10_isRank (va_wsS RX10 18 yX10_lies wsX10_lies) := goodIn_app (wd_l vW10_ok _ pvW10_141) ggX10_isRank_X10_lies
theorem da9_dX10_isRank_0 : (decode cX10_isRank 0 = .ok (.iload_n 0, 1)) ∧ (decode cX10_isRank 1 = .ok (.iconst 0, 1)) ∧ (decode cX10_isRank 2 = .ok (.iconst 5, 1)) ∧ (decode cX10_isRank 3 = .ok (.invokestatic 18, 3)) ∧ (decode cX10_isRank 6 = .ok (.ireturn, 1)) := by decide +kernel
theorem dX10_isRank_0 : decode cX10_isRank 0 = .ok (.iload_n 0, 1) := da9_dX10_isRank_0.1
theorem dX10_isRank_1 : decode cX10_isRank 1 = .ok (.iconst 0, 1) := da9_dX10_isRank_0.2.1
theorem dX10_isRank_2 : decode cX10_isRank 2 = .ok (.iconst 5, 1) := da9_dX10_isRank_0.2.2.1
theorem dX10_isRank_3 : decode cX10_isRank 3 = .ok (.invokestatic 18, 3) := da9_dX10_isRank_0.2.2.2.1
theorem dX10_isRank_6 : decode cX10_isRank 6 = .ok (.ireturn, 1) := da9_dX10_isRank_0.2.2.2.2
theorem da9_dX10_laysAside_0 : (decode cX10_laysAside 0 = .ok (.iconst 0, 1)) ∧ (decode cX10_laysAside 1 = .ok (.istore_n 2, 1)) ∧ (decode cX10_laysAside 2 = .ok (.iload_n 2, 1)) ∧ (decode cX10_laysAside 3 = .ok (.bipush 14, 2)) ∧ (decode cX10_laysAside 5 = .ok (.if_icmp .ge 26, 3)) ∧ (decode cX10_laysAside 8 = .ok (.aload_n 0, 1)) ∧ (decode cX10_laysAside 9 = .ok (.getfield 38, 3)) ∧ (decode cX10_laysAside 12 = .ok (.bipush 14, 2)) ∧ (decode cX10_laysAside 14 = .ok (.iload_n 1, 1)) ∧ (decode cX10_laysAside 15 = .ok (.imul, 1)) ∧ (decode cX10_laysAside 16 = .ok (.iload_n 2, 1)) ∧ (decode cX10_laysAside 17 = .ok (.iadd, 1)) ∧ (decode cX10_laysAside 18 = .ok (.aload_n 0, 1)) ∧ (decode cX10_laysAside 19 = .ok (.getfield 28, 3)) ∧ (decode cX10_laysAside 22 = .ok (.iload_n 2, 1)) ∧ (decode cX10_laysAside 23 = .ok (.iaload, 1)) := by decide +kernel
theorem dX10_laysAside_0 : decode cX10_laysAside 0 = .ok (.iconst 0, 1) := da9_dX10_laysAside_0.1
theorem dX10_laysAside_1 : decode cX10_laysAside 1 = .ok (.istore_n 2, 1) := da9_dX10_laysAside_0.2.1
theorem dX10_laysAside_2 : decode cX10_laysAside 2 = .ok (.iload_n 2, 1) := da9_dX10_laysAside_0.2.2.1
theorem dX10_laysAside_3 : decode cX10_laysAside 3 = .ok (.bipush 14, 2) := da9_dX10_laysAside_0.2.2.2.1
theorem dX10_laysAside_5 : decode cX10_laysAside 5 = .ok (.if_icmp .ge 26, 3) := da9_dX10_laysAside_0.2.2.2.2.1
theorem dX10_laysAside_8 : decode cX10_laysAside 8 = .ok (.aload_n 0, 1) := da9_dX10_laysAside_0.2.2.2.2.2.1
theorem dX10_laysAside_9 : decode cX10_laysAside 9 = .ok (.getfield 38, 3) := da9_dX10_laysAside_0.2.2.2.2.2.2.1
theorem dX10_laysAside_12 : decode cX10_laysAside 12 = .ok (.bipush 14, 2) := da9_dX10_laysAside_0.2.2.2.2.2.2.2.1
theorem dX10_laysAside_14 : decode cX10_laysAside 14 = .ok (.iload_n 1, 1) := da9_dX10_laysAside_0.2.2.2.2.2.2.2.2.1
theorem dX10_laysAside_15 : decode cX10_laysAside 15 = .ok (.imul, 1) := da9_dX10_laysAside_0.2.2.2.2.2.2.2.2.2.1
theorem dX10_laysAside_16 : decode cX10_laysAside 16 = .ok (.iload_n 2, 1) := da9_dX10_laysAside_0.2.2.2.2.2.2.2.2.2.2.1
theorem dX10_laysAside_17 : decode cX10_laysAside 17 = .ok (.iadd, 1) := da9_dX10_laysAside_0.2.2.2.2.2.2.2.2.2.2.2.1
theorem dX10_laysAside_18 : decode cX10_laysAside 18 = .ok (.aload_n 0, 1) := da9_dX10_laysAside_0.2.2.2.2.2.2.2.2.2.2.2.2.1
theorem dX10_laysAside_19 : decode cX10_laysAside 19 = .ok (.getfield 28, 3) := da9_dX10_laysAside_0.2.2.2.2.2.2.2.2.2.2.2.2.2.1
theorem dX10_laysAside_22 : decode cX10_laysAside 22 = .ok (.iload_n 2, 1) := da9_dX10_laysAside_0.2.2.2.2.2.2.2.2.2.2.2.2.2.2.1
theorem dX10_laysAside_23 : decode cX10_laysAside 23 = .ok (.iaload, 1) := da9_dX10_laysAside_0.2.2.2.2.2.2.2.2.2.2.2.2.2.2.2
theorem da9_dX10_laysAside_24 : (decode cX10_laysAside 24 = .ok (.iastore, 1)) ∧ (decode cX10_laysAside 25 = .ok (.iinc 2 1, 3)) ∧ (decode cX10_laysAside 28 = .ok (.goto (-26), 3)) ∧ (decode cX10_laysAside 31 = .ok (.return_, 1)) := by decide +kernel
theorem dX10_laysAside_24 : decode cX10_laysAside 24 = .ok (.iastore, 1) := da9_dX10_laysAside_24.1
theorem dX10_laysAside_25 : decode cX10_laysAside 25 = .ok (.iinc 2 1, 3) := da9_dX10_laysAside_24.2.1
theorem dX10_laysAside_28 : decode cX10_laysAside 28 = .ok (.goto (-26), 3) := da9_dX10_laysAside_24.2.2.1
theorem dX10_laysAside_31 : decode cX10_laysAside 31 = .ok (.return_, 1) := da9_dX10_laysAside_24.2.2.2
theorem da9_dX10_takesBack_0 : (decode cX10_takesBack 0 = .ok (.iconst 0, 1)) ∧ (decode cX10_takesBack 1 = .ok (.istore_n 2, 1)) ∧ (decode cX10_takesBack 2 = .ok (.iload_n 2, 1)) ∧ (decode cX10_takesBack 3 = .ok (.bipush 14, 2)) ∧ (decode cX10_takesBack 5 = .ok (.if_icmp .ge 26, 3)) ∧ (decode cX10_takesBack 8 = .ok (.aload_n 0, 1)) ∧ (decode cX10_takesBack 9 = .ok (.getfield 28, 3)) ∧ (decode cX10_takesBack 12 = .ok (.iload_n 2, 1)) ∧ (decode cX10_takesBack 13 = .ok (.aload_n 0, 1)) ∧ (decode cX10_takesBack 14 = .ok (.getfield 38, 3)) ∧ (decode cX10_takesBack 17 = .ok (.bipush 14, 2)) ∧ (decode cX10_takesBack 19 = .ok (.iload_n 1, 1)) ∧ (decode cX10_takesBack 20 = .ok (.imul, 1)) ∧ (decode cX10_takesBack 21 = .ok (.iload_n 2, 1)) ∧ (decode cX10_takesBack 22 = .ok (.iadd, 1)) ∧ (decode cX10_takesBack 23 = .ok (.iaload, 1)) := by decide +kernel
theorem dX10_takesBack_0 : decode cX10_takesBack 0 = .ok (.iconst 0, 1) := da9_dX10_takesBack_0.1
theorem dX10_takesBack_1 : decode cX10_takesBack 1 = .ok (.istore_n 2, 1) := da9_dX10_takesBack_0.2.1
theorem dX10_takesBack_2 : decode cX10_takesBack 2 = .ok (.iload_n 2, 1) := da9_dX10_takesBack_0.2.2.1
theorem dX10_takesBack_3 : decode cX10_takesBack 3 = .ok (.bipush 14, 2) := da9_dX10_takesBack_0.2.2.2.1
theorem dX10_takesBack_5 : decode cX10_takesBack 5 = .ok (.if_icmp .ge 26, 3) := da9_dX10_takesBack_0.2.2.2.2.1
theorem dX10_takesBack_8 : decode cX10_takesBack 8 = .ok (.aload_n 0, 1) := da9_dX10_takesBack_0.2.2.2.2.2.1
theorem dX10_takesBack_9 : decode cX10_takesBack 9 = .ok (.getfield 28, 3) := da9_dX10_takesBack_0.2.2.2.2.2.2.1
theorem dX10_takesBack_12 : decode cX10_takesBack 12 = .ok (.iload_n 2, 1) := da9_dX10_takesBack_0.2.2.2.2.2.2.2.1
theorem dX10_takesBack_13 : decode cX10_takesBack 13 = .ok (.aload_n 0, 1) := da9_dX10_takesBack_0.2.2.2.2.2.2.2.2.1
theorem dX10_takesBack_14 : decode cX10_takesBack 14 = .ok (.getfield 38, 3) := da9_dX10_takesBack_0.2.2.2.2.2.2.2.2.2.1
theorem dX10_takesBack_17 : decode cX10_takesBack 17 = .ok (.bipush 14, 2) := da9_dX10_takesBack_0.2.2.2.2.2.2.2.2.2.2.1
theorem dX10_takesBack_19 : decode cX10_takesBack 19 = .ok (.iload_n 1, 1) := da9_dX10_takesBack_0.2.2.2.2.2.2.2.2.2.2.2.1
theorem dX10_takesBack_20 : decode cX10_takesBack 20 = .ok (.imul, 1) := da9_dX10_takesBack_0.2.2.2.2.2.2.2.2.2.2.2.2.1
theorem dX10_takesBack_21 : decode cX10_takesBack 21 = .ok (.iload_n 2, 1) := da9_dX10_takesBack_0.2.2.2.2.2.2.2.2.2.2.2.2.2.1
theorem dX10_takesBack_22 : decode cX10_takesBack 22 = .ok (.iadd, 1) := da9_dX10_takesBack_0.2.2.2.2.2.2.2.2.2.2.2.2.2.2.1
theorem dX10_takesBack_23 : decode cX10_takesBack 23 = .ok (.iaload, 1) := da9_dX10_takesBack_0.2.2.2.2.2.2.2.2.2.2.2.2.2.2.2
theorem da9_dX10_takesBack_24 : (decode cX10_takesBack 24 = .ok (.iastore, 1)) ∧ (decode cX10_takesBack 25 = .ok (.iinc 2 1, 3)) ∧ (decode cX10_takesBack 28 = .ok (.goto (-26), 3)) ∧ (decode cX10_takesBack 31 = .ok (.return_, 1)) := by decide +kernel
theorem dX10_takesBack_24 : decode cX10_takesBack 24 = .ok (.iastore, 1) := da9_dX10_takesBack_24.1
theorem dX10_takesBack_25 : decode cX10_takesBack 25 = .ok (.iinc 2 1, 3) := da9_dX10_takesBack_24.2.1
theorem dX10_takesBack_28 : decode cX10_takesBack 28 = .ok (.goto (-26), 3) := da9_dX10_takesBack_24.2.2.1
theorem dX10_takesBack_31 : decode cX10_takesBack 31 = .ok (.return_, 1) := da9_dX10_takesBack_24.2.2.2
set_option maxRecDepth 20000 in
theorem ggX10_image_X10_lies : GoodIn wsX10_image wsX10_lies := wd_c vW10_ok mvW10_6
set_option maxRecDepth 20000 in
theorem gX10_image_X10_lies : GoodIn wsX10_image (va_wsS RX10 18 yX10_lies wsX10_lies) := goodIn_app (wd_l vW10_ok _ pvW10_141) ggX10_image_X10_lies
set_option maxRecDepth 20000 in
theorem ggX10_image_X10_refuses : GoodIn wsX10_image wsX10_refuses := wd_c vW10_ok mvW10_13
set_option maxRecDepth 20000 in
theorem gX10_image_X10_refuses : GoodIn wsX10_image (wsV RX10 119 RX10 yX10_refuses wsX10_refuses) := goodIn_app (wd_l vW10_ok _ pvW10_142) ggX10_image_X10_refuses
set_option maxRecDepth 20000 in
theorem ggX10_image_X10_good : GoodIn wsX10_image wsX10_good := wd_c vW10_ok mvW10_37
set_option maxRecDepth 20000 in
theorem gX10_image_X10_good : GoodIn wsX10_image (wsV RX10 14 RX10 yX10_good wsX10_good) := goodIn_app (wd_l vW10_ok _ pvW10_140) ggX10_image_X10_good
theorem da9_dX10_image_0 : (decode cX10_image 0 = .ok (.iload_n 1, 1)) ∧ (decode cX10_image 1 = .ok (.iconst 0, 1)) ∧ (decode cX10_image 2 = .ok (.iconst 1, 1)) ∧ (decode cX10_image 3 = .ok (.invokestatic 18, 3)) ∧ (decode cX10_image 6 = .ok (.ifCond .ne 9, 3)) ∧ (decode cX10_image 9 = .ok (.aload_n 0, 1)) ∧ (decode cX10_image 10 = .ok (.iconst (-1), 1)) ∧ (decode cX10_image 11 = .ok (.invokevirtual 119, 3)) ∧ (decode cX10_image 14 = .ok (.ireturn, 1)) ∧ (decode cX10_image 15 = .ok (.iconst 0, 1)) ∧ (decode cX10_image 16 = .ok (.istore_n 2, 1)) ∧ (decode cX10_image 17 = .ok (.iload_n 2, 1)) ∧ (decode cX10_image 18 = .ok (.sipush 5640, 3)) ∧ (decode cX10_image 21 = .ok (.if_icmp .ge 27, 3)) ∧ (decode cX10_image 24 = .ok (.aload_n 0, 1)) ∧ (decode cX10_image 25 = .ok (.getfield 31, 3)) := by decide +kernel
theorem dX10_image_0 : decode cX10_image 0 = .ok (.iload_n 1, 1) := da9_dX10_image_0.1
theorem dX10_image_1 : decode cX10_image 1 = .ok (.iconst 0, 1) := da9_dX10_image_0.2.1
theorem dX10_image_2 : decode cX10_image 2 = .ok (.iconst 1, 1) := da9_dX10_image_0.2.2.1
theorem dX10_image_3 : decode cX10_image 3 = .ok (.invokestatic 18, 3) := da9_dX10_image_0.2.2.2.1
theorem dX10_image_6 : decode cX10_image 6 = .ok (.ifCond .ne 9, 3) := da9_dX10_image_0.2.2.2.2.1
theorem dX10_image_9 : decode cX10_image 9 = .ok (.aload_n 0, 1) := da9_dX10_image_0.2.2.2.2.2.1
theorem dX10_image_10 : decode cX10_image 10 = .ok (.iconst (-1), 1) := da9_dX10_image_0.2.2.2.2.2.2.1
theorem dX10_image_11 : decode cX10_image 11 = .ok (.invokevirtual 119, 3) := da9_dX10_image_0.2.2.2.2.2.2.2.1
theorem dX10_image_14 : decode cX10_image 14 = .ok (.ireturn, 1) := da9_dX10_image_0.2.2.2.2.2.2.2.2.1
theorem dX10_image_15 : decode cX10_image 15 = .ok (.iconst 0, 1) := da9_dX10_image_0.2.2.2.2.2.2.2.2.2.1
theorem dX10_image_16 : decode cX10_image 16 = .ok (.istore_n 2, 1) := da9_dX10_image_0.2.2.2.2.2.2.2.2.2.2.1
theorem dX10_image_17 : decode cX10_image 17 = .ok (.iload_n 2, 1) := da9_dX10_image_0.2.2.2.2.2.2.2.2.2.2.2.1
theorem dX10_image_18 : decode cX10_image 18 = .ok (.sipush 5640, 3) := da9_dX10_image_0.2.2.2.2.2.2.2.2.2.2.2.2.1
theorem dX10_image_21 : decode cX10_image 21 = .ok (.if_icmp .ge 27, 3) := da9_dX10_image_0.2.2.2.2.2.2.2.2.2.2.2.2.2.1
theorem dX10_image_24 : decode cX10_image 24 = .ok (.aload_n 0, 1) := da9_dX10_image_0.2.2.2.2.2.2.2.2.2.2.2.2.2.2.1
theorem dX10_image_25 : decode cX10_image 25 = .ok (.getfield 31, 3) := da9_dX10_image_0.2.2.2.2.2.2.2.2.2.2.2.2.2.2.2
theorem da9_dX10_image_28 : (decode cX10_image 28 = .ok (.sipush 5640, 3)) ∧ (decode cX10_image 31 = .ok (.iload_n 1, 1)) ∧ (decode cX10_image 32 = .ok (.imul, 1)) ∧ (decode cX10_image 33 = .ok (.iload_n 2, 1)) ∧ (decode cX10_image 34 = .ok (.iadd, 1)) ∧ (decode cX10_image 35 = .ok (.aload_n 0, 1)) ∧ (decode cX10_image 36 = .ok (.getfield 28, 3)) ∧ (decode cX10_image 39 = .ok (.iload_n 2, 1)) ∧ (decode cX10_image 40 = .ok (.iaload, 1)) ∧ (decode cX10_image 41 = .ok (.iastore, 1)) ∧ (decode cX10_image 42 = .ok (.iinc 2 1, 3)) ∧ (decode cX10_image 45 = .ok (.goto (-28), 3)) ∧ (decode cX10_image 48 = .ok (.aload_n 0, 1)) ∧ (decode cX10_image 49 = .ok (.getfield 34, 3)) ∧ (decode cX10_image 52 = .ok (.iload_n 1, 1)) ∧ (decode cX10_image 53 = .ok (.iconst 1, 1)) := by decide +kernel
theorem dX10_image_28 : decode cX10_image 28 = .ok (.sipush 5640, 3) := da9_dX10_image_28.1
theorem dX10_image_31 : decode cX10_image 31 = .ok (.iload_n 1, 1) := da9_dX10_image_28.2.1
theorem dX10_image_32 : decode cX10_image 32 = .ok (.imul, 1) := da9_dX10_image_28.2.2.1
theorem dX10_image_33 : decode cX10_image 33 = .ok (.iload_n 2, 1) := da9_dX10_image_28.2.2.2.1
theorem dX10_image_34 : decode cX10_image 34 = .ok (.iadd, 1) := da9_dX10_image_28.2.2.2.2.1
theorem dX10_image_35 : decode cX10_image 35 = .ok (.aload_n 0, 1) := da9_dX10_image_28.2.2.2.2.2.1
theorem dX10_image_36 : decode cX10_image 36 = .ok (.getfield 28, 3) := da9_dX10_image_28.2.2.2.2.2.2.1
theorem dX10_image_39 : decode cX10_image 39 = .ok (.iload_n 2, 1) := da9_dX10_image_28.2.2.2.2.2.2.2.1
theorem dX10_image_40 : decode cX10_image 40 = .ok (.iaload, 1) := da9_dX10_image_28.2.2.2.2.2.2.2.2.1
theorem dX10_image_41 : decode cX10_image 41 = .ok (.iastore, 1) := da9_dX10_image_28.2.2.2.2.2.2.2.2.2.1
theorem dX10_image_42 : decode cX10_image 42 = .ok (.iinc 2 1, 3) := da9_dX10_image_28.2.2.2.2.2.2.2.2.2.2.1
theorem dX10_image_45 : decode cX10_image 45 = .ok (.goto (-28), 3) := da9_dX10_image_28.2.2.2.2.2.2.2.2.2.2.2.1
theorem dX10_image_48 : decode cX10_image 48 = .ok (.aload_n 0, 1) := da9_dX10_image_28.2.2.2.2.2.2.2.2.2.2.2.2.1
theorem dX10_image_49 : decode cX10_image 49 = .ok (.getfield 34, 3) := da9_dX10_image_28.2.2.2.2.2.2.2.2.2.2.2.2.2.1
theorem dX10_image_52 : decode cX10_image 52 = .ok (.iload_n 1, 1) := da9_dX10_image_28.2.2.2.2.2.2.2.2.2.2.2.2.2.2.1
theorem dX10_image_53 : decode cX10_image 53 = .ok (.iconst 1, 1) := da9_dX10_image_28.2.2.2.2.2.2.2.2.2.2.2.2.2.2.2
theorem da9_dX10_image_54 : (decode cX10_image 54 = .ok (.bastore, 1)) ∧ (decode cX10_image 55 = .ok (.aload_n 0, 1)) ∧ (decode cX10_image 56 = .ok (.iconst 0, 1)) ∧ (decode cX10_image 57 = .ok (.invokevirtual 14, 3)) ∧ (decode cX10_image 60 = .ok (.ireturn, 1)) := by decide +kernel
theorem dX10_image_54 : decode cX10_image 54 = .ok (.bastore, 1) := da9_dX10_image_54.1
theorem dX10_image_55 : decode cX10_image 55 = .ok (.aload_n 0, 1) := da9_dX10_image_54.2.1
theorem dX10_image_56 : decode cX10_image 56 = .ok (.iconst 0, 1) := da9_dX10_image_54.2.2.1
theorem dX10_image_57 : decode cX10_image 57 = .ok (.invokevirtual 14, 3) := da9_dX10_image_54.2.2.2.1
theorem dX10_image_60 : decode cX10_image 60 = .ok (.ireturn, 1) := da9_dX10_image_54.2.2.2.2
set_option maxRecDepth 20000 in
theorem ggX10_back_X10_lies : GoodIn wsX10_back wsX10_lies := wd_c vW10_ok mvW10_6
set_option maxRecDepth 20000 in
theorem gX10_back_X10_lies : GoodIn wsX10_back (va_wsS RX10 18 yX10_lies wsX10_lies) := goodIn_app (wd_l vW10_ok _ pvW10_141) ggX10_back_X10_lies
set_option maxRecDepth 20000 in
theorem ggX10_back_X10_refuses : GoodIn wsX10_back wsX10_refuses := wd_c vW10_ok mvW10_13
set_option maxRecDepth 20000 in
theorem gX10_back_X10_refuses : GoodIn wsX10_back (wsV RX10 119 RX10 yX10_refuses wsX10_refuses) := goodIn_app (wd_l vW10_ok _ pvW10_142) ggX10_back_X10_refuses
set_option maxRecDepth 20000 in
theorem ggX10_back_X10_settled : GoodIn wsX10_back wsX10_settled := wd_c vW10_ok mvW10_32
set_option maxRecDepth 20000 in
theorem gX10_back_X10_settled : GoodIn wsX10_back (wsV RX10 122 RX10 yX10_settled wsX10_settled) := goodIn_app (wd_l vW10_ok _ pvW10_143) ggX10_back_X10_settled
theorem da9_dX10_back_0 : (decode cX10_back 0 = .ok (.iload_n 1, 1)) ∧ (decode cX10_back 1 = .ok (.iconst 0, 1)) ∧ (decode cX10_back 2 = .ok (.iconst 1, 1)) ∧ (decode cX10_back 3 = .ok (.invokestatic 18, 3)) ∧ (decode cX10_back 6 = .ok (.ifCond .ne 9, 3)) ∧ (decode cX10_back 9 = .ok (.aload_n 0, 1)) ∧ (decode cX10_back 10 = .ok (.iconst (-1), 1)) ∧ (decode cX10_back 11 = .ok (.invokevirtual 119, 3)) ∧ (decode cX10_back 14 = .ok (.ireturn, 1)) ∧ (decode cX10_back 15 = .ok (.aload_n 0, 1)) ∧ (decode cX10_back 16 = .ok (.getfield 34, 3)) ∧ (decode cX10_back 19 = .ok (.iload_n 1, 1)) ∧ (decode cX10_back 20 = .ok (.baload, 1)) ∧ (decode cX10_back 21 = .ok (.ifCond .ne 10, 3)) ∧ (decode cX10_back 24 = .ok (.aload_n 0, 1)) ∧ (decode cX10_back 25 = .ok (.bipush (-2), 2)) := by decide +kernel
theorem dX10_back_0 : decode cX10_back 0 = .ok (.iload_n 1, 1) := da9_dX10_back_0.1
theorem dX10_back_1 : decode cX10_back 1 = .ok (.iconst 0, 1) := da9_dX10_back_0.2.1
theorem dX10_back_2 : decode cX10_back 2 = .ok (.iconst 1, 1) := da9_dX10_back_0.2.2.1
theorem dX10_back_3 : decode cX10_back 3 = .ok (.invokestatic 18, 3) := da9_dX10_back_0.2.2.2.1
theorem dX10_back_6 : decode cX10_back 6 = .ok (.ifCond .ne 9, 3) := da9_dX10_back_0.2.2.2.2.1
theorem dX10_back_9 : decode cX10_back 9 = .ok (.aload_n 0, 1) := da9_dX10_back_0.2.2.2.2.2.1
theorem dX10_back_10 : decode cX10_back 10 = .ok (.iconst (-1), 1) := da9_dX10_back_0.2.2.2.2.2.2.1
theorem dX10_back_11 : decode cX10_back 11 = .ok (.invokevirtual 119, 3) := da9_dX10_back_0.2.2.2.2.2.2.2.1
theorem dX10_back_14 : decode cX10_back 14 = .ok (.ireturn, 1) := da9_dX10_back_0.2.2.2.2.2.2.2.2.1
theorem dX10_back_15 : decode cX10_back 15 = .ok (.aload_n 0, 1) := da9_dX10_back_0.2.2.2.2.2.2.2.2.2.1
theorem dX10_back_16 : decode cX10_back 16 = .ok (.getfield 34, 3) := da9_dX10_back_0.2.2.2.2.2.2.2.2.2.2.1
theorem dX10_back_19 : decode cX10_back 19 = .ok (.iload_n 1, 1) := da9_dX10_back_0.2.2.2.2.2.2.2.2.2.2.2.1
theorem dX10_back_20 : decode cX10_back 20 = .ok (.baload, 1) := da9_dX10_back_0.2.2.2.2.2.2.2.2.2.2.2.2.1
theorem dX10_back_21 : decode cX10_back 21 = .ok (.ifCond .ne 10, 3) := da9_dX10_back_0.2.2.2.2.2.2.2.2.2.2.2.2.2.1
theorem dX10_back_24 : decode cX10_back 24 = .ok (.aload_n 0, 1) := da9_dX10_back_0.2.2.2.2.2.2.2.2.2.2.2.2.2.2.1
theorem dX10_back_25 : decode cX10_back 25 = .ok (.bipush (-2), 2) := da9_dX10_back_0.2.2.2.2.2.2.2.2.2.2.2.2.2.2.2
theorem da9_dX10_back_27 : (decode cX10_back 27 = .ok (.invokevirtual 119, 3)) ∧ (decode cX10_back 30 = .ok (.ireturn, 1)) ∧ (decode cX10_back 31 = .ok (.iconst 0, 1)) ∧ (decode cX10_back 32 = .ok (.istore_n 2, 1)) ∧ (decode cX10_back 33 = .ok (.iload_n 2, 1)) ∧ (decode cX10_back 34 = .ok (.sipush 5640, 3)) ∧ (decode cX10_back 37 = .ok (.if_icmp .ge 27, 3)) ∧ (decode cX10_back 40 = .ok (.aload_n 0, 1)) ∧ (decode cX10_back 41 = .ok (.getfield 28, 3)) ∧ (decode cX10_back 44 = .ok (.iload_n 2, 1)) ∧ (decode cX10_back 45 = .ok (.aload_n 0, 1)) ∧ (decode cX10_back 46 = .ok (.getfield 31, 3)) ∧ (decode cX10_back 49 = .ok (.sipush 5640, 3)) ∧ (decode cX10_back 52 = .ok (.iload_n 1, 1)) ∧ (decode cX10_back 53 = .ok (.imul, 1)) ∧ (decode cX10_back 54 = .ok (.iload_n 2, 1)) := by decide +kernel
theorem dX10_back_27 : decode cX10_back 27 = .ok (.invokevirtual 119, 3) := da9_dX10_back_27.1
theorem dX10_back_30 : decode cX10_back 30 = .ok (.ireturn, 1) := da9_dX10_back_27.2.1
theorem dX10_back_31 : decode cX10_back 31 = .ok (.iconst 0, 1) := da9_dX10_back_27.2.2.1
theorem dX10_back_32 : decode cX10_back 32 = .ok (.istore_n 2, 1) := da9_dX10_back_27.2.2.2.1
theorem dX10_back_33 : decode cX10_back 33 = .ok (.iload_n 2, 1) := da9_dX10_back_27.2.2.2.2.1
theorem dX10_back_34 : decode cX10_back 34 = .ok (.sipush 5640, 3) := da9_dX10_back_27.2.2.2.2.2.1
theorem dX10_back_37 : decode cX10_back 37 = .ok (.if_icmp .ge 27, 3) := da9_dX10_back_27.2.2.2.2.2.2.1
theorem dX10_back_40 : decode cX10_back 40 = .ok (.aload_n 0, 1) := da9_dX10_back_27.2.2.2.2.2.2.2.1
theorem dX10_back_41 : decode cX10_back 41 = .ok (.getfield 28, 3) := da9_dX10_back_27.2.2.2.2.2.2.2.2.1
theorem dX10_back_44 : decode cX10_back 44 = .ok (.iload_n 2, 1) := da9_dX10_back_27.2.2.2.2.2.2.2.2.2.1
theorem dX10_back_45 : decode cX10_back 45 = .ok (.aload_n 0, 1) := da9_dX10_back_27.2.2.2.2.2.2.2.2.2.2.1
theorem dX10_back_46 : decode cX10_back 46 = .ok (.getfield 31, 3) := da9_dX10_back_27.2.2.2.2.2.2.2.2.2.2.2.1
theorem dX10_back_49 : decode cX10_back 49 = .ok (.sipush 5640, 3) := da9_dX10_back_27.2.2.2.2.2.2.2.2.2.2.2.2.1
theorem dX10_back_52 : decode cX10_back 52 = .ok (.iload_n 1, 1) := da9_dX10_back_27.2.2.2.2.2.2.2.2.2.2.2.2.2.1
theorem dX10_back_53 : decode cX10_back 53 = .ok (.imul, 1) := da9_dX10_back_27.2.2.2.2.2.2.2.2.2.2.2.2.2.2.1
theorem dX10_back_54 : decode cX10_back 54 = .ok (.iload_n 2, 1) := da9_dX10_back_27.2.2.2.2.2.2.2.2.2.2.2.2.2.2.2
theorem da9_dX10_back_55 : (decode cX10_back 55 = .ok (.iadd, 1)) ∧ (decode cX10_back 56 = .ok (.iaload, 1)) ∧ (decode cX10_back 57 = .ok (.iastore, 1)) ∧ (decode cX10_back 58 = .ok (.iinc 2 1, 3)) ∧ (decode cX10_back 61 = .ok (.goto (-28), 3)) ∧ (decode cX10_back 64 = .ok (.aload_n 0, 1)) ∧ (decode cX10_back 65 = .ok (.iconst 0, 1)) ∧ (decode cX10_back 66 = .ok (.invokevirtual 122, 3)) ∧ (decode cX10_back 69 = .ok (.ireturn, 1)) := by decide +kernel
theorem dX10_back_55 : decode cX10_back 55 = .ok (.iadd, 1) := da9_dX10_back_55.1
theorem dX10_back_56 : decode cX10_back 56 = .ok (.iaload, 1) := da9_dX10_back_55.2.1
theorem dX10_back_57 : decode cX10_back 57 = .ok (.iastore, 1) := da9_dX10_back_55.2.2.1
theorem dX10_back_58 : decode cX10_back 58 = .ok (.iinc 2 1, 3) := da9_dX10_back_55.2.2.2.1
theorem dX10_back_61 : decode cX10_back 61 = .ok (.goto (-28), 3) := da9_dX10_back_55.2.2.2.2.1
theorem dX10_back_64 : decode cX10_back 64 = .ok (.aload_n 0, 1) := da9_dX10_back_55.2.2.2.2.2.1
theorem dX10_back_65 : decode cX10_back 65 = .ok (.iconst 0, 1) := da9_dX10_back_55.2.2.2.2.2.2.1
theorem dX10_back_66 : decode cX10_back 66 = .ok (.invokevirtual 122, 3) := da9_dX10_back_55.2.2.2.2.2.2.2.1
theorem dX10_back_69 : decode cX10_back 69 = .ok (.ireturn, 1) := da9_dX10_back_55.2.2.2.2.2.2.2.2
theorem da9_dX10_size_0 : (decode cX10_size 0 = .ok (.aload_n 0, 1)) ∧ (decode cX10_size 1 = .ok (.getfield 28, 3)) ∧ (decode cX10_size 4 = .ok (.bipush 29, 2)) ∧ (decode cX10_size 6 = .ok (.iaload, 1)) ∧ (decode cX10_size 7 = .ok (.ireturn, 1)) := by decide +kernel
theorem dX10_size_0 : decode cX10_size 0 = .ok (.aload_n 0, 1) := da9_dX10_size_0.1
theorem dX10_size_1 : decode cX10_size 1 = .ok (.getfield 28, 3) := da9_dX10_size_0.2.1
theorem dX10_size_4 : decode cX10_size 4 = .ok (.bipush 29, 2) := da9_dX10_size_0.2.2.1
theorem dX10_size_6 : decode cX10_size 6 = .ok (.iaload, 1) := da9_dX10_size_0.2.2.2.1
theorem dX10_size_7 : decode cX10_size 7 = .ok (.ireturn, 1) := da9_dX10_size_0.2.2.2.2
set_option maxRecDepth 20000 in
theorem ggX10_isPlace_X10_size : GoodIn wsX10_isPlace wsX10_size := wd_c vW10_ok mvW10_24
set_option maxRecDepth 20000 in
theorem gX10_isPlace_X10_size : GoodIn wsX10_isPlace (wsV RX10 125 RX10 yX10_size wsX10_size) := goodIn_app (wd_l vW10_ok _ pvW10_144) ggX10_isPlace_X10_size
set_option maxRecDepth 20000 in
theorem ggX10_isPlace_X10_lies : GoodIn wsX10_isPlace wsX10_lies := wd_c vW10_ok mvW10_6
set_option maxRecDepth 20000 in
theorem gX10_isPlace_X10_lies : GoodIn wsX10_isPlace (va_wsS RX10 18 yX10_lies wsX10_lies) := goodIn_app (wd_l vW10_ok _ pvW10_141) ggX10_isPlace_X10_lies
theorem da9_dX10_isPlace_0 : (decode cX10_isPlace 0 = .ok (.iload_n 1, 1)) ∧ (decode cX10_isPlace 1 = .ok (.iconst 0, 1)) ∧ (decode cX10_isPlace 2 = .ok (.aload_n 0, 1)) ∧ (decode cX10_isPlace 3 = .ok (.invokevirtual 125, 3)) ∧ (decode cX10_isPlace 6 = .ok (.iconst 1, 1)) ∧ (decode cX10_isPlace 7 = .ok (.isub, 1)) ∧ (decode cX10_isPlace 8 = .ok (.invokestatic 18, 3)) ∧ (decode cX10_isPlace 11 = .ok (.ireturn, 1)) := by decide +kernel
theorem dX10_isPlace_0 : decode cX10_isPlace 0 = .ok (.iload_n 1, 1) := da9_dX10_isPlace_0.1
theorem dX10_isPlace_1 : decode cX10_isPlace 1 = .ok (.iconst 0, 1) := da9_dX10_isPlace_0.2.1
theorem dX10_isPlace_2 : decode cX10_isPlace 2 = .ok (.aload_n 0, 1) := da9_dX10_isPlace_0.2.2.1
theorem dX10_isPlace_3 : decode cX10_isPlace 3 = .ok (.invokevirtual 125, 3) := da9_dX10_isPlace_0.2.2.2.1
theorem dX10_isPlace_6 : decode cX10_isPlace 6 = .ok (.iconst 1, 1) := da9_dX10_isPlace_0.2.2.2.2.1
theorem dX10_isPlace_7 : decode cX10_isPlace 7 = .ok (.isub, 1) := da9_dX10_isPlace_0.2.2.2.2.2.1
theorem dX10_isPlace_8 : decode cX10_isPlace 8 = .ok (.invokestatic 18, 3) := da9_dX10_isPlace_0.2.2.2.2.2.2.1
theorem dX10_isPlace_11 : decode cX10_isPlace 11 = .ok (.ireturn, 1) := da9_dX10_isPlace_0.2.2.2.2.2.2.2
set_option maxRecDepth 20000 in
theorem ggX10_placeOf_X10_size : GoodIn wsX10_placeOf wsX10_size := wd_c vW10_ok mvW10_24
set_option maxRecDepth 20000 in
theorem gX10_placeOf_X10_size : GoodIn wsX10_placeOf (wsV RX10 125 RX10 yX10_size wsX10_size) := goodIn_app (wd_l vW10_ok _ pvW10_144) ggX10_placeOf_X10_size
theorem da9_dX10_placeOf_0 : (decode cX10_placeOf 0 = .ok (.iconst (-1), 1)) ∧ (decode cX10_placeOf 1 = .ok (.istore_n 2, 1)) ∧ (decode cX10_placeOf 2 = .ok (.iconst 0, 1)) ∧ (decode cX10_placeOf 3 = .ok (.istore_n 3, 1)) ∧ (decode cX10_placeOf 4 = .ok (.iload_n 3, 1)) ∧ (decode cX10_placeOf 5 = .ok (.aload_n 0, 1)) ∧ (decode cX10_placeOf 6 = .ok (.invokevirtual 125, 3)) ∧ (decode cX10_placeOf 9 = .ok (.if_icmp .ge 27, 3)) ∧ (decode cX10_placeOf 12 = .ok (.aload_n 0, 1)) ∧ (decode cX10_placeOf 13 = .ok (.getfield 28, 3)) ∧ (decode cX10_placeOf 16 = .ok (.iconst 0, 1)) ∧ (decode cX10_placeOf 17 = .ok (.iload_n 3, 1)) ∧ (decode cX10_placeOf 18 = .ok (.iadd, 1)) ∧ (decode cX10_placeOf 19 = .ok (.iaload, 1)) ∧ (decode cX10_placeOf 20 = .ok (.iload_n 1, 1)) ∧ (decode cX10_placeOf 21 = .ok (.if_icmp .ne 7, 3)) := by decide +kernel
theorem dX10_placeOf_0 : decode cX10_placeOf 0 = .ok (.iconst (-1), 1) := da9_dX10_placeOf_0.1
theorem dX10_placeOf_1 : decode cX10_placeOf 1 = .ok (.istore_n 2, 1) := da9_dX10_placeOf_0.2.1
theorem dX10_placeOf_2 : decode cX10_placeOf 2 = .ok (.iconst 0, 1) := da9_dX10_placeOf_0.2.2.1
theorem dX10_placeOf_3 : decode cX10_placeOf 3 = .ok (.istore_n 3, 1) := da9_dX10_placeOf_0.2.2.2.1
theorem dX10_placeOf_4 : decode cX10_placeOf 4 = .ok (.iload_n 3, 1) := da9_dX10_placeOf_0.2.2.2.2.1
theorem dX10_placeOf_5 : decode cX10_placeOf 5 = .ok (.aload_n 0, 1) := da9_dX10_placeOf_0.2.2.2.2.2.1
theorem dX10_placeOf_6 : decode cX10_placeOf 6 = .ok (.invokevirtual 125, 3) := da9_dX10_placeOf_0.2.2.2.2.2.2.1
theorem dX10_placeOf_9 : decode cX10_placeOf 9 = .ok (.if_icmp .ge 27, 3) := da9_dX10_placeOf_0.2.2.2.2.2.2.2.1
theorem dX10_placeOf_12 : decode cX10_placeOf 12 = .ok (.aload_n 0, 1) := da9_dX10_placeOf_0.2.2.2.2.2.2.2.2.1
theorem dX10_placeOf_13 : decode cX10_placeOf 13 = .ok (.getfield 28, 3) := da9_dX10_placeOf_0.2.2.2.2.2.2.2.2.2.1
theorem dX10_placeOf_16 : decode cX10_placeOf 16 = .ok (.iconst 0, 1) := da9_dX10_placeOf_0.2.2.2.2.2.2.2.2.2.2.1
theorem dX10_placeOf_17 : decode cX10_placeOf 17 = .ok (.iload_n 3, 1) := da9_dX10_placeOf_0.2.2.2.2.2.2.2.2.2.2.2.1
theorem dX10_placeOf_18 : decode cX10_placeOf 18 = .ok (.iadd, 1) := da9_dX10_placeOf_0.2.2.2.2.2.2.2.2.2.2.2.2.1
theorem dX10_placeOf_19 : decode cX10_placeOf 19 = .ok (.iaload, 1) := da9_dX10_placeOf_0.2.2.2.2.2.2.2.2.2.2.2.2.2.1
theorem dX10_placeOf_20 : decode cX10_placeOf 20 = .ok (.iload_n 1, 1) := da9_dX10_placeOf_0.2.2.2.2.2.2.2.2.2.2.2.2.2.2.1
theorem dX10_placeOf_21 : decode cX10_placeOf 21 = .ok (.if_icmp .ne 7, 3) := da9_dX10_placeOf_0.2.2.2.2.2.2.2.2.2.2.2.2.2.2.2
theorem da9_dX10_placeOf_24 : (decode cX10_placeOf 24 = .ok (.iload_n 3, 1)) ∧ (decode cX10_placeOf 25 = .ok (.goto 4, 3)) ∧ (decode cX10_placeOf 28 = .ok (.iload_n 2, 1)) ∧ (decode cX10_placeOf 29 = .ok (.istore_n 2, 1)) ∧ (decode cX10_placeOf 30 = .ok (.iinc 3 1, 3)) ∧ (decode cX10_placeOf 33 = .ok (.goto (-29), 3)) ∧ (decode cX10_placeOf 36 = .ok (.iload_n 2, 1)) ∧ (decode cX10_placeOf 37 = .ok (.ireturn, 1)) := by decide +kernel
theorem dX10_placeOf_24 : decode cX10_placeOf 24 = .ok (.iload_n 3, 1) := da9_dX10_placeOf_24.1
theorem dX10_placeOf_25 : decode cX10_placeOf 25 = .ok (.goto 4, 3) := da9_dX10_placeOf_24.2.1
theorem dX10_placeOf_28 : decode cX10_placeOf 28 = .ok (.iload_n 2, 1) := da9_dX10_placeOf_24.2.2.1
theorem dX10_placeOf_29 : decode cX10_placeOf 29 = .ok (.istore_n 2, 1) := da9_dX10_placeOf_24.2.2.2.1
theorem dX10_placeOf_30 : decode cX10_placeOf 30 = .ok (.iinc 3 1, 3) := da9_dX10_placeOf_24.2.2.2.2.1
theorem dX10_placeOf_33 : decode cX10_placeOf 33 = .ok (.goto (-29), 3) := da9_dX10_placeOf_24.2.2.2.2.2.1
theorem dX10_placeOf_36 : decode cX10_placeOf 36 = .ok (.iload_n 2, 1) := da9_dX10_placeOf_24.2.2.2.2.2.2.1
theorem dX10_placeOf_37 : decode cX10_placeOf 37 = .ok (.ireturn, 1) := da9_dX10_placeOf_24.2.2.2.2.2.2.2
set_option maxRecDepth 20000 in
theorem ggX10_adds_X10_size : GoodIn wsX10_adds wsX10_size := wd_c vW10_ok mvW10_24
set_option maxRecDepth 20000 in
theorem gX10_adds_X10_size : GoodIn wsX10_adds (wsV RX10 125 RX10 yX10_size wsX10_size) := goodIn_app (wd_l vW10_ok _ pvW10_144) ggX10_adds_X10_size
theorem da9_dX10_adds_0 : (decode cX10_adds 0 = .ok (.aload_n 0, 1)) ∧ (decode cX10_adds 1 = .ok (.getfield 28, 3)) ∧ (decode cX10_adds 4 = .ok (.iconst 0, 1)) ∧ (decode cX10_adds 5 = .ok (.aload_n 0, 1)) ∧ (decode cX10_adds 6 = .ok (.invokevirtual 125, 3)) ∧ (decode cX10_adds 9 = .ok (.iadd, 1)) ∧ (decode cX10_adds 10 = .ok (.iload_n 1, 1)) ∧ (decode cX10_adds 11 = .ok (.iastore, 1)) ∧ (decode cX10_adds 12 = .ok (.aload_n 0, 1)) ∧ (decode cX10_adds 13 = .ok (.getfield 28, 3)) ∧ (decode cX10_adds 16 = .ok (.bipush 6, 2)) ∧ (decode cX10_adds 18 = .ok (.aload_n 0, 1)) ∧ (decode cX10_adds 19 = .ok (.invokevirtual 125, 3)) ∧ (decode cX10_adds 22 = .ok (.iadd, 1)) ∧ (decode cX10_adds 23 = .ok (.iload_n 2, 1)) ∧ (decode cX10_adds 24 = .ok (.iastore, 1)) := by decide +kernel
theorem dX10_adds_0 : decode cX10_adds 0 = .ok (.aload_n 0, 1) := da9_dX10_adds_0.1
theorem dX10_adds_1 : decode cX10_adds 1 = .ok (.getfield 28, 3) := da9_dX10_adds_0.2.1
theorem dX10_adds_4 : decode cX10_adds 4 = .ok (.iconst 0, 1) := da9_dX10_adds_0.2.2.1
theorem dX10_adds_5 : decode cX10_adds 5 = .ok (.aload_n 0, 1) := da9_dX10_adds_0.2.2.2.1
theorem dX10_adds_6 : decode cX10_adds 6 = .ok (.invokevirtual 125, 3) := da9_dX10_adds_0.2.2.2.2.1
theorem dX10_adds_9 : decode cX10_adds 9 = .ok (.iadd, 1) := da9_dX10_adds_0.2.2.2.2.2.1
theorem dX10_adds_10 : decode cX10_adds 10 = .ok (.iload_n 1, 1) := da9_dX10_adds_0.2.2.2.2.2.2.1
theorem dX10_adds_11 : decode cX10_adds 11 = .ok (.iastore, 1) := da9_dX10_adds_0.2.2.2.2.2.2.2.1
theorem dX10_adds_12 : decode cX10_adds 12 = .ok (.aload_n 0, 1) := da9_dX10_adds_0.2.2.2.2.2.2.2.2.1
theorem dX10_adds_13 : decode cX10_adds 13 = .ok (.getfield 28, 3) := da9_dX10_adds_0.2.2.2.2.2.2.2.2.2.1
theorem dX10_adds_16 : decode cX10_adds 16 = .ok (.bipush 6, 2) := da9_dX10_adds_0.2.2.2.2.2.2.2.2.2.2.1
theorem dX10_adds_18 : decode cX10_adds 18 = .ok (.aload_n 0, 1) := da9_dX10_adds_0.2.2.2.2.2.2.2.2.2.2.2.1
theorem dX10_adds_19 : decode cX10_adds 19 = .ok (.invokevirtual 125, 3) := da9_dX10_adds_0.2.2.2.2.2.2.2.2.2.2.2.2.1
theorem dX10_adds_22 : decode cX10_adds 22 = .ok (.iadd, 1) := da9_dX10_adds_0.2.2.2.2.2.2.2.2.2.2.2.2.2.1
theorem dX10_adds_23 : decode cX10_adds 23 = .ok (.iload_n 2, 1) := da9_dX10_adds_0.2.2.2.2.2.2.2.2.2.2.2.2.2.2.1
theorem dX10_adds_24 : decode cX10_adds 24 = .ok (.iastore, 1) := da9_dX10_adds_0.2.2.2.2.2.2.2.2.2.2.2.2.2.2.2
theorem da9_dX10_adds_25 : (decode cX10_adds 25 = .ok (.aload_n 0, 1)) ∧ (decode cX10_adds 26 = .ok (.getfield 28, 3)) ∧ (decode cX10_adds 29 = .ok (.bipush 29, 2)) ∧ (decode cX10_adds 31 = .ok (.dup2, 1)) ∧ (decode cX10_adds 32 = .ok (.iaload, 1)) ∧ (decode cX10_adds 33 = .ok (.iconst 1, 1)) ∧ (decode cX10_adds 34 = .ok (.iadd, 1)) ∧ (decode cX10_adds 35 = .ok (.iastore, 1)) ∧ (decode cX10_adds 36 = .ok (.return_, 1)) := by decide +kernel
theorem dX10_adds_25 : decode cX10_adds 25 = .ok (.aload_n 0, 1) := da9_dX10_adds_25.1
theorem dX10_adds_26 : decode cX10_adds 26 = .ok (.getfield 28, 3) := da9_dX10_adds_25.2.1
theorem dX10_adds_29 : decode cX10_adds 29 = .ok (.bipush 29, 2) := da9_dX10_adds_25.2.2.1
theorem dX10_adds_31 : decode cX10_adds 31 = .ok (.dup2, 1) := da9_dX10_adds_25.2.2.2.1
theorem dX10_adds_32 : decode cX10_adds 32 = .ok (.iaload, 1) := da9_dX10_adds_25.2.2.2.2.1
theorem dX10_adds_33 : decode cX10_adds 33 = .ok (.iconst 1, 1) := da9_dX10_adds_25.2.2.2.2.2.1
theorem dX10_adds_34 : decode cX10_adds 34 = .ok (.iadd, 1) := da9_dX10_adds_25.2.2.2.2.2.2.1
theorem dX10_adds_35 : decode cX10_adds 35 = .ok (.iastore, 1) := da9_dX10_adds_25.2.2.2.2.2.2.2.1
theorem dX10_adds_36 : decode cX10_adds 36 = .ok (.return_, 1) := da9_dX10_adds_25.2.2.2.2.2.2.2.2
set_option maxRecDepth 20000 in
theorem ggX10_floor_X10_isRank : GoodIn wsX10_floor wsX10_isRank := wd_c vW10_ok mvW10_3
set_option maxRecDepth 20000 in
theorem gX10_floor_X10_isRank : GoodIn wsX10_floor (va_wsS RX10 129 yX10_isRank wsX10_isRank) := goodIn_app (wd_l vW10_ok _ pvW10_145) ggX10_floor_X10_isRank
set_option maxRecDepth 20000 in
theorem ggX10_floor_X10_isBit : GoodIn wsX10_floor wsX10_isBit := wd_c vW10_ok mvW10_9
set_option maxRecDepth 20000 in
theorem gX10_floor_X10_isBit : GoodIn wsX10_floor (va_wsS RX10 133 yX10_isBit wsX10_isBit) := goodIn_app (wd_l vW10_ok _ pvW10_146) ggX10_floor_X10_isBit
set_option maxRecDepth 20000 in
theorem ggX10_floor_X10_refuses : GoodIn wsX10_floor wsX10_refuses := wd_c vW10_ok mvW10_13
set_option maxRecDepth 20000 in
theorem gX10_floor_X10_refuses : GoodIn wsX10_floor (wsV RX10 119 RX10 yX10_refuses wsX10_refuses) := goodIn_app (wd_l vW10_ok _ pvW10_142) ggX10_floor_X10_refuses
set_option maxRecDepth 20000 in
theorem ggX10_floor_X10_placeOf : GoodIn wsX10_floor wsX10_placeOf := wd_c vW10_ok mvW10_19
set_option maxRecDepth 20000 in
theorem gX10_floor_X10_placeOf : GoodIn wsX10_floor (wsV RX10 136 RX10 yX10_placeOf wsX10_placeOf) := goodIn_app (wd_l vW10_ok _ pvW10_147) ggX10_floor_X10_placeOf
set_option maxRecDepth 20000 in
theorem ggX10_floor_X10_size : GoodIn wsX10_floor wsX10_size := wd_c vW10_ok mvW10_24
set_option maxRecDepth 20000 in
theorem gX10_floor_X10_size : GoodIn wsX10_floor (wsV RX10 125 RX10 yX10_size wsX10_size) := goodIn_app (wd_l vW10_ok _ pvW10_144) ggX10_floor_X10_size
set_option maxRecDepth 20000 in
theorem ggX10_floor_X10_adds : GoodIn wsX10_floor wsX10_adds := wd_c vW10_ok mvW10_28
set_option maxRecDepth 20000 in
theorem gX10_floor_X10_adds : GoodIn wsX10_floor (wsV RX10 139 RX10 yX10_adds wsX10_adds) := goodIn_app (wd_l vW10_ok _ pvW10_148) ggX10_floor_X10_adds
set_option maxRecDepth 20000 in
theorem ggX10_floor_X10_settled : GoodIn wsX10_floor wsX10_settled := wd_c vW10_ok mvW10_32
set_option maxRecDepth 20000 in
theorem gX10_floor_X10_settled : GoodIn wsX10_floor (wsV RX10 122 RX10 yX10_settled wsX10_settled) := goodIn_app (wd_l vW10_ok _ pvW10_143) ggX10_floor_X10_settled
theorem da9_dX10_floor_0 : (decode cX10_floor 0 = .ok (.iload_n 1, 1)) ∧ (decode cX10_floor 1 = .ok (.invokestatic 129, 3)) ∧ (decode cX10_floor 4 = .ok (.ifCond .eq 10, 3)) ∧ (decode cX10_floor 7 = .ok (.iload_n 2, 1)) ∧ (decode cX10_floor 8 = .ok (.invokestatic 133, 3)) ∧ (decode cX10_floor 11 = .ok (.ifCond .ne 9, 3)) ∧ (decode cX10_floor 14 = .ok (.aload_n 0, 1)) ∧ (decode cX10_floor 15 = .ok (.iconst (-1), 1)) ∧ (decode cX10_floor 16 = .ok (.invokevirtual 119, 3)) ∧ (decode cX10_floor 19 = .ok (.ireturn, 1)) ∧ (decode cX10_floor 20 = .ok (.aload_n 0, 1)) ∧ (decode cX10_floor 21 = .ok (.iload_n 1, 1)) ∧ (decode cX10_floor 22 = .ok (.invokevirtual 136, 3)) ∧ (decode cX10_floor 25 = .ok (.iconst (-1), 1)) ∧ (decode cX10_floor 26 = .ok (.if_icmp .eq 10, 3)) ∧ (decode cX10_floor 29 = .ok (.aload_n 0, 1)) := by decide +kernel
theorem dX10_floor_0 : decode cX10_floor 0 = .ok (.iload_n 1, 1) := da9_dX10_floor_0.1
theorem dX10_floor_1 : decode cX10_floor 1 = .ok (.invokestatic 129, 3) := da9_dX10_floor_0.2.1
theorem dX10_floor_4 : decode cX10_floor 4 = .ok (.ifCond .eq 10, 3) := da9_dX10_floor_0.2.2.1
theorem dX10_floor_7 : decode cX10_floor 7 = .ok (.iload_n 2, 1) := da9_dX10_floor_0.2.2.2.1
theorem dX10_floor_8 : decode cX10_floor 8 = .ok (.invokestatic 133, 3) := da9_dX10_floor_0.2.2.2.2.1
theorem dX10_floor_11 : decode cX10_floor 11 = .ok (.ifCond .ne 9, 3) := da9_dX10_floor_0.2.2.2.2.2.1
theorem dX10_floor_14 : decode cX10_floor 14 = .ok (.aload_n 0, 1) := da9_dX10_floor_0.2.2.2.2.2.2.1
theorem dX10_floor_15 : decode cX10_floor 15 = .ok (.iconst (-1), 1) := da9_dX10_floor_0.2.2.2.2.2.2.2.1
theorem dX10_floor_16 : decode cX10_floor 16 = .ok (.invokevirtual 119, 3) := da9_dX10_floor_0.2.2.2.2.2.2.2.2.1
theorem dX10_floor_19 : decode cX10_floor 19 = .ok (.ireturn, 1) := da9_dX10_floor_0.2.2.2.2.2.2.2.2.2.1
theorem dX10_floor_20 : decode cX10_floor 20 = .ok (.aload_n 0, 1) := da9_dX10_floor_0.2.2.2.2.2.2.2.2.2.2.1
theorem dX10_floor_21 : decode cX10_floor 21 = .ok (.iload_n 1, 1) := da9_dX10_floor_0.2.2.2.2.2.2.2.2.2.2.2.1
theorem dX10_floor_22 : decode cX10_floor 22 = .ok (.invokevirtual 136, 3) := da9_dX10_floor_0.2.2.2.2.2.2.2.2.2.2.2.2.1
theorem dX10_floor_25 : decode cX10_floor 25 = .ok (.iconst (-1), 1) := da9_dX10_floor_0.2.2.2.2.2.2.2.2.2.2.2.2.2.1
theorem dX10_floor_26 : decode cX10_floor 26 = .ok (.if_icmp .eq 10, 3) := da9_dX10_floor_0.2.2.2.2.2.2.2.2.2.2.2.2.2.2.1
theorem dX10_floor_29 : decode cX10_floor 29 = .ok (.aload_n 0, 1) := da9_dX10_floor_0.2.2.2.2.2.2.2.2.2.2.2.2.2.2.2
theorem da9_dX10_floor_30 : (decode cX10_floor 30 = .ok (.bipush (-3), 2)) ∧ (decode cX10_floor 32 = .ok (.invokevirtual 119, 3)) ∧ (decode cX10_floor 35 = .ok (.ireturn, 1)) ∧ (decode cX10_floor 36 = .ok (.aload_n 0, 1)) ∧ (decode cX10_floor 37 = .ok (.invokevirtual 125, 3)) ∧ (decode cX10_floor 40 = .ok (.bipush 6, 2)) ∧ (decode cX10_floor 42 = .ok (.if_icmp .ne 10, 3)) ∧ (decode cX10_floor 45 = .ok (.aload_n 0, 1)) ∧ (decode cX10_floor 46 = .ok (.bipush (-5), 2)) ∧ (decode cX10_floor 48 = .ok (.invokevirtual 119, 3)) ∧ (decode cX10_floor 51 = .ok (.ireturn, 1)) ∧ (decode cX10_floor 52 = .ok (.aload_n 0, 1)) ∧ (decode cX10_floor 53 = .ok (.iload_n 1, 1)) ∧ (decode cX10_floor 54 = .ok (.iload_n 2, 1)) ∧ (decode cX10_floor 55 = .ok (.invokevirtual 139, 3)) ∧ (decode cX10_floor 58 = .ok (.aload_n 0, 1)) := by decide +kernel
theorem dX10_floor_30 : decode cX10_floor 30 = .ok (.bipush (-3), 2) := da9_dX10_floor_30.1
theorem dX10_floor_32 : decode cX10_floor 32 = .ok (.invokevirtual 119, 3) := da9_dX10_floor_30.2.1
theorem dX10_floor_35 : decode cX10_floor 35 = .ok (.ireturn, 1) := da9_dX10_floor_30.2.2.1
theorem dX10_floor_36 : decode cX10_floor 36 = .ok (.aload_n 0, 1) := da9_dX10_floor_30.2.2.2.1
theorem dX10_floor_37 : decode cX10_floor 37 = .ok (.invokevirtual 125, 3) := da9_dX10_floor_30.2.2.2.2.1
theorem dX10_floor_40 : decode cX10_floor 40 = .ok (.bipush 6, 2) := da9_dX10_floor_30.2.2.2.2.2.1
theorem dX10_floor_42 : decode cX10_floor 42 = .ok (.if_icmp .ne 10, 3) := da9_dX10_floor_30.2.2.2.2.2.2.1
theorem dX10_floor_45 : decode cX10_floor 45 = .ok (.aload_n 0, 1) := da9_dX10_floor_30.2.2.2.2.2.2.2.1
theorem dX10_floor_46 : decode cX10_floor 46 = .ok (.bipush (-5), 2) := da9_dX10_floor_30.2.2.2.2.2.2.2.2.1
theorem dX10_floor_48 : decode cX10_floor 48 = .ok (.invokevirtual 119, 3) := da9_dX10_floor_30.2.2.2.2.2.2.2.2.2.1
theorem dX10_floor_51 : decode cX10_floor 51 = .ok (.ireturn, 1) := da9_dX10_floor_30.2.2.2.2.2.2.2.2.2.2.1
theorem dX10_floor_52 : decode cX10_floor 52 = .ok (.aload_n 0, 1) := da9_dX10_floor_30.2.2.2.2.2.2.2.2.2.2.2.1
theorem dX10_floor_53 : decode cX10_floor 53 = .ok (.iload_n 1, 1) := da9_dX10_floor_30.2.2.2.2.2.2.2.2.2.2.2.2.1
theorem dX10_floor_54 : decode cX10_floor 54 = .ok (.iload_n 2, 1) := da9_dX10_floor_30.2.2.2.2.2.2.2.2.2.2.2.2.2.1
theorem dX10_floor_55 : decode cX10_floor 55 = .ok (.invokevirtual 139, 3) := da9_dX10_floor_30.2.2.2.2.2.2.2.2.2.2.2.2.2.2.1
theorem dX10_floor_58 : decode cX10_floor 58 = .ok (.aload_n 0, 1) := da9_dX10_floor_30.2.2.2.2.2.2.2.2.2.2.2.2.2.2.2
theorem da9_dX10_floor_59 : (decode cX10_floor 59 = .ok (.aload_n 0, 1)) ∧ (decode cX10_floor 60 = .ok (.invokevirtual 125, 3)) ∧ (decode cX10_floor 63 = .ok (.iconst 1, 1)) ∧ (decode cX10_floor 64 = .ok (.isub, 1)) ∧ (decode cX10_floor 65 = .ok (.invokevirtual 122, 3)) ∧ (decode cX10_floor 68 = .ok (.ireturn, 1)) := by decide +kernel
theorem dX10_floor_59 : decode cX10_floor 59 = .ok (.aload_n 0, 1) := da9_dX10_floor_59.1
theorem dX10_floor_60 : decode cX10_floor 60 = .ok (.invokevirtual 125, 3) := da9_dX10_floor_59.2.1
theorem dX10_floor_63 : decode cX10_floor 63 = .ok (.iconst 1, 1) := da9_dX10_floor_59.2.2.1
theorem dX10_floor_64 : decode cX10_floor 64 = .ok (.isub, 1) := da9_dX10_floor_59.2.2.2.1
theorem dX10_floor_65 : decode cX10_floor 65 = .ok (.invokevirtual 122, 3) := da9_dX10_floor_59.2.2.2.2.1
theorem dX10_floor_68 : decode cX10_floor 68 = .ok (.ireturn, 1) := da9_dX10_floor_59.2.2.2.2.2
set_option maxRecDepth 20000 in
theorem ggX10_setsAsked_X10_size : GoodIn wsX10_setsAsked wsX10_size := wd_c vW10_ok mvW10_24
set_option maxRecDepth 20000 in
theorem gX10_setsAsked_X10_size : GoodIn wsX10_setsAsked (wsV RX10 125 RX10 yX10_size wsX10_size) := goodIn_app (wd_l vW10_ok _ pvW10_144) ggX10_setsAsked_X10_size
theorem da9_dX10_setsAsked_0 : (decode cX10_setsAsked 0 = .ok (.aload_n 0, 1)) ∧ (decode cX10_setsAsked 1 = .ok (.getfield 63, 3)) ∧ (decode cX10_setsAsked 4 = .ok (.iconst 3, 1)) ∧ (decode cX10_setsAsked 5 = .ok (.aload_n 0, 1)) ∧ (decode cX10_setsAsked 6 = .ok (.invokevirtual 125, 3)) ∧ (decode cX10_setsAsked 9 = .ok (.iastore, 1)) ∧ (decode cX10_setsAsked 10 = .ok (.aload_n 0, 1)) ∧ (decode cX10_setsAsked 11 = .ok (.getfield 63, 3)) ∧ (decode cX10_setsAsked 14 = .ok (.iconst 4, 1)) ∧ (decode cX10_setsAsked 15 = .ok (.iload_n 1, 1)) ∧ (decode cX10_setsAsked 16 = .ok (.iastore, 1)) ∧ (decode cX10_setsAsked 17 = .ok (.aload_n 0, 1)) ∧ (decode cX10_setsAsked 18 = .ok (.getfield 63, 3)) ∧ (decode cX10_setsAsked 21 = .ok (.iconst 5, 1)) ∧ (decode cX10_setsAsked 22 = .ok (.iload_n 2, 1)) ∧ (decode cX10_setsAsked 23 = .ok (.iastore, 1)) := by decide +kernel
theorem dX10_setsAsked_0 : decode cX10_setsAsked 0 = .ok (.aload_n 0, 1) := da9_dX10_setsAsked_0.1
theorem dX10_setsAsked_1 : decode cX10_setsAsked 1 = .ok (.getfield 63, 3) := da9_dX10_setsAsked_0.2.1
theorem dX10_setsAsked_4 : decode cX10_setsAsked 4 = .ok (.iconst 3, 1) := da9_dX10_setsAsked_0.2.2.1
theorem dX10_setsAsked_5 : decode cX10_setsAsked 5 = .ok (.aload_n 0, 1) := da9_dX10_setsAsked_0.2.2.2.1
theorem dX10_setsAsked_6 : decode cX10_setsAsked 6 = .ok (.invokevirtual 125, 3) := da9_dX10_setsAsked_0.2.2.2.2.1
theorem dX10_setsAsked_9 : decode cX10_setsAsked 9 = .ok (.iastore, 1) := da9_dX10_setsAsked_0.2.2.2.2.2.1
theorem dX10_setsAsked_10 : decode cX10_setsAsked 10 = .ok (.aload_n 0, 1) := da9_dX10_setsAsked_0.2.2.2.2.2.2.1
theorem dX10_setsAsked_11 : decode cX10_setsAsked 11 = .ok (.getfield 63, 3) := da9_dX10_setsAsked_0.2.2.2.2.2.2.2.1
theorem dX10_setsAsked_14 : decode cX10_setsAsked 14 = .ok (.iconst 4, 1) := da9_dX10_setsAsked_0.2.2.2.2.2.2.2.2.1
theorem dX10_setsAsked_15 : decode cX10_setsAsked 15 = .ok (.iload_n 1, 1) := da9_dX10_setsAsked_0.2.2.2.2.2.2.2.2.2.1
theorem dX10_setsAsked_16 : decode cX10_setsAsked 16 = .ok (.iastore, 1) := da9_dX10_setsAsked_0.2.2.2.2.2.2.2.2.2.2.1
theorem dX10_setsAsked_17 : decode cX10_setsAsked 17 = .ok (.aload_n 0, 1) := da9_dX10_setsAsked_0.2.2.2.2.2.2.2.2.2.2.2.1
theorem dX10_setsAsked_18 : decode cX10_setsAsked 18 = .ok (.getfield 63, 3) := da9_dX10_setsAsked_0.2.2.2.2.2.2.2.2.2.2.2.2.1
theorem dX10_setsAsked_21 : decode cX10_setsAsked 21 = .ok (.iconst 5, 1) := da9_dX10_setsAsked_0.2.2.2.2.2.2.2.2.2.2.2.2.2.1
theorem dX10_setsAsked_22 : decode cX10_setsAsked 22 = .ok (.iload_n 2, 1) := da9_dX10_setsAsked_0.2.2.2.2.2.2.2.2.2.2.2.2.2.2.1
theorem dX10_setsAsked_23 : decode cX10_setsAsked 23 = .ok (.iastore, 1) := da9_dX10_setsAsked_0.2.2.2.2.2.2.2.2.2.2.2.2.2.2.2
theorem da9_dX10_setsAsked_24 : (decode cX10_setsAsked 24 = .ok (.aload_n 0, 1)) ∧ (decode cX10_setsAsked 25 = .ok (.getfield 63, 3)) ∧ (decode cX10_setsAsked 28 = .ok (.bipush 6, 2)) ∧ (decode cX10_setsAsked 30 = .ok (.aload_n 0, 1)) ∧ (decode cX10_setsAsked 31 = .ok (.getfield 28, 3)) ∧ (decode cX10_setsAsked 34 = .ok (.bipush 27, 2)) ∧ (decode cX10_setsAsked 36 = .ok (.iaload, 1)) ∧ (decode cX10_setsAsked 37 = .ok (.iastore, 1)) ∧ (decode cX10_setsAsked 38 = .ok (.aload_n 0, 1)) ∧ (decode cX10_setsAsked 39 = .ok (.getfield 63, 3)) ∧ (decode cX10_setsAsked 42 = .ok (.bipush 7, 2)) ∧ (decode cX10_setsAsked 44 = .ok (.iload_n 3, 1)) ∧ (decode cX10_setsAsked 45 = .ok (.iastore, 1)) ∧ (decode cX10_setsAsked 46 = .ok (.aload_n 0, 1)) ∧ (decode cX10_setsAsked 47 = .ok (.getfield 63, 3)) ∧ (decode cX10_setsAsked 50 = .ok (.bipush 8, 2)) := by decide +kernel
theorem dX10_setsAsked_24 : decode cX10_setsAsked 24 = .ok (.aload_n 0, 1) := da9_dX10_setsAsked_24.1
theorem dX10_setsAsked_25 : decode cX10_setsAsked 25 = .ok (.getfield 63, 3) := da9_dX10_setsAsked_24.2.1
theorem dX10_setsAsked_28 : decode cX10_setsAsked 28 = .ok (.bipush 6, 2) := da9_dX10_setsAsked_24.2.2.1
theorem dX10_setsAsked_30 : decode cX10_setsAsked 30 = .ok (.aload_n 0, 1) := da9_dX10_setsAsked_24.2.2.2.1
theorem dX10_setsAsked_31 : decode cX10_setsAsked 31 = .ok (.getfield 28, 3) := da9_dX10_setsAsked_24.2.2.2.2.1
theorem dX10_setsAsked_34 : decode cX10_setsAsked 34 = .ok (.bipush 27, 2) := da9_dX10_setsAsked_24.2.2.2.2.2.1
theorem dX10_setsAsked_36 : decode cX10_setsAsked 36 = .ok (.iaload, 1) := da9_dX10_setsAsked_24.2.2.2.2.2.2.1
theorem dX10_setsAsked_37 : decode cX10_setsAsked 37 = .ok (.iastore, 1) := da9_dX10_setsAsked_24.2.2.2.2.2.2.2.1
theorem dX10_setsAsked_38 : decode cX10_setsAsked 38 = .ok (.aload_n 0, 1) := da9_dX10_setsAsked_24.2.2.2.2.2.2.2.2.1
theorem dX10_setsAsked_39 : decode cX10_setsAsked 39 = .ok (.getfield 63, 3) := da9_dX10_setsAsked_24.2.2.2.2.2.2.2.2.2.1
theorem dX10_setsAsked_42 : decode cX10_setsAsked 42 = .ok (.bipush 7, 2) := da9_dX10_setsAsked_24.2.2.2.2.2.2.2.2.2.2.1
theorem dX10_setsAsked_44 : decode cX10_setsAsked 44 = .ok (.iload_n 3, 1) := da9_dX10_setsAsked_24.2.2.2.2.2.2.2.2.2.2.2.1
theorem dX10_setsAsked_45 : decode cX10_setsAsked 45 = .ok (.iastore, 1) := da9_dX10_setsAsked_24.2.2.2.2.2.2.2.2.2.2.2.2.1
theorem dX10_setsAsked_46 : decode cX10_setsAsked 46 = .ok (.aload_n 0, 1) := da9_dX10_setsAsked_24.2.2.2.2.2.2.2.2.2.2.2.2.2.1
theorem dX10_setsAsked_47 : decode cX10_setsAsked 47 = .ok (.getfield 63, 3) := da9_dX10_setsAsked_24.2.2.2.2.2.2.2.2.2.2.2.2.2.2.1
theorem dX10_setsAsked_50 : decode cX10_setsAsked 50 = .ok (.bipush 8, 2) := da9_dX10_setsAsked_24.2.2.2.2.2.2.2.2.2.2.2.2.2.2.2
theorem da9_dX10_setsAsked_52 : (decode cX10_setsAsked 52 = .ok (.aload_n 0, 1)) ∧ (decode cX10_setsAsked 53 = .ok (.getfield 28, 3)) ∧ (decode cX10_setsAsked 56 = .ok (.bipush 13, 2)) ∧ (decode cX10_setsAsked 58 = .ok (.iaload, 1)) ∧ (decode cX10_setsAsked 59 = .ok (.iastore, 1)) ∧ (decode cX10_setsAsked 60 = .ok (.return_, 1)) := by decide +kernel
theorem dX10_setsAsked_52 : decode cX10_setsAsked 52 = .ok (.aload_n 0, 1) := da9_dX10_setsAsked_52.1
theorem dX10_setsAsked_53 : decode cX10_setsAsked 53 = .ok (.getfield 28, 3) := da9_dX10_setsAsked_52.2.1
theorem dX10_setsAsked_56 : decode cX10_setsAsked 56 = .ok (.bipush 13, 2) := da9_dX10_setsAsked_52.2.2.1
theorem dX10_setsAsked_58 : decode cX10_setsAsked 58 = .ok (.iaload, 1) := da9_dX10_setsAsked_52.2.2.2.1
theorem dX10_setsAsked_59 : decode cX10_setsAsked 59 = .ok (.iastore, 1) := da9_dX10_setsAsked_52.2.2.2.2.1
theorem dX10_setsAsked_60 : decode cX10_setsAsked 60 = .ok (.return_, 1) := da9_dX10_setsAsked_52.2.2.2.2.2
end
section
theorem u9_wsX10_refuses_X10 : ∀ w ∈ u_ws RX10 TX10 56, w ∈ wsX10_refuses := fun w h => List.mem_cons_of_mem _ (vW10_wsX100 w h)
theorem f9_wsX10_refuses_1 : (Cond.fieldLink RX10 3 "TurnedFloorsModel" "status" "I") ∈ wsX10_refuses := List.mem_cons_of_mem _ mvW10_14
theorem f9_wsX10_refuses_2 : (Cond.fieldLink RX10 7 "TurnedFloorsModel" "refused" "[I") ∈ wsX10_refuses := List.mem_cons_of_mem _ mvW10_15
theorem u9_wsX10_good_X10 : ∀ w ∈ u_ws RX10 TX10 56, w ∈ wsX10_good := fun w h => List.mem_cons_of_mem _ (vW10_wsX100 w h)
theorem f9_wsX10_good_4 : (Cond.fieldLink RX10 3 "TurnedFloorsModel" "status" "I") ∈ wsX10_good := List.mem_cons_of_mem _ mvW10_14
theorem u9_wsX10_settled_X10 : ∀ w ∈ u_ws RX10 TX10 56, w ∈ wsX10_settled := fun w h => List.mem_cons_of_mem _ (vW10_wsX100 w h)
theorem f9_wsX10_settled_6 : (Cond.fieldLink RX10 11 "TurnedFloorsModel" "undoMany" "I") ∈ wsX10_settled := List.mem_cons_of_mem _ mvW10_33
theorem u9_wsX10_laysAside_X10 : ∀ w ∈ u_ws RX10 TX10 56, w ∈ wsX10_laysAside := fun w h => List.mem_cons_of_mem _ (vW10_wsX100 w h)
theorem f9_wsX10_laysAside_8 : (Cond.fieldLink RX10 38 "TurnedFloorsModel" "aside" "[I") ∈ wsX10_laysAside := List.mem_cons_of_mem _ mvW10_256
theorem f9_wsX10_laysAside_9 : (Cond.fieldLink RX10 28 "TurnedFloorsModel" "kept" "[I") ∈ wsX10_laysAside := List.mem_cons_of_mem _ mvW10_20
theorem u9_wsX10_takesBack_X10 : ∀ w ∈ u_ws RX10 TX10 56, w ∈ wsX10_takesBack := fun w h => List.mem_cons_of_mem _ (vW10_wsX100 w h)
theorem f9_wsX10_takesBack_11 : (Cond.fieldLink RX10 28 "TurnedFloorsModel" "kept" "[I") ∈ wsX10_takesBack := List.mem_cons_of_mem _ mvW10_20
theorem f9_wsX10_takesBack_12 : (Cond.fieldLink RX10 38 "TurnedFloorsModel" "aside" "[I") ∈ wsX10_takesBack := List.mem_cons_of_mem _ mvW10_256
theorem u9_wsX10_image_X10 : ∀ w ∈ u_ws RX10 TX10 56, w ∈ wsX10_image := fun w h => List.mem_cons_of_mem _ (vW10_wsX100 w h)
theorem f9_wsX10_image_14 : (Cond.fieldLink RX10 34 "TurnedFloorsModel" "hasImage" "[Z") ∈ wsX10_image := List.mem_cons_of_mem _ mvW10_454
theorem f9_wsX10_image_15 : (Cond.fieldLink RX10 31 "TurnedFloorsModel" "images" "[I") ∈ wsX10_image := List.mem_cons_of_mem _ mvW10_453
theorem f9_wsX10_image_16 : (Cond.fieldLink RX10 28 "TurnedFloorsModel" "kept" "[I") ∈ wsX10_image := List.mem_cons_of_mem _ mvW10_20
theorem u9_wsX10_back_X10 : ∀ w ∈ u_ws RX10 TX10 56, w ∈ wsX10_back := fun w h => List.mem_cons_of_mem _ (vW10_wsX100 w h)
theorem f9_wsX10_back_18 : (Cond.fieldLink RX10 28 "TurnedFloorsModel" "kept" "[I") ∈ wsX10_back := List.mem_cons_of_mem _ mvW10_20
theorem f9_wsX10_back_19 : (Cond.fieldLink RX10 31 "TurnedFloorsModel" "images" "[I") ∈ wsX10_back := List.mem_cons_of_mem _ mvW10_453
theorem f9_wsX10_back_20 : (Cond.fieldLink RX10 34 "TurnedFloorsModel" "hasImage" "[Z") ∈ wsX10_back := List.mem_cons_of_mem _ mvW10_454
theorem u9_wsX10_size_X10 : ∀ w ∈ u_ws RX10 TX10 56, w ∈ wsX10_size := fun w h => List.mem_cons_of_mem _ (vW10_wsX100 w h)
theorem f9_wsX10_size_22 : (Cond.fieldLink RX10 28 "TurnedFloorsModel" "kept" "[I") ∈ wsX10_size := List.mem_cons_of_mem _ mvW10_20
theorem u9_wsX10_placeOf_X10 : ∀ w ∈ u_ws RX10 TX10 56, w ∈ wsX10_placeOf := fun w h => List.mem_cons_of_mem _ (vW10_wsX100 w h)
theorem f9_wsX10_placeOf_24 : (Cond.fieldLink RX10 28 "TurnedFloorsModel" "kept" "[I") ∈ wsX10_placeOf := List.mem_cons_of_mem _ mvW10_20
theorem u9_wsX10_adds_X10 : ∀ w ∈ u_ws RX10 TX10 56, w ∈ wsX10_adds := fun w h => List.mem_cons_of_mem _ (vW10_wsX100 w h)
theorem f9_wsX10_adds_26 : (Cond.fieldLink RX10 28 "TurnedFloorsModel" "kept" "[I") ∈ wsX10_adds := List.mem_cons_of_mem _ mvW10_20
theorem u9_wsX10_setsAsked_X10 : ∀ w ∈ u_ws RX10 TX10 56, w ∈ wsX10_setsAsked := fun w h => List.mem_cons_of_mem _ (vW10_wsX100 w h)
theorem f9_wsX10_setsAsked_28 : (Cond.fieldLink RX10 63 "TurnedFloorsModel" "asked" "[I") ∈ wsX10_setsAsked := List.mem_cons_of_mem _ mvW10_50
theorem f9_wsX10_setsAsked_29 : (Cond.fieldLink RX10 28 "TurnedFloorsModel" "kept" "[I") ∈ wsX10_setsAsked := List.mem_cons_of_mem _ mvW10_20
set_option maxHeartbeats 4000000 in
set_option maxRecDepth 100000 in
theorem WX10_lies_15 {p : Program} {l : Launch} {e : Env} {s : State} {m : MethodId} {args : Array Value} {below : List Frame} {meth : Method} {c : Code} {D : va_G} {ty : Nat → ClassId} {eo : Nat → Nat} {A : Nat → Prop} {o1 : Int32} (C : dc_C p s m args meth c cX10_lies (some .boolean) 3 RX10 wsX10_lies D ty eo A)   (y0 : Int32) (H : Heap) (locs : List Loc) (ls : Array Slot) (h : zX10_lies_15  y0 = some o1) (hP : va_P D vwCl (([] : va_W)) H) (hD : va_D A (([] : va_W))) (hS : va_S A s.heap H locs) (hl : lv_has ls 3 []) : W p l e ({ frames := 0, cells := 0, slots := 0, locals := 0 } : Room) s m args below meth c H locs 0 0 (MQ below (va_Qi (fun (r : Int32) (u : va_W) => o1 = r ∧ ([] : va_W) = u) (kz_B D ty A) A) args s 0 0 A) (F0 m 15 ls [.int y0]) := by
  have C0 := C
  obtain ⟨hx, hb, hr, hts, hown, hlocks, hml, hK, hN, hE, hA⟩ := C
  unfold zX10_lies_15 at h
  obtain ⟨g1, h⟩ := dG_some h
  cases h
  exact kz_zret hx hb hr hlocks (dbl_nar g1) hP hK hD hS dX10_lies_15 ⟨rfl, rfl⟩
set_option maxHeartbeats 4000000 in
set_option maxRecDepth 100000 in
theorem WX10_lies_14 {p : Program} {l : Launch} {e : Env} {s : State} {m : MethodId} {args : Array Value} {below : List Frame} {meth : Method} {c : Code} {D : va_G} {ty : Nat → ClassId} {eo : Nat → Nat} {A : Nat → Prop} {o1 : Int32} (C : dc_C p s m args meth c cX10_lies (some .boolean) 3 RX10 wsX10_lies D ty eo A)    (H : Heap) (locs : List Loc) (ls : Array Slot) (h : zX10_lies_14   = some o1) (hP : va_P D vwCl (([] : va_W)) H) (hD : va_D A (([] : va_W))) (hS : va_S A s.heap H locs) (hl : lv_has ls 3 []) : W p l e ({ frames := 0, cells := 0, slots := 0, locals := 0 } : Room) s m args below meth c H locs 0 0 (MQ below (va_Qi (fun (r : Int32) (u : va_W) => o1 = r ∧ ([] : va_W) = u) (kz_B D ty A) A) args s 0 0 A) (F0 m 14 ls []) := by
  have C0 := C
  obtain ⟨hx, hb, hr, hts, hown, hlocks, hml, hK, hN, hE, hA⟩ := C
  unfold zX10_lies_14 at h
  refine lv_iconst (v := 0) hx hb dX10_lies_14 (by decide) ?_
  exact WX10_lies_15 C0  _ _ _ _ h hP hD hS (lv_sub hl [] rfl)
set_option maxHeartbeats 4000000 in
set_option maxRecDepth 100000 in
theorem qX10_lies (l : Launch) (D : va_G) (ty : Nat → ClassId) (eo : Nat → Nat) (sz : Nat) (p1 : Int32) (p2 : Int32) (p3 : Int32) (o1 : Int32) (h : zX10_lies p1 p2 p3 = some o1) : Met l yX10_lies wsX10_lies ({ frames := 0, cells := 0, slots := 0, locals := 0 } : Room) (va_Pc [.int p1, .int p2, .int p3] (kz_pre D ty eo (([] : va_W)) sz)) (va_Qi (fun (r : Int32) (u : va_W) => o1 = r ∧ ([] : va_W) = u) (kz_B D ty (va_A (([] : va_W)) sz)) (va_A (([] : va_W)) sz)) 0 0 (va_A (([] : va_W)) sz) := by
  refine Met.ofW (cc := cX10_lies) (maxL := 3) (ret := (some .boolean)) (by decide) rfl ?_
  intro p e s m args below meth c s₁ B hml hv
  obtain ⟨rfl, hsz, hP, hK, hD0, hN, hE⟩ := hv
  have hx := B.exec
  have hb := B.bytes
  have hr := B.returns
  have hts := atoms_spec (ws := wsX10_lies) B.pre
  have hown : s.vm.findClass RX10 = some m.cls := findClass_of_methodNamed B.named
  have hlocks := B.notSynchronized
  subst hsz
  have hD := hD0.self (sz := s.heap.size)
  generalize hAe : va_A (([] : va_W)) s.heap.size = A at hD hE ⊢
  have hA : ∀ q : Nat, s.heap.size ≤ q → A q := fun q h => by rw [← hAe]; exact Or.inr h
  clear hAe
  have hS : va_S A s.heap s.heap [] := va_S.rf
  have hl := lv_entry ([.int p1, .int p2, .int p3]) (n := 3) (Nat.le_of_ble_eq_true rfl)
  rw [lg_entry_eq]
  generalize (lg_sl ([.int p1, .int p2, .int p3]) ++ List.replicate (3 - (lg_sl ([.int p1, .int p2, .int p3])).length) Slot.unset).toArray = ls at hl ⊢
  have hl : lv_has ls 3 [(0, .int p1), (1, .int p2), (2, .int p3)] := hl
  have C : dc_C p s m _ meth c cX10_lies (some .boolean) 3 RX10 wsX10_lies D ty eo A := ⟨hx, hb, hr, hts, hown, hlocks, hml, hK, hN, hE, hA⟩
  unfold zX10_lies at h
  refine lv_iload_n hx hb dX10_lies_0 rfl (lv_at hl 0 rfl) ?_
  refine lv_iload_n hx hb dX10_lies_1 rfl (lv_at hl 1 rfl) ?_
  refine lv_icmp_lt (tgt := 14) hx hb dX10_lies_2 (by decide) (fun c9 => ?_) (fun c9 => ?_)
  · rw [if_pos c9] at h
    exact WX10_lies_14 C  _ _ _ h hP hD hS (lv_sub hl [] rfl)
  · rw [if_neg c9] at h
    refine lv_iload_n hx hb dX10_lies_5 rfl (lv_at hl 0 rfl) ?_
    refine lv_iload_n hx hb dX10_lies_6 rfl (lv_at hl 2 rfl) ?_
    refine lv_icmp_gt (tgt := 14) hx hb dX10_lies_7 (by decide) (fun c9 => ?_) (fun c9 => ?_)
    · rw [if_pos c9] at h
      exact WX10_lies_14 C  _ _ _ h hP hD hS (lv_sub hl [] rfl)
    · rw [if_neg c9] at h
      refine lv_iconst (v := 1) hx hb dX10_lies_10 (by decide) ?_
      refine lv_goto (tgt := 15) hx hb dX10_lies_11 (by decide) ?_
      exact WX10_lies_15 C  _ _ _ _ h hP hD hS (lv_sub hl [] rfl)

set_option maxHeartbeats 4000000 in
set_option maxRecDepth 100000 in
theorem WX10_lesser_10 {p : Program} {l : Launch} {e : Env} {s : State} {m : MethodId} {args : Array Value} {below : List Frame} {meth : Method} {c : Code} {D : va_G} {ty : Nat → ClassId} {eo : Nat → Nat} {A : Nat → Prop} {o1 : Int32} (C : dc_C p s m args meth c cX10_lesser (some .int) 2 RX10 wsX10_lesser D ty eo A)   (y0 : Int32) (H : Heap) (locs : List Loc) (ls : Array Slot) (h : zX10_lesser_10  y0 = some o1) (hP : va_P D vwCl (([] : va_W)) H) (hD : va_D A (([] : va_W))) (hS : va_S A s.heap H locs) (hl : lv_has ls 2 []) : W p l e ({ frames := 0, cells := 0, slots := 0, locals := 0 } : Room) s m args below meth c H locs 0 0 (MQ below (va_Qi (fun (r : Int32) (u : va_W) => o1 = r ∧ ([] : va_W) = u) (kz_B D ty A) A) args s 0 0 A) (F0 m 10 ls [.int y0]) := by
  have C0 := C
  obtain ⟨hx, hb, hr, hts, hown, hlocks, hml, hK, hN, hE, hA⟩ := C
  unfold zX10_lesser_10 at h
  cases h
  exact kz_iret hx hb hr hlocks hP hK hD hS dX10_lesser_10 ⟨rfl, rfl⟩
set_option maxHeartbeats 4000000 in
set_option maxRecDepth 100000 in
theorem qX10_lesser (l : Launch) (D : va_G) (ty : Nat → ClassId) (eo : Nat → Nat) (sz : Nat) (p1 : Int32) (p2 : Int32) (o1 : Int32) (h : zX10_lesser p1 p2 = some o1) : Met l yX10_lesser wsX10_lesser ({ frames := 0, cells := 0, slots := 0, locals := 0 } : Room) (va_Pc [.int p1, .int p2] (kz_pre D ty eo (([] : va_W)) sz)) (va_Qi (fun (r : Int32) (u : va_W) => o1 = r ∧ ([] : va_W) = u) (kz_B D ty (va_A (([] : va_W)) sz)) (va_A (([] : va_W)) sz)) 0 0 (va_A (([] : va_W)) sz) := by
  refine Met.ofW (cc := cX10_lesser) (maxL := 2) (ret := (some .int)) (by decide) rfl ?_
  intro p e s m args below meth c s₁ B hml hv
  obtain ⟨rfl, hsz, hP, hK, hD0, hN, hE⟩ := hv
  have hx := B.exec
  have hb := B.bytes
  have hr := B.returns
  have hts := atoms_spec (ws := wsX10_lesser) B.pre
  have hown : s.vm.findClass RX10 = some m.cls := findClass_of_methodNamed B.named
  have hlocks := B.notSynchronized
  subst hsz
  have hD := hD0.self (sz := s.heap.size)
  generalize hAe : va_A (([] : va_W)) s.heap.size = A at hD hE ⊢
  have hA : ∀ q : Nat, s.heap.size ≤ q → A q := fun q h => by rw [← hAe]; exact Or.inr h
  clear hAe
  have hS : va_S A s.heap s.heap [] := va_S.rf
  have hl := lv_entry ([.int p1, .int p2]) (n := 2) (Nat.le_of_ble_eq_true rfl)
  rw [lg_entry_eq]
  generalize (lg_sl ([.int p1, .int p2]) ++ List.replicate (2 - (lg_sl ([.int p1, .int p2])).length) Slot.unset).toArray = ls at hl ⊢
  have hl : lv_has ls 2 [(0, .int p1), (1, .int p2)] := hl
  have C : dc_C p s m _ meth c cX10_lesser (some .int) 2 RX10 wsX10_lesser D ty eo A := ⟨hx, hb, hr, hts, hown, hlocks, hml, hK, hN, hE, hA⟩
  unfold zX10_lesser at h
  refine lv_iload_n hx hb dX10_lesser_0 rfl (lv_at hl 0 rfl) ?_
  refine lv_iload_n hx hb dX10_lesser_1 rfl (lv_at hl 1 rfl) ?_
  refine lv_icmp_ge (tgt := 9) hx hb dX10_lesser_2 (by decide) (fun c9 => ?_) (fun c9 => ?_)
  · rw [if_pos c9] at h
    refine lv_iload_n hx hb dX10_lesser_9 rfl (lv_at hl 1 rfl) ?_
    exact WX10_lesser_10 C  _ _ _ _ h hP hD hS (lv_sub hl [] rfl)
  · rw [if_neg c9] at h
    refine lv_iload_n hx hb dX10_lesser_5 rfl (lv_at hl 0 rfl) ?_
    refine lv_goto (tgt := 10) hx hb dX10_lesser_6 (by decide) ?_
    exact WX10_lesser_10 C  _ _ _ _ h hP hD hS (lv_sub hl [] rfl)

set_option maxHeartbeats 4000000 in
set_option maxRecDepth 100000 in
theorem WX10_greater_10 {p : Program} {l : Launch} {e : Env} {s : State} {m : MethodId} {args : Array Value} {below : List Frame} {meth : Method} {c : Code} {D : va_G} {ty : Nat → ClassId} {eo : Nat → Nat} {A : Nat → Prop} {o1 : Int32} (C : dc_C p s m args meth c cX10_greater (some .int) 2 RX10 wsX10_greater D ty eo A)   (y0 : Int32) (H : Heap) (locs : List Loc) (ls : Array Slot) (h : zX10_greater_10  y0 = some o1) (hP : va_P D vwCl (([] : va_W)) H) (hD : va_D A (([] : va_W))) (hS : va_S A s.heap H locs) (hl : lv_has ls 2 []) : W p l e ({ frames := 0, cells := 0, slots := 0, locals := 0 } : Room) s m args below meth c H locs 0 0 (MQ below (va_Qi (fun (r : Int32) (u : va_W) => o1 = r ∧ ([] : va_W) = u) (kz_B D ty A) A) args s 0 0 A) (F0 m 10 ls [.int y0]) := by
  have C0 := C
  obtain ⟨hx, hb, hr, hts, hown, hlocks, hml, hK, hN, hE, hA⟩ := C
  unfold zX10_greater_10 at h
  cases h
  exact kz_iret hx hb hr hlocks hP hK hD hS dX10_greater_10 ⟨rfl, rfl⟩
set_option maxHeartbeats 4000000 in
set_option maxRecDepth 100000 in
theorem qX10_greater (l : Launch) (D : va_G) (ty : Nat → ClassId) (eo : Nat → Nat) (sz : Nat) (p1 : Int32) (p2 : Int32) (o1 : Int32) (h : zX10_greater p1 p2 = some o1) : Met l yX10_greater wsX10_greater ({ frames := 0, cells := 0, slots := 0, locals := 0 } : Room) (va_Pc [.int p1, .int p2] (kz_pre D ty eo (([] : va_W)) sz)) (va_Qi (fun (r : Int32) (u : va_W) => o1 = r ∧ ([] : va_W) = u) (kz_B D ty (va_A (([] : va_W)) sz)) (va_A (([] : va_W)) sz)) 0 0 (va_A (([] : va_W)) sz) := by
  refine Met.ofW (cc := cX10_greater) (maxL := 2) (ret := (some .int)) (by decide) rfl ?_
  intro p e s m args below meth c s₁ B hml hv
  obtain ⟨rfl, hsz, hP, hK, hD0, hN, hE⟩ := hv
  have hx := B.exec
  have hb := B.bytes
  have hr := B.returns
  have hts := atoms_spec (ws := wsX10_greater) B.pre
  have hown : s.vm.findClass RX10 = some m.cls := findClass_of_methodNamed B.named
  have hlocks := B.notSynchronized
  subst hsz
  have hD := hD0.self (sz := s.heap.size)
  generalize hAe : va_A (([] : va_W)) s.heap.size = A at hD hE ⊢
  have hA : ∀ q : Nat, s.heap.size ≤ q → A q := fun q h => by rw [← hAe]; exact Or.inr h
  clear hAe
  have hS : va_S A s.heap s.heap [] := va_S.rf
  have hl := lv_entry ([.int p1, .int p2]) (n := 2) (Nat.le_of_ble_eq_true rfl)
  rw [lg_entry_eq]
  generalize (lg_sl ([.int p1, .int p2]) ++ List.replicate (2 - (lg_sl ([.int p1, .int p2])).length) Slot.unset).toArray = ls at hl ⊢
  have hl : lv_has ls 2 [(0, .int p1), (1, .int p2)] := hl
  have C : dc_C p s m _ meth c cX10_greater (some .int) 2 RX10 wsX10_greater D ty eo A := ⟨hx, hb, hr, hts, hown, hlocks, hml, hK, hN, hE, hA⟩
  unfold zX10_greater at h
  refine lv_iload_n hx hb dX10_greater_0 rfl (lv_at hl 0 rfl) ?_
  refine lv_iload_n hx hb dX10_greater_1 rfl (lv_at hl 1 rfl) ?_
  refine lv_icmp_le (tgt := 9) hx hb dX10_greater_2 (by decide) (fun c9 => ?_) (fun c9 => ?_)
  · rw [if_pos c9] at h
    refine lv_iload_n hx hb dX10_greater_9 rfl (lv_at hl 1 rfl) ?_
    exact WX10_greater_10 C  _ _ _ _ h hP hD hS (lv_sub hl [] rfl)
  · rw [if_neg c9] at h
    refine lv_iload_n hx hb dX10_greater_5 rfl (lv_at hl 0 rfl) ?_
    refine lv_goto (tgt := 10) hx hb dX10_greater_6 (by decide) ?_
    exact WX10_greater_10 C  _ _ _ _ h hP hD hS (lv_sub hl [] rfl)

set_option maxHeartbeats 4000000 in
set_option maxRecDepth 100000 in
theorem qX10_refuses (l : Launch) (D : va_G) (ty : Nat → ClassId) (eo : Nat → Nat) (sz : Nat) (ad : Nat → Nat) (q : dS) (p1 : Int32) (o1 : Int32) (o2 : dS) (h : zX10_refuses q p1 = some (o1, o2)) : Met l yX10_refuses wsX10_refuses ({ frames := 0, cells := 0, slots := 0, locals := 0 } : Room) (va_Pc [.ref (ad 0), .int p1] (kz_pre D ty eo (w10 ty ad q) sz)) (va_Qi (fun (r : Int32) (u : va_W) => o1 = r ∧ w10 ty ad o2 = u) (kz_B D ty (va_A (w10 ty ad q) sz)) (va_A (w10 ty ad q) sz)) 0 0 (va_A (w10 ty ad q) sz) := by
  refine Met.ofW (cc := cX10_refuses) (maxL := 2) (ret := (some .int)) (by decide) rfl ?_
  intro p e s m args below meth c s₁ B hml hv
  obtain ⟨rfl, hsz, hP, hK, hD0, hN, hE⟩ := hv
  have hx := B.exec
  have hb := B.bytes
  have hr := B.returns
  have hts := atoms_spec (ws := wsX10_refuses) B.pre
  have hown : s.vm.findClass RX10 = some m.cls := findClass_of_methodNamed B.named
  have hlocks := B.notSynchronized
  subst hsz
  have hD := hD0.self (sz := s.heap.size)
  generalize hAe : va_A (w10 ty ad q) s.heap.size = A at hD hE ⊢
  have hA : ∀ q : Nat, s.heap.size ≤ q → A q := fun q h => by rw [← hAe]; exact Or.inr h
  clear hAe
  have hS : va_S A s.heap s.heap [] := va_S.rf
  have hl := lv_entry ([.ref (ad 0), .int p1]) (n := 2) (Nat.le_of_ble_eq_true rfl)
  rw [lg_entry_eq]
  generalize (lg_sl ([.ref (ad 0), .int p1]) ++ List.replicate (2 - (lg_sl ([.ref (ad 0), .int p1])).length) Slot.unset).toArray = ls at hl ⊢
  have hl : lv_has ls 2 [(0, .ref (ad 0)), (1, .int p1)] := hl
  have C : dc_C p s m _ meth c cX10_refuses (some .int) 2 RX10 wsX10_refuses D ty eo A := ⟨hx, hb, hr, hts, hown, hlocks, hml, hK, hN, hE, hA⟩
  unfold zX10_refuses at h
  refine lv_aload_n hx hb dX10_refuses_0 rfl (lv_at hl 0 rfl) ?_
  refine lv_iload_n hx hb dX10_refuses_1 rfl (lv_at hl 1 rfl) ?_
  refine va_put (D := D) (ci := 10) (v := .int p1) (ty := .int) (C := RX10) (T := TX10) (N := 56) hx hb hts u9_wsX10_refuses_X10 tyX10 tyX10_ok nmX10 hown hK hP hD hS 0 rfl rfl 0 (by decide) (hts (.fieldLink RX10 3 "TurnedFloorsModel" "status" "I") f9_wsX10_refuses_1) (fun _ h9 => h9) rfl (by decide +kernel) rfl rfl (Nat.le_of_ble_eq_true rfl) dX10_refuses_2 (fun H locs hp hd hs => ?_)
  obtain ⟨q1, eq1, h⟩ := dL_some h
  refine kz_re (w2 := w10 ty ad q1) hp hd hs (by rw [← eq1]; exact w10_f0 ty ad q p1) ?_
  clear hp hd hs hP hD hS
  intro hP hD hS
  refine lv_aload_n hx hb dX10_refuses_5 rfl (lv_at hl 0 rfl) ?_
  refine va_get (D := D) (ci := 10) (v := .ref (ad 1)) (C := RX10) (T := TX10) (N := 56) hx hb hts u9_wsX10_refuses_X10 hown hK hP 0 rfl rfl 1 (by decide) (hts (.fieldLink RX10 7 "TurnedFloorsModel" "refused" "[I") f9_wsX10_refuses_2) (fun _ h9 => h9) rfl dX10_refuses_6 ?_
  refine lv_iload_n hx hb dX10_refuses_9 rfl (lv_at hl 1 rfl) ?_
  refine lv_ineg hx hb dX10_refuses_10 ?_
  refine lv_dup2_11 hx hb dX10_refuses_11 rfl rfl ?_
  obtain ⟨g2, h⟩ := dG_some h
  refine va_iald hx hb hK hP 1 0 rfl rfl (dg_in g2) dX10_refuses_12 ?_
  obtain ⟨v3, ev3, h⟩ := dL_some h
  refine kz_topi v3 ev3 ?_
  refine lv_iconst (v := 1) hx hb dX10_refuses_13 (by decide) ?_
  refine lv_iadd hx hb dX10_refuses_14 ?_
  obtain ⟨g4, h⟩ := dG_some h
  refine va_iast hx hb hK hP hD hS 1 0 rfl rfl (dg_in g4) dX10_refuses_15 (fun H locs hp hd hs => ?_)
  obtain ⟨q5, eq5, h⟩ := dL_some h
  refine kz_re (w2 := w10 ty ad q5) hp hd hs (by rw [← eq5]; exact w10_a1 ty ad q1 (Int32.toNatClampNeg (-p1)) (v3 + 1 : Int32)) ?_
  clear hp hd hs hP hD hS
  intro hP hD hS
  refine lv_iload_n hx hb dX10_refuses_16 rfl (lv_at hl 1 rfl) ?_
  cases h
  exact kz_iret hx hb hr hlocks hP hK hD hS dX10_refuses_17 ⟨rfl, rfl⟩

set_option maxHeartbeats 4000000 in
set_option maxRecDepth 100000 in
theorem qX10_good (l : Launch) (D : va_G) (ty : Nat → ClassId) (eo : Nat → Nat) (sz : Nat) (ad : Nat → Nat) (q : dS) (p1 : Int32) (o1 : Int32) (o2 : dS) (h : zX10_good q p1 = some (o1, o2)) : Met l yX10_good wsX10_good ({ frames := 0, cells := 0, slots := 0, locals := 0 } : Room) (va_Pc [.ref (ad 0), .int p1] (kz_pre D ty eo (w10 ty ad q) sz)) (va_Qi (fun (r : Int32) (u : va_W) => o1 = r ∧ w10 ty ad o2 = u) (kz_B D ty (va_A (w10 ty ad q) sz)) (va_A (w10 ty ad q) sz)) 0 0 (va_A (w10 ty ad q) sz) := by
  refine Met.ofW (cc := cX10_good) (maxL := 2) (ret := (some .int)) (by decide) rfl ?_
  intro p e s m args below meth c s₁ B hml hv
  obtain ⟨rfl, hsz, hP, hK, hD0, hN, hE⟩ := hv
  have hx := B.exec
  have hb := B.bytes
  have hr := B.returns
  have hts := atoms_spec (ws := wsX10_good) B.pre
  have hown : s.vm.findClass RX10 = some m.cls := findClass_of_methodNamed B.named
  have hlocks := B.notSynchronized
  subst hsz
  have hD := hD0.self (sz := s.heap.size)
  generalize hAe : va_A (w10 ty ad q) s.heap.size = A at hD hE ⊢
  have hA : ∀ q : Nat, s.heap.size ≤ q → A q := fun q h => by rw [← hAe]; exact Or.inr h
  clear hAe
  have hS : va_S A s.heap s.heap [] := va_S.rf
  have hl := lv_entry ([.ref (ad 0), .int p1]) (n := 2) (Nat.le_of_ble_eq_true rfl)
  rw [lg_entry_eq]
  generalize (lg_sl ([.ref (ad 0), .int p1]) ++ List.replicate (2 - (lg_sl ([.ref (ad 0), .int p1])).length) Slot.unset).toArray = ls at hl ⊢
  have hl : lv_has ls 2 [(0, .ref (ad 0)), (1, .int p1)] := hl
  have C : dc_C p s m _ meth c cX10_good (some .int) 2 RX10 wsX10_good D ty eo A := ⟨hx, hb, hr, hts, hown, hlocks, hml, hK, hN, hE, hA⟩
  unfold zX10_good at h
  refine lv_aload_n hx hb dX10_good_0 rfl (lv_at hl 0 rfl) ?_
  refine lv_iconst (v := 0) hx hb dX10_good_1 (by decide) ?_
  refine va_put (D := D) (ci := 10) (v := .int 0) (ty := .int) (C := RX10) (T := TX10) (N := 56) hx hb hts u9_wsX10_good_X10 tyX10 tyX10_ok nmX10 hown hK hP hD hS 0 rfl rfl 0 (by decide) (hts (.fieldLink RX10 3 "TurnedFloorsModel" "status" "I") f9_wsX10_good_4) (fun _ h9 => h9) rfl (by decide +kernel) rfl rfl (Nat.le_of_ble_eq_true rfl) dX10_good_2 (fun H locs hp hd hs => ?_)
  obtain ⟨q1, eq1, h⟩ := dL_some h
  refine kz_re (w2 := w10 ty ad q1) hp hd hs (by rw [← eq1]; exact w10_f0 ty ad q 0) ?_
  clear hp hd hs hP hD hS
  intro hP hD hS
  refine lv_iload_n hx hb dX10_good_5 rfl (lv_at hl 1 rfl) ?_
  cases h
  exact kz_iret hx hb hr hlocks hP hK hD hS dX10_good_6 ⟨rfl, rfl⟩

set_option maxHeartbeats 4000000 in
set_option maxRecDepth 100000 in
theorem qX10_settled (l : Launch) (D : va_G) (ty : Nat → ClassId) (eo : Nat → Nat) (sz : Nat) (ad : Nat → Nat) (q : dS) (p1 : Int32) (o1 : Int32) (o2 : dS) (h : zX10_settled q p1 = some (o1, o2)) : Met l yX10_settled wsX10_settled ({ frames := 1, cells := 0, slots := 0, locals := 21 } : Room) (va_Pc [.ref (ad 0), .int p1] (kz_pre D ty eo (w10 ty ad q) sz)) (va_Qi (fun (r : Int32) (u : va_W) => o1 = r ∧ w10 ty ad o2 = u) (kz_B D ty (va_A (w10 ty ad q) sz)) (va_A (w10 ty ad q) sz)) 0 0 (va_A (w10 ty ad q) sz) := by
  refine Met.ofW (cc := cX10_settled) (maxL := 2) (ret := (some .int)) (by decide) rfl ?_
  intro p e s m args below meth c s₁ B hml hv
  obtain ⟨rfl, hsz, hP, hK, hD0, hN, hE⟩ := hv
  have hx := B.exec
  have hb := B.bytes
  have hr := B.returns
  have hts := atoms_spec (ws := wsX10_settled) B.pre
  have hown : s.vm.findClass RX10 = some m.cls := findClass_of_methodNamed B.named
  have hlocks := B.notSynchronized
  subst hsz
  have hD := hD0.self (sz := s.heap.size)
  generalize hAe : va_A (w10 ty ad q) s.heap.size = A at hD hE ⊢
  have hA : ∀ q : Nat, s.heap.size ≤ q → A q := fun q h => by rw [← hAe]; exact Or.inr h
  clear hAe
  have hS : va_S A s.heap s.heap [] := va_S.rf
  have hl := lv_entry ([.ref (ad 0), .int p1]) (n := 2) (Nat.le_of_ble_eq_true rfl)
  rw [lg_entry_eq]
  generalize (lg_sl ([.ref (ad 0), .int p1]) ++ List.replicate (2 - (lg_sl ([.ref (ad 0), .int p1])).length) Slot.unset).toArray = ls at hl ⊢
  have hl : lv_has ls 2 [(0, .ref (ad 0)), (1, .int p1)] := hl
  have C : dc_C p s m _ meth c cX10_settled (some .int) 2 RX10 wsX10_settled D ty eo A := ⟨hx, hb, hr, hts, hown, hlocks, hml, hK, hN, hE, hA⟩
  unfold zX10_settled at h
  refine lv_aload_n hx hb dX10_settled_0 rfl (lv_at hl 0 rfl) ?_
  refine lv_iconst (v := 0) hx hb dX10_settled_1 (by decide) ?_
  refine va_put (D := D) (ci := 10) (v := .int 0) (ty := .int) (C := RX10) (T := TX10) (N := 56) hx hb hts u9_wsX10_settled_X10 tyX10 tyX10_ok nmX10 hown hK hP hD hS 0 rfl rfl 32 (by decide) (hts (.fieldLink RX10 11 "TurnedFloorsModel" "undoMany" "I") f9_wsX10_settled_6) (fun _ h9 => h9) rfl (by decide +kernel) rfl rfl (Nat.le_of_ble_eq_true rfl) dX10_settled_2 (fun H locs hp hd hs => ?_)
  obtain ⟨q1, eq1, h⟩ := dL_some h
  refine kz_re (w2 := w10 ty ad q1) hp hd hs (by rw [← eq1]; exact w10_f32 ty ad q 0) ?_
  clear hp hd hs hP hD hS
  intro hP hD hS
  refine lv_aload_n hx hb dX10_settled_5 rfl (lv_at hl 0 rfl) ?_
  refine lv_iload_n hx hb dX10_settled_6 rfl (lv_at hl 1 rfl) ?_
  obtain ⟨r2, q4, h3, h⟩ := dB_some h
  refine dw_ki (va_runV (As := [.int p1]) (rest := []) ⟨hx, hb, hml, hown, hts⟩ (qX10_good l D ty eo _ ad q1 p1 r2 q4 h3) (cwV 1 hts gX10_settled_X10_good rfl rfl rfl hd_X10_good_v ⟨Nat.le_of_ble_eq_true rfl, Nat.le_of_ble_eq_true rfl⟩) (pv10_10_0 hK hN hE hP hD hS hA) rfl rfl hl.1 rfl (lv_room (Nat.le_of_ble_eq_true rfl)) dX10_settled_7 ⟨Nat.le_of_ble_eq_true rfl, Nat.le_of_ble_eq_true rfl⟩) hD hS hA (fun r9 u9 H locs hw hp hd hs => ?_)
  clear hP hD hS
  obtain ⟨rfl, rfl⟩ := hw
  have hP := hp; have hD := hd; have hS := hs; clear hp hd hs
  cases h
  exact kz_iret hx hb hr hlocks hP hK hD hS dX10_settled_10 ⟨rfl, rfl⟩

set_option maxHeartbeats 4000000 in
set_option maxRecDepth 100000 in
theorem WX10_isIn_14 {p : Program} {l : Launch} {e : Env} {s : State} {m : MethodId} {args : Array Value} {below : List Frame} {meth : Method} {c : Code} {D : va_G} {ty : Nat → ClassId} {eo : Nat → Nat} {A : Nat → Prop} {o1 : Int32} (C : dc_C p s m args meth c cX10_isIn (some .boolean) 2 RX10 wsX10_isIn D ty eo A)   (y0 : Int32) (H : Heap) (locs : List Loc) (ls : Array Slot) (h : zX10_isIn_14  y0 = some o1) (hP : va_P D vwCl (([] : va_W)) H) (hD : va_D A (([] : va_W))) (hS : va_S A s.heap H locs) (hl : lv_has ls 2 []) : W p l e ({ frames := 0, cells := 0, slots := 0, locals := 0 } : Room) s m args below meth c H locs 0 0 (MQ below (va_Qi (fun (r : Int32) (u : va_W) => o1 = r ∧ ([] : va_W) = u) (kz_B D ty A) A) args s 0 0 A) (F0 m 14 ls [.int y0]) := by
  have C0 := C
  obtain ⟨hx, hb, hr, hts, hown, hlocks, hml, hK, hN, hE, hA⟩ := C
  unfold zX10_isIn_14 at h
  obtain ⟨g1, h⟩ := dG_some h
  cases h
  exact kz_zret hx hb hr hlocks (dbl_nar g1) hP hK hD hS dX10_isIn_14 ⟨rfl, rfl⟩
set_option maxHeartbeats 4000000 in
set_option maxRecDepth 100000 in
theorem qX10_isIn (l : Launch) (D : va_G) (ty : Nat → ClassId) (eo : Nat → Nat) (sz : Nat) (p1 : Int32) (p2 : Int32) (o1 : Int32) (h : zX10_isIn p1 p2 = some o1) : Met l yX10_isIn wsX10_isIn ({ frames := 0, cells := 0, slots := 0, locals := 0 } : Room) (va_Pc [.int p1, .int p2] (kz_pre D ty eo (([] : va_W)) sz)) (va_Qi (fun (r : Int32) (u : va_W) => o1 = r ∧ ([] : va_W) = u) (kz_B D ty (va_A (([] : va_W)) sz)) (va_A (([] : va_W)) sz)) 0 0 (va_A (([] : va_W)) sz) := by
  refine Met.ofW (cc := cX10_isIn) (maxL := 2) (ret := (some .boolean)) (by decide) rfl ?_
  intro p e s m args below meth c s₁ B hml hv
  obtain ⟨rfl, hsz, hP, hK, hD0, hN, hE⟩ := hv
  have hx := B.exec
  have hb := B.bytes
  have hr := B.returns
  have hts := atoms_spec (ws := wsX10_isIn) B.pre
  have hown : s.vm.findClass RX10 = some m.cls := findClass_of_methodNamed B.named
  have hlocks := B.notSynchronized
  subst hsz
  have hD := hD0.self (sz := s.heap.size)
  generalize hAe : va_A (([] : va_W)) s.heap.size = A at hD hE ⊢
  have hA : ∀ q : Nat, s.heap.size ≤ q → A q := fun q h => by rw [← hAe]; exact Or.inr h
  clear hAe
  have hS : va_S A s.heap s.heap [] := va_S.rf
  have hl := lv_entry ([.int p1, .int p2]) (n := 2) (Nat.le_of_ble_eq_true rfl)
  rw [lg_entry_eq]
  generalize (lg_sl ([.int p1, .int p2]) ++ List.replicate (2 - (lg_sl ([.int p1, .int p2])).length) Slot.unset).toArray = ls at hl ⊢
  have hl : lv_has ls 2 [(0, .int p1), (1, .int p2)] := hl
  have C : dc_C p s m _ meth c cX10_isIn (some .boolean) 2 RX10 wsX10_isIn D ty eo A := ⟨hx, hb, hr, hts, hown, hlocks, hml, hK, hN, hE, hA⟩
  unfold zX10_isIn at h
  refine lv_iload_n hx hb dX10_isIn_0 rfl (lv_at hl 0 rfl) ?_
  refine lv_iload_n hx hb dX10_isIn_1 rfl (lv_at hl 1 rfl) ?_
  refine lv_ishr hx hb dX10_isIn_2 ?_
  refine lv_iconst (v := 1) hx hb dX10_isIn_3 (by decide) ?_
  refine lv_iand hx hb dX10_isIn_4 ?_
  refine lv_iconst (v := 1) hx hb dX10_isIn_5 (by decide) ?_
  refine lv_icmp_ne (tgt := 13) hx hb dX10_isIn_6 (by decide) (fun c9 => ?_) (fun c9 => ?_)
  · rw [if_neg c9] at h
    refine lv_iconst (v := 0) hx hb dX10_isIn_13 (by decide) ?_
    exact WX10_isIn_14 C  _ _ _ _ h hP hD hS (lv_sub hl [] rfl)
  · rw [if_pos c9] at h
    refine lv_iconst (v := 1) hx hb dX10_isIn_9 (by decide) ?_
    refine lv_goto (tgt := 14) hx hb dX10_isIn_10 (by decide) ?_
    exact WX10_isIn_14 C  _ _ _ _ h hP hD hS (lv_sub hl [] rfl)

set_option maxHeartbeats 4000000 in
set_option maxRecDepth 100000 in
theorem WX10_ones_4b {p : Program} {l : Launch} {e : Env} {s : State} {m : MethodId} {args : Array Value} {below : List Frame} {meth : Method} {c : Code} {D : va_G} {ty : Nat → ClassId} {eo : Nat → Nat} {A : Nat → Prop} {o1 : Int32} (C : dc_C p s m args meth c cX10_ones (some .int) 3 RX10 wsX10_ones D ty eo A) {k4 : Int32 → Int32 → Int32 → Option (Int32)} (hk4 : ∀ (x0 : Int32) (x1 : Int32) (x2 : Int32) (H : Heap) (locs : List Loc) (ls : Array Slot), k4 x0 x1 x2 = some o1 → va_P D vwCl (([] : va_W)) H → va_D A (([] : va_W)) → va_S A s.heap H locs → lv_has ls 3 [(0, .int x0), (1, .int x1), (2, .int x2)] → W p l e ({ frames := 0, cells := 0, slots := 0, locals := 0 } : Room) s m args below meth c H locs 0 0 (MQ below (va_Qi (fun (r : Int32) (u : va_W) => o1 = r ∧ ([] : va_W) = u) (kz_B D ty A) A) args s 0 0 A) (F0 m 4 ls [])) (x0 : Int32) (x1 : Int32) (x2 : Int32) (H : Heap) (locs : List Loc) (ls : Array Slot) (h : zX10_ones_4b k4 x0 x1 x2 = some o1) (hP : va_P D vwCl (([] : va_W)) H) (hD : va_D A (([] : va_W))) (hS : va_S A s.heap H locs) (hl : lv_has ls 3 [(0, .int x0), (1, .int x1), (2, .int x2)]) : W p l e ({ frames := 0, cells := 0, slots := 0, locals := 0 } : Room) s m args below meth c H locs 0 0 (MQ below (va_Qi (fun (r : Int32) (u : va_W) => o1 = r ∧ ([] : va_W) = u) (kz_B D ty A) A) args s 0 0 A) (F0 m 4 ls []) := by
  have C0 := C
  obtain ⟨hx, hb, hr, hts, hown, hlocks, hml, hK, hN, hE, hA⟩ := C
  unfold zX10_ones_4b at h
  refine lv_iload_n hx hb dX10_ones_4 rfl (lv_at hl 2 rfl) ?_
  refine lv_bipush (v := 7) hx hb dX10_ones_5 (by decide) ?_
  refine lv_icmp_ge (tgt := 24) hx hb dX10_ones_7 (by decide) (fun c9 => ?_) (fun c9 => ?_)
  · rw [if_pos c9] at h
    refine lv_iload_n hx hb dX10_ones_24 rfl (lv_at hl 1 rfl) ?_
    cases h
    exact kz_iret hx hb hr hlocks hP hK hD hS dX10_ones_25 ⟨rfl, rfl⟩
  · rw [if_neg c9] at h
    refine lv_iload_n hx hb dX10_ones_10 rfl (lv_at hl 1 rfl) ?_
    refine lv_iload_n hx hb dX10_ones_11 rfl (lv_at hl 0 rfl) ?_
    refine lv_iload_n hx hb dX10_ones_12 rfl (lv_at hl 2 rfl) ?_
    refine lv_ishr hx hb dX10_ones_13 ?_
    refine lv_iconst (v := 1) hx hb dX10_ones_14 (by decide) ?_
    refine lv_iand hx hb dX10_ones_15 ?_
    refine lv_iadd hx hb dX10_ones_16 ?_
    refine lv_istore_n (lv' := [(1, .int (x1 + ((x0 >>> ((x2 : Int32) &&& 31)) &&& 1 : Int32))), (0, .int x0), (2, .int x2)]) hx hb dX10_ones_17 rfl hl (by decide) rfl (fun ls hl => ?_)
    refine lv_iinc (v := x2 + 1) (lv' := [(2, .int (x2 + 1)), (1, .int (x1 + ((x0 >>> ((x2 : Int32) &&& 31)) &&& 1 : Int32))), (0, .int x0)]) hx hb dX10_ones_18 hl (k := 2) rfl rfl (by decide) rfl (fun ls hl => ?_)
    refine lv_goto (tgt := 4) hx hb dX10_ones_21 (by decide) ?_
    exact hk4 _ _ _ _ _ _ h hP hD hS (lv_sub hl [2, 1, 0] rfl)
set_option maxHeartbeats 4000000 in
set_option maxRecDepth 100000 in
theorem WX10_ones_4 {p : Program} {l : Launch} {e : Env} {s : State} {m : MethodId} {args : Array Value} {below : List Frame} {meth : Method} {c : Code} {D : va_G} {ty : Nat → ClassId} {eo : Nat → Nat} {A : Nat → Prop} {o1 : Int32} (C : dc_C p s m args meth c cX10_ones (some .int) 3 RX10 wsX10_ones D ty eo A)   (n : Nat) (x0 : Int32) (x1 : Int32) (x2 : Int32) (H : Heap) (locs : List Loc) (ls : Array Slot) (h : zX10_ones_4  n x0 x1 x2 = some o1) (hP : va_P D vwCl (([] : va_W)) H) (hD : va_D A (([] : va_W))) (hS : va_S A s.heap H locs) (hl : lv_has ls 3 [(0, .int x0), (1, .int x1), (2, .int x2)]) : W p l e ({ frames := 0, cells := 0, slots := 0, locals := 0 } : Room) s m args below meth c H locs 0 0 (MQ below (va_Qi (fun (r : Int32) (u : va_W) => o1 = r ∧ ([] : va_W) = u) (kz_B D ty A) A) args s 0 0 A) (F0 m 4 ls []) := by
  exact dFix_W (F := fun k (a : Int32 × Int32 × Int32) => zX10_ones_4b  (fun x0 x1 x2 => k (x0, x1, x2)) a.1 a.2.1 a.2.2) (o := o1) (P := fun (a : Int32 × Int32 × Int32) H locs ls => va_P D vwCl (([] : va_W)) H ∧ va_D A (([] : va_W)) ∧ va_S A s.heap H locs ∧ lv_has ls 3 [(0, .int a.1), (1, .int a.2.1), (2, .int a.2.2)]) (G := fun H locs ls => W p l e ({ frames := 0, cells := 0, slots := 0, locals := 0 } : Room) s m args below meth c H locs 0 0 (MQ below (va_Qi (fun (r : Int32) (u : va_W) => o1 = r ∧ ([] : va_W) = u) (kz_B D ty A) A) args s 0 0 A) (F0 m 4 ls []))
    (fun k hk a H locs ls h hp => WX10_ones_4b C  (fun x0 x1 x2 H locs ls h h1 h2 h3 h4 => hk (x0, x1, x2) H locs ls h ⟨h1, h2, h3, h4⟩) a.1 a.2.1 a.2.2 H locs ls h hp.1 hp.2.1 hp.2.2.1 hp.2.2.2) n (x0, x1, x2) H locs ls h ⟨hP, hD, hS, hl⟩
set_option maxHeartbeats 4000000 in
set_option maxRecDepth 100000 in
theorem qX10_ones (l : Launch) (D : va_G) (ty : Nat → ClassId) (eo : Nat → Nat) (sz : Nat) (p1 : Int32) (o1 : Int32) (h : zX10_ones p1 = some o1) : Met l yX10_ones wsX10_ones ({ frames := 0, cells := 0, slots := 0, locals := 0 } : Room) (va_Pc [.int p1] (kz_pre D ty eo (([] : va_W)) sz)) (va_Qi (fun (r : Int32) (u : va_W) => o1 = r ∧ ([] : va_W) = u) (kz_B D ty (va_A (([] : va_W)) sz)) (va_A (([] : va_W)) sz)) 0 0 (va_A (([] : va_W)) sz) := by
  refine Met.ofW (cc := cX10_ones) (maxL := 3) (ret := (some .int)) (by decide) rfl ?_
  intro p e s m args below meth c s₁ B hml hv
  obtain ⟨rfl, hsz, hP, hK, hD0, hN, hE⟩ := hv
  have hx := B.exec
  have hb := B.bytes
  have hr := B.returns
  have hts := atoms_spec (ws := wsX10_ones) B.pre
  have hown : s.vm.findClass RX10 = some m.cls := findClass_of_methodNamed B.named
  have hlocks := B.notSynchronized
  subst hsz
  have hD := hD0.self (sz := s.heap.size)
  generalize hAe : va_A (([] : va_W)) s.heap.size = A at hD hE ⊢
  have hA : ∀ q : Nat, s.heap.size ≤ q → A q := fun q h => by rw [← hAe]; exact Or.inr h
  clear hAe
  have hS : va_S A s.heap s.heap [] := va_S.rf
  have hl := lv_entry ([.int p1]) (n := 3) (Nat.le_of_ble_eq_true rfl)
  rw [lg_entry_eq]
  generalize (lg_sl ([.int p1]) ++ List.replicate (3 - (lg_sl ([.int p1])).length) Slot.unset).toArray = ls at hl ⊢
  have hl : lv_has ls 3 [(0, .int p1)] := hl
  have C : dc_C p s m _ meth c cX10_ones (some .int) 3 RX10 wsX10_ones D ty eo A := ⟨hx, hb, hr, hts, hown, hlocks, hml, hK, hN, hE, hA⟩
  unfold zX10_ones at h
  refine lv_iconst (v := 0) hx hb dX10_ones_0 (by decide) ?_
  refine lv_istore_n (lv' := [(1, .int 0), (0, .int p1)]) hx hb dX10_ones_1 rfl hl (by decide) rfl (fun ls hl => ?_)
  refine lv_iconst (v := 0) hx hb dX10_ones_2 (by decide) ?_
  refine lv_istore_n (lv' := [(2, .int 0), (1, .int 0), (0, .int p1)]) hx hb dX10_ones_3 rfl hl (by decide) rfl (fun ls hl => ?_)
  exact WX10_ones_4 C  _ _ _ _ _ _ _ h hP hD hS (lv_sub hl [2, 1, 0] rfl)

set_option maxHeartbeats 4000000 in
set_option maxRecDepth 100000 in
theorem qX10_isBit (l : Launch) (D : va_G) (ty : Nat → ClassId) (eo : Nat → Nat) (sz : Nat) (p1 : Int32) (o1 : Int32) (h : zX10_isBit p1 = some o1) : Met l yX10_isBit wsX10_isBit ({ frames := 1, cells := 0, slots := 0, locals := 22 } : Room) (va_Pc [.int p1] (kz_pre D ty eo (([] : va_W)) sz)) (va_Qi (fun (r : Int32) (u : va_W) => o1 = r ∧ ([] : va_W) = u) (kz_B D ty (va_A (([] : va_W)) sz)) (va_A (([] : va_W)) sz)) 0 0 (va_A (([] : va_W)) sz) := by
  refine Met.ofW (cc := cX10_isBit) (maxL := 1) (ret := (some .boolean)) (by decide) rfl ?_
  intro p e s m args below meth c s₁ B hml hv
  obtain ⟨rfl, hsz, hP, hK, hD0, hN, hE⟩ := hv
  have hx := B.exec
  have hb := B.bytes
  have hr := B.returns
  have hts := atoms_spec (ws := wsX10_isBit) B.pre
  have hown : s.vm.findClass RX10 = some m.cls := findClass_of_methodNamed B.named
  have hlocks := B.notSynchronized
  subst hsz
  have hD := hD0.self (sz := s.heap.size)
  generalize hAe : va_A (([] : va_W)) s.heap.size = A at hD hE ⊢
  have hA : ∀ q : Nat, s.heap.size ≤ q → A q := fun q h => by rw [← hAe]; exact Or.inr h
  clear hAe
  have hS : va_S A s.heap s.heap [] := va_S.rf
  have hl := lv_entry ([.int p1]) (n := 1) (Nat.le_of_ble_eq_true rfl)
  rw [lg_entry_eq]
  generalize (lg_sl ([.int p1]) ++ List.replicate (1 - (lg_sl ([.int p1])).length) Slot.unset).toArray = ls at hl ⊢
  have hl : lv_has ls 1 [(0, .int p1)] := hl
  have C : dc_C p s m _ meth c cX10_isBit (some .boolean) 1 RX10 wsX10_isBit D ty eo A := ⟨hx, hb, hr, hts, hown, hlocks, hml, hK, hN, hE, hA⟩
  unfold zX10_isBit at h
  refine lv_iload_n hx hb dX10_isBit_0 rfl (lv_at hl 0 rfl) ?_
  refine lv_iconst (v := 0) hx hb dX10_isBit_1 (by decide) ?_
  refine lv_iconst (v := 1) hx hb dX10_isBit_2 (by decide) ?_
  obtain ⟨r1, h2, h⟩ := dV_some h
  refine dw_ks (va_runS (As := [.int p1, .int 0, .int 1]) (rest := []) ⟨hx, hb, hml, hown, hts⟩ (qX10_lies l D ty eo _ p1 0 1 _ h2) (va_cwS 3 hts gX10_isBit_X10_lies rfl rfl rfl hd_X10_lies ⟨Nat.le_of_ble_eq_true rfl, Nat.le_of_ble_eq_true rfl⟩) (pvS_0 hK hN hE hP hD hS hA) rfl rfl hl.1 rfl (lv_room (Nat.le_of_ble_eq_true rfl)) dX10_isBit_3 ⟨Nat.le_of_ble_eq_true rfl, Nat.le_of_ble_eq_true rfl⟩) hP hD hS hA (fun _ _ h9 => h9.2.symm) (fun r9 u9 H locs hw hp hd hs => ?_)
  obtain ⟨rfl, -⟩ := hw
  clear hP hD hS
  have hP := hp; have hD := hd; have hS := hs; clear hp hd hs
  obtain ⟨g3, h⟩ := dG_some h
  cases h
  exact kz_zret hx hb hr hlocks (dbl_nar g3) hP hK hD hS dX10_isBit_6 ⟨rfl, rfl⟩

set_option maxHeartbeats 4000000 in
set_option maxRecDepth 100000 in
theorem qX10_isRank (l : Launch) (D : va_G) (ty : Nat → ClassId) (eo : Nat → Nat) (sz : Nat) (p1 : Int32) (o1 : Int32) (h : zX10_isRank p1 = some o1) : Met l yX10_isRank wsX10_isRank ({ frames := 1, cells := 0, slots := 0, locals := 22 } : Room) (va_Pc [.int p1] (kz_pre D ty eo (([] : va_W)) sz)) (va_Qi (fun (r : Int32) (u : va_W) => o1 = r ∧ ([] : va_W) = u) (kz_B D ty (va_A (([] : va_W)) sz)) (va_A (([] : va_W)) sz)) 0 0 (va_A (([] : va_W)) sz) := by
  refine Met.ofW (cc := cX10_isRank) (maxL := 1) (ret := (some .boolean)) (by decide) rfl ?_
  intro p e s m args below meth c s₁ B hml hv
  obtain ⟨rfl, hsz, hP, hK, hD0, hN, hE⟩ := hv
  have hx := B.exec
  have hb := B.bytes
  have hr := B.returns
  have hts := atoms_spec (ws := wsX10_isRank) B.pre
  have hown : s.vm.findClass RX10 = some m.cls := findClass_of_methodNamed B.named
  have hlocks := B.notSynchronized
  subst hsz
  have hD := hD0.self (sz := s.heap.size)
  generalize hAe : va_A (([] : va_W)) s.heap.size = A at hD hE ⊢
  have hA : ∀ q : Nat, s.heap.size ≤ q → A q := fun q h => by rw [← hAe]; exact Or.inr h
  clear hAe
  have hS : va_S A s.heap s.heap [] := va_S.rf
  have hl := lv_entry ([.int p1]) (n := 1) (Nat.le_of_ble_eq_true rfl)
  rw [lg_entry_eq]
  generalize (lg_sl ([.int p1]) ++ List.replicate (1 - (lg_sl ([.int p1])).length) Slot.unset).toArray = ls at hl ⊢
  have hl : lv_has ls 1 [(0, .int p1)] := hl
  have C : dc_C p s m _ meth c cX10_isRank (some .boolean) 1 RX10 wsX10_isRank D ty eo A := ⟨hx, hb, hr, hts, hown, hlocks, hml, hK, hN, hE, hA⟩
  unfold zX10_isRank at h
  refine lv_iload_n hx hb dX10_isRank_0 rfl (lv_at hl 0 rfl) ?_
  refine lv_iconst (v := 0) hx hb dX10_isRank_1 (by decide) ?_
  refine lv_iconst (v := 5) hx hb dX10_isRank_2 (by decide) ?_
  obtain ⟨r1, h2, h⟩ := dV_some h
  refine dw_ks (va_runS (As := [.int p1, .int 0, .int 5]) (rest := []) ⟨hx, hb, hml, hown, hts⟩ (qX10_lies l D ty eo _ p1 0 5 _ h2) (va_cwS 3 hts gX10_isRank_X10_lies rfl rfl rfl hd_X10_lies ⟨Nat.le_of_ble_eq_true rfl, Nat.le_of_ble_eq_true rfl⟩) (pvS_0 hK hN hE hP hD hS hA) rfl rfl hl.1 rfl (lv_room (Nat.le_of_ble_eq_true rfl)) dX10_isRank_3 ⟨Nat.le_of_ble_eq_true rfl, Nat.le_of_ble_eq_true rfl⟩) hP hD hS hA (fun _ _ h9 => h9.2.symm) (fun r9 u9 H locs hw hp hd hs => ?_)
  obtain ⟨rfl, -⟩ := hw
  clear hP hD hS
  have hP := hp; have hD := hd; have hS := hs; clear hp hd hs
  obtain ⟨g3, h⟩ := dG_some h
  cases h
  exact kz_zret hx hb hr hlocks (dbl_nar g3) hP hK hD hS dX10_isRank_6 ⟨rfl, rfl⟩

set_option maxHeartbeats 4000000 in
set_option maxRecDepth 100000 in
theorem WX10_laysAside_2b {p : Program} {l : Launch} {e : Env} {s : State} {m : MethodId} {args : Array Value} {below : List Frame} {meth : Method} {c : Code} {D : va_G} {ty : Nat → ClassId} {eo : Nat → Nat} {A : Nat → Prop} {ad : Nat → Nat} {o2 : dS} (C : dc_C p s m args meth c cX10_laysAside none 3 RX10 wsX10_laysAside D ty eo A) {k2 : dS → Int32 → Int32 → Option (dS)} (hk2 : ∀ (q : dS) (x1 : Int32) (x2 : Int32) (H : Heap) (locs : List Loc) (ls : Array Slot), k2 q x1 x2 = some o2 → va_P D vwCl (w10 ty ad q) H → va_D A (w10 ty ad q) → va_S A s.heap H locs → lv_has ls 3 [(0, .ref (ad 0)), (1, .int x1), (2, .int x2)] → W p l e ({ frames := 0, cells := 0, slots := 0, locals := 0 } : Room) s m args below meth c H locs 0 0 (MQ below (va_Qv (fun (u : va_W) => w10 ty ad o2 = u) (kz_B D ty A) A) args s 0 0 A) (F0 m 2 ls [])) (q : dS) (x1 : Int32) (x2 : Int32) (H : Heap) (locs : List Loc) (ls : Array Slot) (h : zX10_laysAside_2b k2 q x1 x2 = some o2) (hP : va_P D vwCl (w10 ty ad q) H) (hD : va_D A (w10 ty ad q)) (hS : va_S A s.heap H locs) (hl : lv_has ls 3 [(0, .ref (ad 0)), (1, .int x1), (2, .int x2)]) : W p l e ({ frames := 0, cells := 0, slots := 0, locals := 0 } : Room) s m args below meth c H locs 0 0 (MQ below (va_Qv (fun (u : va_W) => w10 ty ad o2 = u) (kz_B D ty A) A) args s 0 0 A) (F0 m 2 ls []) := by
  have C0 := C
  obtain ⟨hx, hb, hr, hts, hown, hlocks, hml, hK, hN, hE, hA⟩ := C
  unfold zX10_laysAside_2b at h
  refine lv_iload_n hx hb dX10_laysAside_2 rfl (lv_at hl 2 rfl) ?_
  refine lv_bipush (v := 14) hx hb dX10_laysAside_3 (by decide) ?_
  refine lv_icmp_ge (tgt := 31) hx hb dX10_laysAside_5 (by decide) (fun c9 => ?_) (fun c9 => ?_)
  · rw [if_pos c9] at h
    cases h
    exact kz_vret hx hb hr hlocks hP hK hD hS dX10_laysAside_31 rfl
  · rw [if_neg c9] at h
    refine lv_aload_n hx hb dX10_laysAside_8 rfl (lv_at hl 0 rfl) ?_
    refine va_get (D := D) (ci := 10) (v := .ref (ad 5)) (C := RX10) (T := TX10) (N := 56) hx hb hts u9_wsX10_laysAside_X10 hown hK hP 0 rfl rfl 5 (by decide) (hts (.fieldLink RX10 38 "TurnedFloorsModel" "aside" "[I") f9_wsX10_laysAside_8) (fun _ h9 => h9) rfl dX10_laysAside_9 ?_
    refine lv_bipush (v := 14) hx hb dX10_laysAside_12 (by decide) ?_
    refine lv_iload_n hx hb dX10_laysAside_14 rfl (lv_at hl 1 rfl) ?_
    refine lv_imul hx hb dX10_laysAside_15 ?_
    refine lv_iload_n hx hb dX10_laysAside_16 rfl (lv_at hl 2 rfl) ?_
    refine lv_iadd hx hb dX10_laysAside_17 ?_
    refine lv_aload_n hx hb dX10_laysAside_18 rfl (lv_at hl 0 rfl) ?_
    refine va_get (D := D) (ci := 10) (v := .ref (ad 2)) (C := RX10) (T := TX10) (N := 56) hx hb hts u9_wsX10_laysAside_X10 hown hK hP 0 rfl rfl 2 (by decide) (hts (.fieldLink RX10 28 "TurnedFloorsModel" "kept" "[I") f9_wsX10_laysAside_9) (fun _ h9 => h9) rfl dX10_laysAside_19 ?_
    refine lv_iload_n hx hb dX10_laysAside_22 rfl (lv_at hl 2 rfl) ?_
    obtain ⟨g1, h⟩ := dG_some h
    refine va_iald hx hb hK hP 2 0 rfl rfl (dg_in g1) dX10_laysAside_23 ?_
    obtain ⟨v2, ev2, h⟩ := dL_some h
    refine kz_topi v2 ev2 ?_
    obtain ⟨g3, h⟩ := dG_some h
    refine va_iast hx hb hK hP hD hS 5 0 rfl rfl (dg_in g3) dX10_laysAside_24 (fun H locs hp hd hs => ?_)
    obtain ⟨q4, eq4, h⟩ := dL_some h
    refine kz_re (w2 := w10 ty ad q4) hp hd hs (by rw [← eq4]; exact w10_a5 ty ad q (Int32.toNatClampNeg ((14 * x1 : Int32) + x2)) v2) ?_
    clear hp hd hs hP hD hS
    intro hP hD hS
    refine lv_iinc (v := x2 + 1) (lv' := [(2, .int (x2 + 1)), (0, .ref (ad 0)), (1, .int x1)]) hx hb dX10_laysAside_25 hl (k := 2) rfl rfl (by decide) rfl (fun ls hl => ?_)
    refine lv_goto (tgt := 2) hx hb dX10_laysAside_28 (by decide) ?_
    exact hk2 _ _ _ _ _ _ h hP hD hS (lv_sub hl [1, 2, 0] rfl)
set_option maxHeartbeats 4000000 in
set_option maxRecDepth 100000 in
theorem WX10_laysAside_2 {p : Program} {l : Launch} {e : Env} {s : State} {m : MethodId} {args : Array Value} {below : List Frame} {meth : Method} {c : Code} {D : va_G} {ty : Nat → ClassId} {eo : Nat → Nat} {A : Nat → Prop} {ad : Nat → Nat} {o2 : dS} (C : dc_C p s m args meth c cX10_laysAside none 3 RX10 wsX10_laysAside D ty eo A)   (n : Nat) (q : dS) (x1 : Int32) (x2 : Int32) (H : Heap) (locs : List Loc) (ls : Array Slot) (h : zX10_laysAside_2  n q x1 x2 = some o2) (hP : va_P D vwCl (w10 ty ad q) H) (hD : va_D A (w10 ty ad q)) (hS : va_S A s.heap H locs) (hl : lv_has ls 3 [(0, .ref (ad 0)), (1, .int x1), (2, .int x2)]) : W p l e ({ frames := 0, cells := 0, slots := 0, locals := 0 } : Room) s m args below meth c H locs 0 0 (MQ below (va_Qv (fun (u : va_W) => w10 ty ad o2 = u) (kz_B D ty A) A) args s 0 0 A) (F0 m 2 ls []) := by
  exact dFix_W (F := fun k (a : dS × Int32 × Int32) => zX10_laysAside_2b  (fun q x1 x2 => k (q, x1, x2)) a.1 a.2.1 a.2.2) (o := o2) (P := fun (a : dS × Int32 × Int32) H locs ls => va_P D vwCl (w10 ty ad a.1) H ∧ va_D A (w10 ty ad a.1) ∧ va_S A s.heap H locs ∧ lv_has ls 3 [(0, .ref (ad 0)), (1, .int a.2.1), (2, .int a.2.2)]) (G := fun H locs ls => W p l e ({ frames := 0, cells := 0, slots := 0, locals := 0 } : Room) s m args below meth c H locs 0 0 (MQ below (va_Qv (fun (u : va_W) => w10 ty ad o2 = u) (kz_B D ty A) A) args s 0 0 A) (F0 m 2 ls []))
    (fun k hk a H locs ls h hp => WX10_laysAside_2b C  (fun q x1 x2 H locs ls h h1 h2 h3 h4 => hk (q, x1, x2) H locs ls h ⟨h1, h2, h3, h4⟩) a.1 a.2.1 a.2.2 H locs ls h hp.1 hp.2.1 hp.2.2.1 hp.2.2.2) n (q, x1, x2) H locs ls h ⟨hP, hD, hS, hl⟩
set_option maxHeartbeats 4000000 in
set_option maxRecDepth 100000 in
theorem qX10_laysAside (l : Launch) (D : va_G) (ty : Nat → ClassId) (eo : Nat → Nat) (sz : Nat) (ad : Nat → Nat) (q : dS) (p1 : Int32) (o2 : dS) (h : zX10_laysAside q p1 = some o2) : Met l yX10_laysAside wsX10_laysAside ({ frames := 0, cells := 0, slots := 0, locals := 0 } : Room) (va_Pc [.ref (ad 0), .int p1] (kz_pre D ty eo (w10 ty ad q) sz)) (va_Qv (fun (u : va_W) => w10 ty ad o2 = u) (kz_B D ty (va_A (w10 ty ad q) sz)) (va_A (w10 ty ad q) sz)) 0 0 (va_A (w10 ty ad q) sz) := by
  refine Met.ofW (cc := cX10_laysAside) (maxL := 3) (ret := none) (by decide) rfl ?_
  intro p e s m args below meth c s₁ B hml hv
  obtain ⟨rfl, hsz, hP, hK, hD0, hN, hE⟩ := hv
  have hx := B.exec
  have hb := B.bytes
  have hr := B.returns
  have hts := atoms_spec (ws := wsX10_laysAside) B.pre
  have hown : s.vm.findClass RX10 = some m.cls := findClass_of_methodNamed B.named
  have hlocks := B.notSynchronized
  subst hsz
  have hD := hD0.self (sz := s.heap.size)
  generalize hAe : va_A (w10 ty ad q) s.heap.size = A at hD hE ⊢
  have hA : ∀ q : Nat, s.heap.size ≤ q → A q := fun q h => by rw [← hAe]; exact Or.inr h
  clear hAe
  have hS : va_S A s.heap s.heap [] := va_S.rf
  have hl := lv_entry ([.ref (ad 0), .int p1]) (n := 3) (Nat.le_of_ble_eq_true rfl)
  rw [lg_entry_eq]
  generalize (lg_sl ([.ref (ad 0), .int p1]) ++ List.replicate (3 - (lg_sl ([.ref (ad 0), .int p1])).length) Slot.unset).toArray = ls at hl ⊢
  have hl : lv_has ls 3 [(0, .ref (ad 0)), (1, .int p1)] := hl
  have C : dc_C p s m _ meth c cX10_laysAside none 3 RX10 wsX10_laysAside D ty eo A := ⟨hx, hb, hr, hts, hown, hlocks, hml, hK, hN, hE, hA⟩
  unfold zX10_laysAside at h
  refine lv_iconst (v := 0) hx hb dX10_laysAside_0 (by decide) ?_
  refine lv_istore_n (lv' := [(2, .int 0), (0, .ref (ad 0)), (1, .int p1)]) hx hb dX10_laysAside_1 rfl hl (by decide) rfl (fun ls hl => ?_)
  exact WX10_laysAside_2 C  _ _ _ _ _ _ _ h hP hD hS (lv_sub hl [1, 2, 0] rfl)

set_option maxHeartbeats 4000000 in
set_option maxRecDepth 100000 in
theorem WX10_takesBack_2b {p : Program} {l : Launch} {e : Env} {s : State} {m : MethodId} {args : Array Value} {below : List Frame} {meth : Method} {c : Code} {D : va_G} {ty : Nat → ClassId} {eo : Nat → Nat} {A : Nat → Prop} {ad : Nat → Nat} {o2 : dS} (C : dc_C p s m args meth c cX10_takesBack none 3 RX10 wsX10_takesBack D ty eo A) {k2 : dS → Int32 → Int32 → Option (dS)} (hk2 : ∀ (q : dS) (x1 : Int32) (x2 : Int32) (H : Heap) (locs : List Loc) (ls : Array Slot), k2 q x1 x2 = some o2 → va_P D vwCl (w10 ty ad q) H → va_D A (w10 ty ad q) → va_S A s.heap H locs → lv_has ls 3 [(0, .ref (ad 0)), (1, .int x1), (2, .int x2)] → W p l e ({ frames := 0, cells := 0, slots := 0, locals := 0 } : Room) s m args below meth c H locs 0 0 (MQ below (va_Qv (fun (u : va_W) => w10 ty ad o2 = u) (kz_B D ty A) A) args s 0 0 A) (F0 m 2 ls [])) (q : dS) (x1 : Int32) (x2 : Int32) (H : Heap) (locs : List Loc) (ls : Array Slot) (h : zX10_takesBack_2b k2 q x1 x2 = some o2) (hP : va_P D vwCl (w10 ty ad q) H) (hD : va_D A (w10 ty ad q)) (hS : va_S A s.heap H locs) (hl : lv_has ls 3 [(0, .ref (ad 0)), (1, .int x1), (2, .int x2)]) : W p l e ({ frames := 0, cells := 0, slots := 0, locals := 0 } : Room) s m args below meth c H locs 0 0 (MQ below (va_Qv (fun (u : va_W) => w10 ty ad o2 = u) (kz_B D ty A) A) args s 0 0 A) (F0 m 2 ls []) := by
  have C0 := C
  obtain ⟨hx, hb, hr, hts, hown, hlocks, hml, hK, hN, hE, hA⟩ := C
  unfold zX10_takesBack_2b at h
  refine lv_iload_n hx hb dX10_takesBack_2 rfl (lv_at hl 2 rfl) ?_
  refine lv_bipush (v := 14) hx hb dX10_takesBack_3 (by decide) ?_
  refine lv_icmp_ge (tgt := 31) hx hb dX10_takesBack_5 (by decide) (fun c9 => ?_) (fun c9 => ?_)
  · rw [if_pos c9] at h
    cases h
    exact kz_vret hx hb hr hlocks hP hK hD hS dX10_takesBack_31 rfl
  · rw [if_neg c9] at h
    refine lv_aload_n hx hb dX10_takesBack_8 rfl (lv_at hl 0 rfl) ?_
    refine va_get (D := D) (ci := 10) (v := .ref (ad 2)) (C := RX10) (T := TX10) (N := 56) hx hb hts u9_wsX10_takesBack_X10 hown hK hP 0 rfl rfl 2 (by decide) (hts (.fieldLink RX10 28 "TurnedFloorsModel" "kept" "[I") f9_wsX10_takesBack_11) (fun _ h9 => h9) rfl dX10_takesBack_9 ?_
    refine lv_iload_n hx hb dX10_takesBack_12 rfl (lv_at hl 2 rfl) ?_
    refine lv_aload_n hx hb dX10_takesBack_13 rfl (lv_at hl 0 rfl) ?_
    refine va_get (D := D) (ci := 10) (v := .ref (ad 5)) (C := RX10) (T := TX10) (N := 56) hx hb hts u9_wsX10_takesBack_X10 hown hK hP 0 rfl rfl 5 (by decide) (hts (.fieldLink RX10 38 "TurnedFloorsModel" "aside" "[I") f9_wsX10_takesBack_12) (fun _ h9 => h9) rfl dX10_takesBack_14 ?_
    refine lv_bipush (v := 14) hx hb dX10_takesBack_17 (by decide) ?_
    refine lv_iload_n hx hb dX10_takesBack_19 rfl (lv_at hl 1 rfl) ?_
    refine lv_imul hx hb dX10_takesBack_20 ?_
    refine lv_iload_n hx hb dX10_takesBack_21 rfl (lv_at hl 2 rfl) ?_
    refine lv_iadd hx hb dX10_takesBack_22 ?_
    obtain ⟨g1, h⟩ := dG_some h
    refine va_iald hx hb hK hP 5 0 rfl rfl (dg_in g1) dX10_takesBack_23 ?_
    obtain ⟨v2, ev2, h⟩ := dL_some h
    refine kz_topi v2 ev2 ?_
    obtain ⟨g3, h⟩ := dG_some h
    refine va_iast hx hb hK hP hD hS 2 0 rfl rfl (dg_in g3) dX10_takesBack_24 (fun H locs hp hd hs => ?_)
    obtain ⟨q4, eq4, h⟩ := dL_some h
    refine kz_re (w2 := w10 ty ad q4) hp hd hs (by rw [← eq4]; exact w10_a2 ty ad q (Int32.toNatClampNeg x2) v2) ?_
    clear hp hd hs hP hD hS
    intro hP hD hS
    refine lv_iinc (v := x2 + 1) (lv' := [(2, .int (x2 + 1)), (0, .ref (ad 0)), (1, .int x1)]) hx hb dX10_takesBack_25 hl (k := 2) rfl rfl (by decide) rfl (fun ls hl => ?_)
    refine lv_goto (tgt := 2) hx hb dX10_takesBack_28 (by decide) ?_
    exact hk2 _ _ _ _ _ _ h hP hD hS (lv_sub hl [1, 2, 0] rfl)
set_option maxHeartbeats 4000000 in
set_option maxRecDepth 100000 in
theorem WX10_takesBack_2 {p : Program} {l : Launch} {e : Env} {s : State} {m : MethodId} {args : Array Value} {below : List Frame} {meth : Method} {c : Code} {D : va_G} {ty : Nat → ClassId} {eo : Nat → Nat} {A : Nat → Prop} {ad : Nat → Nat} {o2 : dS} (C : dc_C p s m args meth c cX10_takesBack none 3 RX10 wsX10_takesBack D ty eo A)   (n : Nat) (q : dS) (x1 : Int32) (x2 : Int32) (H : Heap) (locs : List Loc) (ls : Array Slot) (h : zX10_takesBack_2  n q x1 x2 = some o2) (hP : va_P D vwCl (w10 ty ad q) H) (hD : va_D A (w10 ty ad q)) (hS : va_S A s.heap H locs) (hl : lv_has ls 3 [(0, .ref (ad 0)), (1, .int x1), (2, .int x2)]) : W p l e ({ frames := 0, cells := 0, slots := 0, locals := 0 } : Room) s m args below meth c H locs 0 0 (MQ below (va_Qv (fun (u : va_W) => w10 ty ad o2 = u) (kz_B D ty A) A) args s 0 0 A) (F0 m 2 ls []) := by
  exact dFix_W (F := fun k (a : dS × Int32 × Int32) => zX10_takesBack_2b  (fun q x1 x2 => k (q, x1, x2)) a.1 a.2.1 a.2.2) (o := o2) (P := fun (a : dS × Int32 × Int32) H locs ls => va_P D vwCl (w10 ty ad a.1) H ∧ va_D A (w10 ty ad a.1) ∧ va_S A s.heap H locs ∧ lv_has ls 3 [(0, .ref (ad 0)), (1, .int a.2.1), (2, .int a.2.2)]) (G := fun H locs ls => W p l e ({ frames := 0, cells := 0, slots := 0, locals := 0 } : Room) s m args below meth c H locs 0 0 (MQ below (va_Qv (fun (u : va_W) => w10 ty ad o2 = u) (kz_B D ty A) A) args s 0 0 A) (F0 m 2 ls []))
    (fun k hk a H locs ls h hp => WX10_takesBack_2b C  (fun q x1 x2 H locs ls h h1 h2 h3 h4 => hk (q, x1, x2) H locs ls h ⟨h1, h2, h3, h4⟩) a.1 a.2.1 a.2.2 H locs ls h hp.1 hp.2.1 hp.2.2.1 hp.2.2.2) n (q, x1, x2) H locs ls h ⟨hP, hD, hS, hl⟩
set_option maxHeartbeats 4000000 in
set_option maxRecDepth 100000 in
theorem qX10_takesBack (l : Launch) (D : va_G) (ty : Nat → ClassId) (eo : Nat → Nat) (sz : Nat) (ad : Nat → Nat) (q : dS) (p1 : Int32) (o2 : dS) (h : zX10_takesBack q p1 = some o2) : Met l yX10_takesBack wsX10_takesBack ({ frames := 0, cells := 0, slots := 0, locals := 0 } : Room) (va_Pc [.ref (ad 0), .int p1] (kz_pre D ty eo (w10 ty ad q) sz)) (va_Qv (fun (u : va_W) => w10 ty ad o2 = u) (kz_B D ty (va_A (w10 ty ad q) sz)) (va_A (w10 ty ad q) sz)) 0 0 (va_A (w10 ty ad q) sz) := by
  refine Met.ofW (cc := cX10_takesBack) (maxL := 3) (ret := none) (by decide) rfl ?_
  intro p e s m args below meth c s₁ B hml hv
  obtain ⟨rfl, hsz, hP, hK, hD0, hN, hE⟩ := hv
  have hx := B.exec
  have hb := B.bytes
  have hr := B.returns
  have hts := atoms_spec (ws := wsX10_takesBack) B.pre
  have hown : s.vm.findClass RX10 = some m.cls := findClass_of_methodNamed B.named
  have hlocks := B.notSynchronized
  subst hsz
  have hD := hD0.self (sz := s.heap.size)
  generalize hAe : va_A (w10 ty ad q) s.heap.size = A at hD hE ⊢
  have hA : ∀ q : Nat, s.heap.size ≤ q → A q := fun q h => by rw [← hAe]; exact Or.inr h
  clear hAe
  have hS : va_S A s.heap s.heap [] := va_S.rf
  have hl := lv_entry ([.ref (ad 0), .int p1]) (n := 3) (Nat.le_of_ble_eq_true rfl)
  rw [lg_entry_eq]
  generalize (lg_sl ([.ref (ad 0), .int p1]) ++ List.replicate (3 - (lg_sl ([.ref (ad 0), .int p1])).length) Slot.unset).toArray = ls at hl ⊢
  have hl : lv_has ls 3 [(0, .ref (ad 0)), (1, .int p1)] := hl
  have C : dc_C p s m _ meth c cX10_takesBack none 3 RX10 wsX10_takesBack D ty eo A := ⟨hx, hb, hr, hts, hown, hlocks, hml, hK, hN, hE, hA⟩
  unfold zX10_takesBack at h
  refine lv_iconst (v := 0) hx hb dX10_takesBack_0 (by decide) ?_
  refine lv_istore_n (lv' := [(2, .int 0), (0, .ref (ad 0)), (1, .int p1)]) hx hb dX10_takesBack_1 rfl hl (by decide) rfl (fun ls hl => ?_)
  exact WX10_takesBack_2 C  _ _ _ _ _ _ _ h hP hD hS (lv_sub hl [1, 2, 0] rfl)

set_option maxHeartbeats 4000000 in
set_option maxRecDepth 100000 in
theorem WX10_image_17b {p : Program} {l : Launch} {e : Env} {s : State} {m : MethodId} {args : Array Value} {below : List Frame} {meth : Method} {c : Code} {D : va_G} {ty : Nat → ClassId} {eo : Nat → Nat} {A : Nat → Prop} {ad : Nat → Nat} {o1 : Int32} {o2 : dS} (C : dc_C p s m args meth c cX10_image (some .int) 3 RX10 wsX10_image D ty eo A) {k17 : dS → Int32 → Int32 → Option (Int32 × dS)} (hk17 : ∀ (q : dS) (x1 : Int32) (x2 : Int32) (H : Heap) (locs : List Loc) (ls : Array Slot), k17 q x1 x2 = some (o1, o2) → va_P D vwCl (w10 ty ad q) H → va_D A (w10 ty ad q) → va_S A s.heap H locs → lv_has ls 3 [(0, .ref (ad 0)), (1, .int x1), (2, .int x2)] → W p l e ({ frames := 1, cells := 0, slots := 0, locals := 22 } : Room) s m args below meth c H locs 0 0 (MQ below (va_Qi (fun (r : Int32) (u : va_W) => o1 = r ∧ w10 ty ad o2 = u) (kz_B D ty A) A) args s 0 0 A) (F0 m 17 ls [])) (q : dS) (x1 : Int32) (x2 : Int32) (H : Heap) (locs : List Loc) (ls : Array Slot) (h : zX10_image_17b k17 q x1 x2 = some (o1, o2)) (hP : va_P D vwCl (w10 ty ad q) H) (hD : va_D A (w10 ty ad q)) (hS : va_S A s.heap H locs) (hl : lv_has ls 3 [(0, .ref (ad 0)), (1, .int x1), (2, .int x2)]) : W p l e ({ frames := 1, cells := 0, slots := 0, locals := 22 } : Room) s m args below meth c H locs 0 0 (MQ below (va_Qi (fun (r : Int32) (u : va_W) => o1 = r ∧ w10 ty ad o2 = u) (kz_B D ty A) A) args s 0 0 A) (F0 m 17 ls []) := by
  have C0 := C
  obtain ⟨hx, hb, hr, hts, hown, hlocks, hml, hK, hN, hE, hA⟩ := C
  unfold zX10_image_17b at h
  refine lv_iload_n hx hb dX10_image_17 rfl (lv_at hl 2 rfl) ?_
  refine lv_sipush (v := 5640) hx hb dX10_image_18 (by decide) ?_
  refine lv_icmp_ge (tgt := 48) hx hb dX10_image_21 (by decide) (fun c9 => ?_) (fun c9 => ?_)
  · rw [if_pos c9] at h
    refine lv_aload_n hx hb dX10_image_48 rfl (lv_at hl 0 rfl) ?_
    refine va_get (D := D) (ci := 10) (v := .ref (ad 4)) (C := RX10) (T := TX10) (N := 56) hx hb hts u9_wsX10_image_X10 hown hK hP 0 rfl rfl 4 (by decide) (hts (.fieldLink RX10 34 "TurnedFloorsModel" "hasImage" "[Z") f9_wsX10_image_14) (fun _ h9 => h9) rfl dX10_image_49 ?_
    refine lv_iload_n hx hb dX10_image_52 rfl (lv_at hl 1 rfl) ?_
    refine lv_iconst (v := 1) hx hb dX10_image_53 (by decide) ?_
    obtain ⟨g1, h⟩ := dG_some h
    refine va_zast hx hb hK hP hD hS 4 2 rfl rfl (dg_in g1) dX10_image_54 (fun H locs hp hd hs => ?_)
    obtain ⟨q2, eq2, h⟩ := dL_some h
    refine kz_re (w2 := w10 ty ad q2) hp hd hs (by rw [← eq2]; exact w10_a4 ty ad q (Int32.toNatClampNeg x1) (vp_nar .boolean 1)) ?_
    clear hp hd hs hP hD hS
    intro hP hD hS
    refine lv_aload_n hx hb dX10_image_55 rfl (lv_at hl 0 rfl) ?_
    refine lv_iconst (v := 0) hx hb dX10_image_56 (by decide) ?_
    obtain ⟨r3, q5, h4, h⟩ := dB_some h
    refine dw_ki (va_runV (As := [.int 0]) (rest := []) ⟨hx, hb, hml, hown, hts⟩ (qX10_good l D ty eo _ ad q2 0 r3 q5 h4) (cwV 1 hts gX10_image_X10_good rfl rfl rfl hd_X10_good_v ⟨Nat.le_of_ble_eq_true rfl, Nat.le_of_ble_eq_true rfl⟩) (pv10_10_0 hK hN hE hP hD hS hA) rfl rfl hl.1 rfl (lv_room (Nat.le_of_ble_eq_true rfl)) dX10_image_57 ⟨Nat.le_of_ble_eq_true rfl, Nat.le_of_ble_eq_true rfl⟩) hD hS hA (fun r9 u9 H locs hw hp hd hs => ?_)
    clear hP hD hS
    obtain ⟨rfl, rfl⟩ := hw
    have hP := hp; have hD := hd; have hS := hs; clear hp hd hs
    cases h
    exact kz_iret hx hb hr hlocks hP hK hD hS dX10_image_60 ⟨rfl, rfl⟩
  · rw [if_neg c9] at h
    refine lv_aload_n hx hb dX10_image_24 rfl (lv_at hl 0 rfl) ?_
    refine va_get (D := D) (ci := 10) (v := .ref (ad 3)) (C := RX10) (T := TX10) (N := 56) hx hb hts u9_wsX10_image_X10 hown hK hP 0 rfl rfl 3 (by decide) (hts (.fieldLink RX10 31 "TurnedFloorsModel" "images" "[I") f9_wsX10_image_15) (fun _ h9 => h9) rfl dX10_image_25 ?_
    refine lv_sipush (v := 5640) hx hb dX10_image_28 (by decide) ?_
    refine lv_iload_n hx hb dX10_image_31 rfl (lv_at hl 1 rfl) ?_
    refine lv_imul hx hb dX10_image_32 ?_
    refine lv_iload_n hx hb dX10_image_33 rfl (lv_at hl 2 rfl) ?_
    refine lv_iadd hx hb dX10_image_34 ?_
    refine lv_aload_n hx hb dX10_image_35 rfl (lv_at hl 0 rfl) ?_
    refine va_get (D := D) (ci := 10) (v := .ref (ad 2)) (C := RX10) (T := TX10) (N := 56) hx hb hts u9_wsX10_image_X10 hown hK hP 0 rfl rfl 2 (by decide) (hts (.fieldLink RX10 28 "TurnedFloorsModel" "kept" "[I") f9_wsX10_image_16) (fun _ h9 => h9) rfl dX10_image_36 ?_
    refine lv_iload_n hx hb dX10_image_39 rfl (lv_at hl 2 rfl) ?_
    obtain ⟨g6, h⟩ := dG_some h
    refine va_iald hx hb hK hP 2 0 rfl rfl (dg_in g6) dX10_image_40 ?_
    obtain ⟨v7, ev7, h⟩ := dL_some h
    refine kz_topi v7 ev7 ?_
    obtain ⟨g8, h⟩ := dG_some h
    refine va_iast hx hb hK hP hD hS 3 0 rfl rfl (dg_in g8) dX10_image_41 (fun H locs hp hd hs => ?_)
    obtain ⟨q9, eq9, h⟩ := dL_some h
    refine kz_re (w2 := w10 ty ad q9) hp hd hs (by rw [← eq9]; exact w10_a3 ty ad q (Int32.toNatClampNeg ((5640 * x1 : Int32) + x2)) v7) ?_
    clear hp hd hs hP hD hS
    intro hP hD hS
    refine lv_iinc (v := x2 + 1) (lv' := [(2, .int (x2 + 1)), (0, .ref (ad 0)), (1, .int x1)]) hx hb dX10_image_42 hl (k := 2) rfl rfl (by decide) rfl (fun ls hl => ?_)
    refine lv_goto (tgt := 17) hx hb dX10_image_45 (by decide) ?_
    exact hk17 _ _ _ _ _ _ h hP hD hS (lv_sub hl [1, 2, 0] rfl)
set_option maxHeartbeats 4000000 in
set_option maxRecDepth 100000 in
theorem WX10_image_17 {p : Program} {l : Launch} {e : Env} {s : State} {m : MethodId} {args : Array Value} {below : List Frame} {meth : Method} {c : Code} {D : va_G} {ty : Nat → ClassId} {eo : Nat → Nat} {A : Nat → Prop} {ad : Nat → Nat} {o1 : Int32} {o2 : dS} (C : dc_C p s m args meth c cX10_image (some .int) 3 RX10 wsX10_image D ty eo A)   (n : Nat) (q : dS) (x1 : Int32) (x2 : Int32) (H : Heap) (locs : List Loc) (ls : Array Slot) (h : zX10_image_17  n q x1 x2 = some (o1, o2)) (hP : va_P D vwCl (w10 ty ad q) H) (hD : va_D A (w10 ty ad q)) (hS : va_S A s.heap H locs) (hl : lv_has ls 3 [(0, .ref (ad 0)), (1, .int x1), (2, .int x2)]) : W p l e ({ frames := 1, cells := 0, slots := 0, locals := 22 } : Room) s m args below meth c H locs 0 0 (MQ below (va_Qi (fun (r : Int32) (u : va_W) => o1 = r ∧ w10 ty ad o2 = u) (kz_B D ty A) A) args s 0 0 A) (F0 m 17 ls []) := by
  exact dFix_W (F := fun k (a : dS × Int32 × Int32) => zX10_image_17b  (fun q x1 x2 => k (q, x1, x2)) a.1 a.2.1 a.2.2) (o := (o1, o2)) (P := fun (a : dS × Int32 × Int32) H locs ls => va_P D vwCl (w10 ty ad a.1) H ∧ va_D A (w10 ty ad a.1) ∧ va_S A s.heap H locs ∧ lv_has ls 3 [(0, .ref (ad 0)), (1, .int a.2.1), (2, .int a.2.2)]) (G := fun H locs ls => W p l e ({ frames := 1, cells := 0, slots := 0, locals := 22 } : Room) s m args below meth c H locs 0 0 (MQ below (va_Qi (fun (r : Int32) (u : va_W) => o1 = r ∧ w10 ty ad o2 = u) (kz_B D ty A) A) args s 0 0 A) (F0 m 17 ls []))
    (fun k hk a H locs ls h hp => WX10_image_17b C  (fun q x1 x2 H locs ls h h1 h2 h3 h4 => hk (q, x1, x2) H locs ls h ⟨h1, h2, h3, h4⟩) a.1 a.2.1 a.2.2 H locs ls h hp.1 hp.2.1 hp.2.2.1 hp.2.2.2) n (q, x1, x2) H locs ls h ⟨hP, hD, hS, hl⟩
set_option maxHeartbeats 4000000 in
set_option maxRecDepth 100000 in
theorem qX10_image (l : Launch) (D : va_G) (ty : Nat → ClassId) (eo : Nat → Nat) (sz : Nat) (ad : Nat → Nat) (q : dS) (p1 : Int32) (o1 : Int32) (o2 : dS) (h : zX10_image q p1 = some (o1, o2)) : Met l yX10_image wsX10_image ({ frames := 1, cells := 0, slots := 0, locals := 22 } : Room) (va_Pc [.ref (ad 0), .int p1] (kz_pre D ty eo (w10 ty ad q) sz)) (va_Qi (fun (r : Int32) (u : va_W) => o1 = r ∧ w10 ty ad o2 = u) (kz_B D ty (va_A (w10 ty ad q) sz)) (va_A (w10 ty ad q) sz)) 0 0 (va_A (w10 ty ad q) sz) := by
  refine Met.ofW (cc := cX10_image) (maxL := 3) (ret := (some .int)) (by decide) rfl ?_
  intro p e s m args below meth c s₁ B hml hv
  obtain ⟨rfl, hsz, hP, hK, hD0, hN, hE⟩ := hv
  have hx := B.exec
  have hb := B.bytes
  have hr := B.returns
  have hts := atoms_spec (ws := wsX10_image) B.pre
  have hown : s.vm.findClass RX10 = some m.cls := findClass_of_methodNamed B.named
  have hlocks := B.notSynchronized
  subst hsz
  have hD := hD0.self (sz := s.heap.size)
  generalize hAe : va_A (w10 ty ad q) s.heap.size = A at hD hE ⊢
  have hA : ∀ q : Nat, s.heap.size ≤ q → A q := fun q h => by rw [← hAe]; exact Or.inr h
  clear hAe
  have hS : va_S A s.heap s.heap [] := va_S.rf
  have hl := lv_entry ([.ref (ad 0), .int p1]) (n := 3) (Nat.le_of_ble_eq_true rfl)
  rw [lg_entry_eq]
  generalize (lg_sl ([.ref (ad 0), .int p1]) ++ List.replicate (3 - (lg_sl ([.ref (ad 0), .int p1])).length) Slot.unset).toArray = ls at hl ⊢
  have hl : lv_has ls 3 [(0, .ref (ad 0)), (1, .int p1)] := hl
  have C : dc_C p s m _ meth c cX10_image (some .int) 3 RX10 wsX10_image D ty eo A := ⟨hx, hb, hr, hts, hown, hlocks, hml, hK, hN, hE, hA⟩
  unfold zX10_image at h
  refine lv_iload_n hx hb dX10_image_0 rfl (lv_at hl 1 rfl) ?_
  refine lv_iconst (v := 0) hx hb dX10_image_1 (by decide) ?_
  refine lv_iconst (v := 1) hx hb dX10_image_2 (by decide) ?_
  obtain ⟨r1, h2, h⟩ := dV_some h
  refine dw_ks (va_runS (As := [.int p1, .int 0, .int 1]) (rest := []) ⟨hx, hb, hml, hown, hts⟩ (qX10_lies l D ty eo _ p1 0 1 _ h2) (va_cwS 3 hts gX10_image_X10_lies rfl rfl rfl hd_X10_lies ⟨Nat.le_of_ble_eq_true rfl, Nat.le_of_ble_eq_true rfl⟩) (pvS_0 hK hN hE hP hD hS hA) rfl rfl hl.1 rfl (lv_room (Nat.le_of_ble_eq_true rfl)) dX10_image_3 ⟨Nat.le_of_ble_eq_true rfl, Nat.le_of_ble_eq_true rfl⟩) hP hD hS hA (fun _ _ h9 => h9.2.symm) (fun r9 u9 H locs hw hp hd hs => ?_)
  obtain ⟨rfl, -⟩ := hw
  clear hP hD hS
  have hP := hp; have hD := hd; have hS := hs; clear hp hd hs
  refine lv_if_ne (tgt := 15) hx hb dX10_image_6 (by decide) (fun c9 => ?_) (fun c9 => ?_)
  · rw [if_neg c9] at h
    refine lv_iconst (v := 0) hx hb dX10_image_15 (by decide) ?_
    refine lv_istore_n (lv' := [(2, .int 0), (0, .ref (ad 0)), (1, .int p1)]) hx hb dX10_image_16 rfl hl (by decide) rfl (fun ls hl => ?_)
    exact WX10_image_17 C  _ _ _ _ _ _ _ h hP hD hS (lv_sub hl [1, 2, 0] rfl)
  · rw [if_pos c9] at h
    refine lv_aload_n hx hb dX10_image_9 rfl (lv_at hl 0 rfl) ?_
    refine lv_iconst (v := (-1)) hx hb dX10_image_10 (by decide) ?_
    obtain ⟨r3, q5, h4, h⟩ := dB_some h
    refine dw_ki (va_runV (As := [.int (-1)]) (rest := []) ⟨hx, hb, hml, hown, hts⟩ (qX10_refuses l D ty eo _ ad q (-1) r3 q5 h4) (cwV 1 hts gX10_image_X10_refuses rfl rfl rfl hd_X10_refuses_v ⟨Nat.le_of_ble_eq_true rfl, Nat.le_of_ble_eq_true rfl⟩) (pv10_10_0 hK hN hE hP hD hS hA) rfl rfl hl.1 rfl (lv_room (Nat.le_of_ble_eq_true rfl)) dX10_image_11 ⟨Nat.le_of_ble_eq_true rfl, Nat.le_of_ble_eq_true rfl⟩) hD hS hA (fun r9 u9 H locs hw hp hd hs => ?_)
    clear hP hD hS
    obtain ⟨rfl, rfl⟩ := hw
    have hP := hp; have hD := hd; have hS := hs; clear hp hd hs
    cases h
    exact kz_iret hx hb hr hlocks hP hK hD hS dX10_image_14 ⟨rfl, rfl⟩

set_option maxHeartbeats 4000000 in
set_option maxRecDepth 100000 in
theorem WX10_back_33b {p : Program} {l : Launch} {e : Env} {s : State} {m : MethodId} {args : Array Value} {below : List Frame} {meth : Method} {c : Code} {D : va_G} {ty : Nat → ClassId} {eo : Nat → Nat} {A : Nat → Prop} {ad : Nat → Nat} {o1 : Int32} {o2 : dS} (C : dc_C p s m args meth c cX10_back (some .int) 3 RX10 wsX10_back D ty eo A) {k33 : dS → Int32 → Int32 → Option (Int32 × dS)} (hk33 : ∀ (q : dS) (x1 : Int32) (x2 : Int32) (H : Heap) (locs : List Loc) (ls : Array Slot), k33 q x1 x2 = some (o1, o2) → va_P D vwCl (w10 ty ad q) H → va_D A (w10 ty ad q) → va_S A s.heap H locs → lv_has ls 3 [(0, .ref (ad 0)), (1, .int x1), (2, .int x2)] → W p l e ({ frames := 2, cells := 0, slots := 0, locals := 42 } : Room) s m args below meth c H locs 0 0 (MQ below (va_Qi (fun (r : Int32) (u : va_W) => o1 = r ∧ w10 ty ad o2 = u) (kz_B D ty A) A) args s 0 0 A) (F0 m 33 ls [])) (q : dS) (x1 : Int32) (x2 : Int32) (H : Heap) (locs : List Loc) (ls : Array Slot) (h : zX10_back_33b k33 q x1 x2 = some (o1, o2)) (hP : va_P D vwCl (w10 ty ad q) H) (hD : va_D A (w10 ty ad q)) (hS : va_S A s.heap H locs) (hl : lv_has ls 3 [(0, .ref (ad 0)), (1, .int x1), (2, .int x2)]) : W p l e ({ frames := 2, cells := 0, slots := 0, locals := 42 } : Room) s m args below meth c H locs 0 0 (MQ below (va_Qi (fun (r : Int32) (u : va_W) => o1 = r ∧ w10 ty ad o2 = u) (kz_B D ty A) A) args s 0 0 A) (F0 m 33 ls []) := by
  have C0 := C
  obtain ⟨hx, hb, hr, hts, hown, hlocks, hml, hK, hN, hE, hA⟩ := C
  unfold zX10_back_33b at h
  refine lv_iload_n hx hb dX10_back_33 rfl (lv_at hl 2 rfl) ?_
  refine lv_sipush (v := 5640) hx hb dX10_back_34 (by decide) ?_
  refine lv_icmp_ge (tgt := 64) hx hb dX10_back_37 (by decide) (fun c9 => ?_) (fun c9 => ?_)
  · rw [if_pos c9] at h
    refine lv_aload_n hx hb dX10_back_64 rfl (lv_at hl 0 rfl) ?_
    refine lv_iconst (v := 0) hx hb dX10_back_65 (by decide) ?_
    obtain ⟨r1, q3, h2, h⟩ := dB_some h
    refine dw_ki (va_runV (As := [.int 0]) (rest := []) ⟨hx, hb, hml, hown, hts⟩ (qX10_settled l D ty eo _ ad q 0 r1 q3 h2) (cwV 1 hts gX10_back_X10_settled rfl rfl rfl hd_X10_settled_v ⟨Nat.le_of_ble_eq_true rfl, Nat.le_of_ble_eq_true rfl⟩) (pv10_10_0 hK hN hE hP hD hS hA) rfl rfl hl.1 rfl (lv_room (Nat.le_of_ble_eq_true rfl)) dX10_back_66 ⟨Nat.le_of_ble_eq_true rfl, Nat.le_of_ble_eq_true rfl⟩) hD hS hA (fun r9 u9 H locs hw hp hd hs => ?_)
    clear hP hD hS
    obtain ⟨rfl, rfl⟩ := hw
    have hP := hp; have hD := hd; have hS := hs; clear hp hd hs
    cases h
    exact kz_iret hx hb hr hlocks hP hK hD hS dX10_back_69 ⟨rfl, rfl⟩
  · rw [if_neg c9] at h
    refine lv_aload_n hx hb dX10_back_40 rfl (lv_at hl 0 rfl) ?_
    refine va_get (D := D) (ci := 10) (v := .ref (ad 2)) (C := RX10) (T := TX10) (N := 56) hx hb hts u9_wsX10_back_X10 hown hK hP 0 rfl rfl 2 (by decide) (hts (.fieldLink RX10 28 "TurnedFloorsModel" "kept" "[I") f9_wsX10_back_18) (fun _ h9 => h9) rfl dX10_back_41 ?_
    refine lv_iload_n hx hb dX10_back_44 rfl (lv_at hl 2 rfl) ?_
    refine lv_aload_n hx hb dX10_back_45 rfl (lv_at hl 0 rfl) ?_
    refine va_get (D := D) (ci := 10) (v := .ref (ad 3)) (C := RX10) (T := TX10) (N := 56) hx hb hts u9_wsX10_back_X10 hown hK hP 0 rfl rfl 3 (by decide) (hts (.fieldLink RX10 31 "TurnedFloorsModel" "images" "[I") f9_wsX10_back_19) (fun _ h9 => h9) rfl dX10_back_46 ?_
    refine lv_sipush (v := 5640) hx hb dX10_back_49 (by decide) ?_
    refine lv_iload_n hx hb dX10_back_52 rfl (lv_at hl 1 rfl) ?_
    refine lv_imul hx hb dX10_back_53 ?_
    refine lv_iload_n hx hb dX10_back_54 rfl (lv_at hl 2 rfl) ?_
    refine lv_iadd hx hb dX10_back_55 ?_
    obtain ⟨g4, h⟩ := dG_some h
    refine va_iald hx hb hK hP 3 0 rfl rfl (dg_in g4) dX10_back_56 ?_
    obtain ⟨v5, ev5, h⟩ := dL_some h
    refine kz_topi v5 ev5 ?_
    obtain ⟨g6, h⟩ := dG_some h
    refine va_iast hx hb hK hP hD hS 2 0 rfl rfl (dg_in g6) dX10_back_57 (fun H locs hp hd hs => ?_)
    obtain ⟨q7, eq7, h⟩ := dL_some h
    refine kz_re (w2 := w10 ty ad q7) hp hd hs (by rw [← eq7]; exact w10_a2 ty ad q (Int32.toNatClampNeg x2) v5) ?_
    clear hp hd hs hP hD hS
    intro hP hD hS
    refine lv_iinc (v := x2 + 1) (lv' := [(2, .int (x2 + 1)), (0, .ref (ad 0)), (1, .int x1)]) hx hb dX10_back_58 hl (k := 2) rfl rfl (by decide) rfl (fun ls hl => ?_)
    refine lv_goto (tgt := 33) hx hb dX10_back_61 (by decide) ?_
    exact hk33 _ _ _ _ _ _ h hP hD hS (lv_sub hl [1, 2, 0] rfl)
set_option maxHeartbeats 4000000 in
set_option maxRecDepth 100000 in
theorem WX10_back_33 {p : Program} {l : Launch} {e : Env} {s : State} {m : MethodId} {args : Array Value} {below : List Frame} {meth : Method} {c : Code} {D : va_G} {ty : Nat → ClassId} {eo : Nat → Nat} {A : Nat → Prop} {ad : Nat → Nat} {o1 : Int32} {o2 : dS} (C : dc_C p s m args meth c cX10_back (some .int) 3 RX10 wsX10_back D ty eo A)   (n : Nat) (q : dS) (x1 : Int32) (x2 : Int32) (H : Heap) (locs : List Loc) (ls : Array Slot) (h : zX10_back_33  n q x1 x2 = some (o1, o2)) (hP : va_P D vwCl (w10 ty ad q) H) (hD : va_D A (w10 ty ad q)) (hS : va_S A s.heap H locs) (hl : lv_has ls 3 [(0, .ref (ad 0)), (1, .int x1), (2, .int x2)]) : W p l e ({ frames := 2, cells := 0, slots := 0, locals := 42 } : Room) s m args below meth c H locs 0 0 (MQ below (va_Qi (fun (r : Int32) (u : va_W) => o1 = r ∧ w10 ty ad o2 = u) (kz_B D ty A) A) args s 0 0 A) (F0 m 33 ls []) := by
  exact dFix_W (F := fun k (a : dS × Int32 × Int32) => zX10_back_33b  (fun q x1 x2 => k (q, x1, x2)) a.1 a.2.1 a.2.2) (o := (o1, o2)) (P := fun (a : dS × Int32 × Int32) H locs ls => va_P D vwCl (w10 ty ad a.1) H ∧ va_D A (w10 ty ad a.1) ∧ va_S A s.heap H locs ∧ lv_has ls 3 [(0, .ref (ad 0)), (1, .int a.2.1), (2, .int a.2.2)]) (G := fun H locs ls => W p l e ({ frames := 2, cells := 0, slots := 0, locals := 42 } : Room) s m args below meth c H locs 0 0 (MQ below (va_Qi (fun (r : Int32) (u : va_W) => o1 = r ∧ w10 ty ad o2 = u) (kz_B D ty A) A) args s 0 0 A) (F0 m 33 ls []))
    (fun k hk a H locs ls h hp => WX10_back_33b C  (fun q x1 x2 H locs ls h h1 h2 h3 h4 => hk (q, x1, x2) H locs ls h ⟨h1, h2, h3, h4⟩) a.1 a.2.1 a.2.2 H locs ls h hp.1 hp.2.1 hp.2.2.1 hp.2.2.2) n (q, x1, x2) H locs ls h ⟨hP, hD, hS, hl⟩
set_option maxHeartbeats 4000000 in
set_option maxRecDepth 100000 in
theorem qX10_back (l : Launch) (D : va_G) (ty : Nat → ClassId) (eo : Nat → Nat) (sz : Nat) (ad : Nat → Nat) (q : dS) (p1 : Int32) (o1 : Int32) (o2 : dS) (h : zX10_back q p1 = some (o1, o2)) : Met l yX10_back wsX10_back ({ frames := 2, cells := 0, slots := 0, locals := 42 } : Room) (va_Pc [.ref (ad 0), .int p1] (kz_pre D ty eo (w10 ty ad q) sz)) (va_Qi (fun (r : Int32) (u : va_W) => o1 = r ∧ w10 ty ad o2 = u) (kz_B D ty (va_A (w10 ty ad q) sz)) (va_A (w10 ty ad q) sz)) 0 0 (va_A (w10 ty ad q) sz) := by
  refine Met.ofW (cc := cX10_back) (maxL := 3) (ret := (some .int)) (by decide) rfl ?_
  intro p e s m args below meth c s₁ B hml hv
  obtain ⟨rfl, hsz, hP, hK, hD0, hN, hE⟩ := hv
  have hx := B.exec
  have hb := B.bytes
  have hr := B.returns
  have hts := atoms_spec (ws := wsX10_back) B.pre
  have hown : s.vm.findClass RX10 = some m.cls := findClass_of_methodNamed B.named
  have hlocks := B.notSynchronized
  subst hsz
  have hD := hD0.self (sz := s.heap.size)
  generalize hAe : va_A (w10 ty ad q) s.heap.size = A at hD hE ⊢
  have hA : ∀ q : Nat, s.heap.size ≤ q → A q := fun q h => by rw [← hAe]; exact Or.inr h
  clear hAe
  have hS : va_S A s.heap s.heap [] := va_S.rf
  have hl := lv_entry ([.ref (ad 0), .int p1]) (n := 3) (Nat.le_of_ble_eq_true rfl)
  rw [lg_entry_eq]
  generalize (lg_sl ([.ref (ad 0), .int p1]) ++ List.replicate (3 - (lg_sl ([.ref (ad 0), .int p1])).length) Slot.unset).toArray = ls at hl ⊢
  have hl : lv_has ls 3 [(0, .ref (ad 0)), (1, .int p1)] := hl
  have C : dc_C p s m _ meth c cX10_back (some .int) 3 RX10 wsX10_back D ty eo A := ⟨hx, hb, hr, hts, hown, hlocks, hml, hK, hN, hE, hA⟩
  unfold zX10_back at h
  refine lv_iload_n hx hb dX10_back_0 rfl (lv_at hl 1 rfl) ?_
  refine lv_iconst (v := 0) hx hb dX10_back_1 (by decide) ?_
  refine lv_iconst (v := 1) hx hb dX10_back_2 (by decide) ?_
  obtain ⟨r1, h2, h⟩ := dV_some h
  refine dw_ks (va_runS (As := [.int p1, .int 0, .int 1]) (rest := []) ⟨hx, hb, hml, hown, hts⟩ (qX10_lies l D ty eo _ p1 0 1 _ h2) (va_cwS 3 hts gX10_back_X10_lies rfl rfl rfl hd_X10_lies ⟨Nat.le_of_ble_eq_true rfl, Nat.le_of_ble_eq_true rfl⟩) (pvS_0 hK hN hE hP hD hS hA) rfl rfl hl.1 rfl (lv_room (Nat.le_of_ble_eq_true rfl)) dX10_back_3 ⟨Nat.le_of_ble_eq_true rfl, Nat.le_of_ble_eq_true rfl⟩) hP hD hS hA (fun _ _ h9 => h9.2.symm) (fun r9 u9 H locs hw hp hd hs => ?_)
  obtain ⟨rfl, -⟩ := hw
  clear hP hD hS
  have hP := hp; have hD := hd; have hS := hs; clear hp hd hs
  refine lv_if_ne (tgt := 15) hx hb dX10_back_6 (by decide) (fun c9 => ?_) (fun c9 => ?_)
  · rw [if_neg c9] at h
    refine lv_aload_n hx hb dX10_back_15 rfl (lv_at hl 0 rfl) ?_
    refine va_get (D := D) (ci := 10) (v := .ref (ad 4)) (C := RX10) (T := TX10) (N := 56) hx hb hts u9_wsX10_back_X10 hown hK hP 0 rfl rfl 4 (by decide) (hts (.fieldLink RX10 34 "TurnedFloorsModel" "hasImage" "[Z") f9_wsX10_back_20) (fun _ h9 => h9) rfl dX10_back_16 ?_
    refine lv_iload_n hx hb dX10_back_19 rfl (lv_at hl 1 rfl) ?_
    obtain ⟨g3, h⟩ := dG_some h
    refine va_zald hx hb hK hP 4 2 rfl rfl (dg_in g3) dX10_back_20 ?_
    obtain ⟨v4, ev4, h⟩ := dL_some h
    refine kz_topi v4 ev4 ?_
    refine lv_if_ne (tgt := 31) hx hb dX10_back_21 (by decide) (fun c9 => ?_) (fun c9 => ?_)
    · rw [if_neg c9] at h
      refine lv_iconst (v := 0) hx hb dX10_back_31 (by decide) ?_
      refine lv_istore_n (lv' := [(2, .int 0), (0, .ref (ad 0)), (1, .int p1)]) hx hb dX10_back_32 rfl hl (by decide) rfl (fun ls hl => ?_)
      exact WX10_back_33 C  _ _ _ _ _ _ _ h hP hD hS (lv_sub hl [1, 2, 0] rfl)
    · rw [if_pos c9] at h
      refine lv_aload_n hx hb dX10_back_24 rfl (lv_at hl 0 rfl) ?_
      refine lv_bipush (v := (-2)) hx hb dX10_back_25 (by decide) ?_
      obtain ⟨r5, q7, h6, h⟩ := dB_some h
      refine dw_ki (va_runV (As := [.int (-2)]) (rest := []) ⟨hx, hb, hml, hown, hts⟩ (qX10_refuses l D ty eo _ ad q (-2) r5 q7 h6) (cwV 1 hts gX10_back_X10_refuses rfl rfl rfl hd_X10_refuses_v ⟨Nat.le_of_ble_eq_true rfl, Nat.le_of_ble_eq_true rfl⟩) (pv10_10_0 hK hN hE hP hD hS hA) rfl rfl hl.1 rfl (lv_room (Nat.le_of_ble_eq_true rfl)) dX10_back_27 ⟨Nat.le_of_ble_eq_true rfl, Nat.le_of_ble_eq_true rfl⟩) hD hS hA (fun r9 u9 H locs hw hp hd hs => ?_)
      clear hP hD hS
      obtain ⟨rfl, rfl⟩ := hw
      have hP := hp; have hD := hd; have hS := hs; clear hp hd hs
      cases h
      exact kz_iret hx hb hr hlocks hP hK hD hS dX10_back_30 ⟨rfl, rfl⟩
  · rw [if_pos c9] at h
    refine lv_aload_n hx hb dX10_back_9 rfl (lv_at hl 0 rfl) ?_
    refine lv_iconst (v := (-1)) hx hb dX10_back_10 (by decide) ?_
    obtain ⟨r8, q10, h9, h⟩ := dB_some h
    refine dw_ki (va_runV (As := [.int (-1)]) (rest := []) ⟨hx, hb, hml, hown, hts⟩ (qX10_refuses l D ty eo _ ad q (-1) r8 q10 h9) (cwV 1 hts gX10_back_X10_refuses rfl rfl rfl hd_X10_refuses_v ⟨Nat.le_of_ble_eq_true rfl, Nat.le_of_ble_eq_true rfl⟩) (pv10_10_0 hK hN hE hP hD hS hA) rfl rfl hl.1 rfl (lv_room (Nat.le_of_ble_eq_true rfl)) dX10_back_11 ⟨Nat.le_of_ble_eq_true rfl, Nat.le_of_ble_eq_true rfl⟩) hD hS hA (fun r9 u9 H locs hw hp hd hs => ?_)
    clear hP hD hS
    obtain ⟨rfl, rfl⟩ := hw
    have hP := hp; have hD := hd; have hS := hs; clear hp hd hs
    cases h
    exact kz_iret hx hb hr hlocks hP hK hD hS dX10_back_14 ⟨rfl, rfl⟩

set_option maxHeartbeats 4000000 in
set_option maxRecDepth 100000 in
theorem qX10_size (l : Launch) (D : va_G) (ty : Nat → ClassId) (eo : Nat → Nat) (sz : Nat) (ad : Nat → Nat) (q : dS)  (o1 : Int32) (o2 : dS) (h : zX10_size q = some (o1, o2)) : Met l yX10_size wsX10_size ({ frames := 0, cells := 0, slots := 0, locals := 0 } : Room) (va_Pc [.ref (ad 0)] (kz_pre D ty eo (w10 ty ad q) sz)) (va_Qi (fun (r : Int32) (u : va_W) => o1 = r ∧ w10 ty ad o2 = u) (kz_B D ty (va_A (w10 ty ad q) sz)) (va_A (w10 ty ad q) sz)) 0 0 (va_A (w10 ty ad q) sz) := by
  refine Met.ofW (cc := cX10_size) (maxL := 1) (ret := (some .int)) (by decide) rfl ?_
  intro p e s m args below meth c s₁ B hml hv
  obtain ⟨rfl, hsz, hP, hK, hD0, hN, hE⟩ := hv
  have hx := B.exec
  have hb := B.bytes
  have hr := B.returns
  have hts := atoms_spec (ws := wsX10_size) B.pre
  have hown : s.vm.findClass RX10 = some m.cls := findClass_of_methodNamed B.named
  have hlocks := B.notSynchronized
  subst hsz
  have hD := hD0.self (sz := s.heap.size)
  generalize hAe : va_A (w10 ty ad q) s.heap.size = A at hD hE ⊢
  have hA : ∀ q : Nat, s.heap.size ≤ q → A q := fun q h => by rw [← hAe]; exact Or.inr h
  clear hAe
  have hS : va_S A s.heap s.heap [] := va_S.rf
  have hl := lv_entry ([.ref (ad 0)]) (n := 1) (Nat.le_of_ble_eq_true rfl)
  rw [lg_entry_eq]
  generalize (lg_sl ([.ref (ad 0)]) ++ List.replicate (1 - (lg_sl ([.ref (ad 0)])).length) Slot.unset).toArray = ls at hl ⊢
  have hl : lv_has ls 1 [(0, .ref (ad 0))] := hl
  have C : dc_C p s m _ meth c cX10_size (some .int) 1 RX10 wsX10_size D ty eo A := ⟨hx, hb, hr, hts, hown, hlocks, hml, hK, hN, hE, hA⟩
  unfold zX10_size at h
  refine lv_aload_n hx hb dX10_size_0 rfl (lv_at hl 0 rfl) ?_
  refine va_get (D := D) (ci := 10) (v := .ref (ad 2)) (C := RX10) (T := TX10) (N := 56) hx hb hts u9_wsX10_size_X10 hown hK hP 0 rfl rfl 2 (by decide) (hts (.fieldLink RX10 28 "TurnedFloorsModel" "kept" "[I") f9_wsX10_size_22) (fun _ h9 => h9) rfl dX10_size_1 ?_
  refine lv_bipush (v := 29) hx hb dX10_size_4 (by decide) ?_
  refine va_iald hx hb hK hP 2 0 rfl rfl (by simp only [vp_in]; decide) dX10_size_6 ?_
  refine kz_topi (q.1 2 29) (congrArg (q.1 2) (by decide +kernel : Int32.toNatClampNeg 29 = 29)) ?_
  cases h
  exact kz_iret hx hb hr hlocks hP hK hD hS dX10_size_7 ⟨rfl, rfl⟩

set_option maxHeartbeats 4000000 in
set_option maxRecDepth 100000 in
theorem qX10_isPlace (l : Launch) (D : va_G) (ty : Nat → ClassId) (eo : Nat → Nat) (sz : Nat) (ad : Nat → Nat) (q : dS) (p1 : Int32) (o1 : Int32) (o2 : dS) (h : zX10_isPlace q p1 = some (o1, o2)) : Met l yX10_isPlace wsX10_isPlace ({ frames := 1, cells := 0, slots := 0, locals := 22 } : Room) (va_Pc [.ref (ad 0), .int p1] (kz_pre D ty eo (w10 ty ad q) sz)) (va_Qi (fun (r : Int32) (u : va_W) => o1 = r ∧ w10 ty ad o2 = u) (kz_B D ty (va_A (w10 ty ad q) sz)) (va_A (w10 ty ad q) sz)) 0 0 (va_A (w10 ty ad q) sz) := by
  refine Met.ofW (cc := cX10_isPlace) (maxL := 2) (ret := (some .boolean)) (by decide) rfl ?_
  intro p e s m args below meth c s₁ B hml hv
  obtain ⟨rfl, hsz, hP, hK, hD0, hN, hE⟩ := hv
  have hx := B.exec
  have hb := B.bytes
  have hr := B.returns
  have hts := atoms_spec (ws := wsX10_isPlace) B.pre
  have hown : s.vm.findClass RX10 = some m.cls := findClass_of_methodNamed B.named
  have hlocks := B.notSynchronized
  subst hsz
  have hD := hD0.self (sz := s.heap.size)
  generalize hAe : va_A (w10 ty ad q) s.heap.size = A at hD hE ⊢
  have hA : ∀ q : Nat, s.heap.size ≤ q → A q := fun q h => by rw [← hAe]; exact Or.inr h
  clear hAe
  have hS : va_S A s.heap s.heap [] := va_S.rf
  have hl := lv_entry ([.ref (ad 0), .int p1]) (n := 2) (Nat.le_of_ble_eq_true rfl)
  rw [lg_entry_eq]
  generalize (lg_sl ([.ref (ad 0), .int p1]) ++ List.replicate (2 - (lg_sl ([.ref (ad 0), .int p1])).length) Slot.unset).toArray = ls at hl ⊢
  have hl : lv_has ls 2 [(0, .ref (ad 0)), (1, .int p1)] := hl
  have C : dc_C p s m _ meth c cX10_isPlace (some .boolean) 2 RX10 wsX10_isPlace D ty eo A := ⟨hx, hb, hr, hts, hown, hlocks, hml, hK, hN, hE, hA⟩
  unfold zX10_isPlace at h
  refine lv_iload_n hx hb dX10_isPlace_0 rfl (lv_at hl 1 rfl) ?_
  refine lv_iconst (v := 0) hx hb dX10_isPlace_1 (by decide) ?_
  refine lv_aload_n hx hb dX10_isPlace_2 rfl (lv_at hl 0 rfl) ?_
  obtain ⟨r1, q3, h2, h⟩ := dB_some h
  refine dw_ki (va_runV (As := []) (rest := [.int 0, .int p1]) ⟨hx, hb, hml, hown, hts⟩ (qX10_size l D ty eo _ ad q  r1 q3 h2) (cwV 0 hts gX10_isPlace_X10_size rfl rfl rfl hd_X10_size_v ⟨Nat.le_of_ble_eq_true rfl, Nat.le_of_ble_eq_true rfl⟩) (pv10_10_0 hK hN hE hP hD hS hA) rfl rfl hl.1 rfl (lv_room (Nat.le_of_ble_eq_true rfl)) dX10_isPlace_3 ⟨Nat.le_of_ble_eq_true rfl, Nat.le_of_ble_eq_true rfl⟩) hD hS hA (fun r9 u9 H locs hw hp hd hs => ?_)
  clear hP hD hS
  obtain ⟨rfl, rfl⟩ := hw
  have hP := hp; have hD := hd; have hS := hs; clear hp hd hs
  refine lv_iconst (v := 1) hx hb dX10_isPlace_6 (by decide) ?_
  refine lv_isub hx hb dX10_isPlace_7 ?_
  obtain ⟨r4, h5, h⟩ := dV_some h
  refine dw_ks (va_runS (As := [.int p1, .int 0, .int (r1 - 1 : Int32)]) (rest := []) ⟨hx, hb, hml, hown, hts⟩ (qX10_lies l D ty eo _ p1 0 (r1 - 1 : Int32) _ h5) (va_cwS 3 hts gX10_isPlace_X10_lies rfl rfl rfl hd_X10_lies ⟨Nat.le_of_ble_eq_true rfl, Nat.le_of_ble_eq_true rfl⟩) (pvS_0 hK hN hE hP hD hS hA) rfl rfl hl.1 rfl (lv_room (Nat.le_of_ble_eq_true rfl)) dX10_isPlace_8 ⟨Nat.le_of_ble_eq_true rfl, Nat.le_of_ble_eq_true rfl⟩) hP hD hS hA (fun _ _ h9 => h9.2.symm) (fun r9 u9 H locs hw hp hd hs => ?_)
  obtain ⟨rfl, -⟩ := hw
  clear hP hD hS
  have hP := hp; have hD := hd; have hS := hs; clear hp hd hs
  obtain ⟨g6, h⟩ := dG_some h
  cases h
  exact kz_zret hx hb hr hlocks (dbl_nar g6) hP hK hD hS dX10_isPlace_11 ⟨rfl, rfl⟩

set_option maxHeartbeats 4000000 in
set_option maxRecDepth 100000 in
theorem WX10_placeOf_29 {p : Program} {l : Launch} {e : Env} {s : State} {m : MethodId} {args : Array Value} {below : List Frame} {meth : Method} {c : Code} {D : va_G} {ty : Nat → ClassId} {eo : Nat → Nat} {A : Nat → Prop} {ad : Nat → Nat} {o1 : Int32} {o2 : dS} (C : dc_C p s m args meth c cX10_placeOf (some .int) 4 RX10 wsX10_placeOf D ty eo A) {k4 : dS → Int32 → Int32 → Int32 → Option (Int32 × dS)} (hk4 : ∀ (q : dS) (x1 : Int32) (x2 : Int32) (x3 : Int32) (H : Heap) (locs : List Loc) (ls : Array Slot), k4 q x1 x2 x3 = some (o1, o2) → va_P D vwCl (w10 ty ad q) H → va_D A (w10 ty ad q) → va_S A s.heap H locs → lv_has ls 4 [(0, .ref (ad 0)), (1, .int x1), (2, .int x2), (3, .int x3)] → W p l e ({ frames := 1, cells := 0, slots := 0, locals := 20 } : Room) s m args below meth c H locs 0 0 (MQ below (va_Qi (fun (r : Int32) (u : va_W) => o1 = r ∧ w10 ty ad o2 = u) (kz_B D ty A) A) args s 0 0 A) (F0 m 4 ls [])) (q : dS) (x1 : Int32) (x3 : Int32) (y0 : Int32) (H : Heap) (locs : List Loc) (ls : Array Slot) (h : zX10_placeOf_29 k4 q x1 x3 y0 = some (o1, o2)) (hP : va_P D vwCl (w10 ty ad q) H) (hD : va_D A (w10 ty ad q)) (hS : va_S A s.heap H locs) (hl : lv_has ls 4 [(0, .ref (ad 0)), (1, .int x1), (3, .int x3)]) : W p l e ({ frames := 1, cells := 0, slots := 0, locals := 20 } : Room) s m args below meth c H locs 0 0 (MQ below (va_Qi (fun (r : Int32) (u : va_W) => o1 = r ∧ w10 ty ad o2 = u) (kz_B D ty A) A) args s 0 0 A) (F0 m 29 ls [.int y0]) := by
  have C0 := C
  obtain ⟨hx, hb, hr, hts, hown, hlocks, hml, hK, hN, hE, hA⟩ := C
  unfold zX10_placeOf_29 at h
  refine lv_istore_n (lv' := [(2, .int y0), (0, .ref (ad 0)), (1, .int x1), (3, .int x3)]) hx hb dX10_placeOf_29 rfl hl (by decide) rfl (fun ls hl => ?_)
  refine lv_iinc (v := x3 + 1) (lv' := [(3, .int (x3 + 1)), (2, .int y0), (0, .ref (ad 0)), (1, .int x1)]) hx hb dX10_placeOf_30 hl (k := 3) rfl rfl (by decide) rfl (fun ls hl => ?_)
  refine lv_goto (tgt := 4) hx hb dX10_placeOf_33 (by decide) ?_
  exact hk4 _ _ _ _ _ _ _ h hP hD hS (lv_sub hl [2, 3, 1, 0] rfl)
set_option maxHeartbeats 4000000 in
set_option maxRecDepth 100000 in
theorem WX10_placeOf_4b {p : Program} {l : Launch} {e : Env} {s : State} {m : MethodId} {args : Array Value} {below : List Frame} {meth : Method} {c : Code} {D : va_G} {ty : Nat → ClassId} {eo : Nat → Nat} {A : Nat → Prop} {ad : Nat → Nat} {o1 : Int32} {o2 : dS} (C : dc_C p s m args meth c cX10_placeOf (some .int) 4 RX10 wsX10_placeOf D ty eo A) {k4 : dS → Int32 → Int32 → Int32 → Option (Int32 × dS)} (hk4 : ∀ (q : dS) (x1 : Int32) (x2 : Int32) (x3 : Int32) (H : Heap) (locs : List Loc) (ls : Array Slot), k4 q x1 x2 x3 = some (o1, o2) → va_P D vwCl (w10 ty ad q) H → va_D A (w10 ty ad q) → va_S A s.heap H locs → lv_has ls 4 [(0, .ref (ad 0)), (1, .int x1), (2, .int x2), (3, .int x3)] → W p l e ({ frames := 1, cells := 0, slots := 0, locals := 20 } : Room) s m args below meth c H locs 0 0 (MQ below (va_Qi (fun (r : Int32) (u : va_W) => o1 = r ∧ w10 ty ad o2 = u) (kz_B D ty A) A) args s 0 0 A) (F0 m 4 ls [])) (q : dS) (x1 : Int32) (x2 : Int32) (x3 : Int32) (H : Heap) (locs : List Loc) (ls : Array Slot) (h : zX10_placeOf_4b k4 q x1 x2 x3 = some (o1, o2)) (hP : va_P D vwCl (w10 ty ad q) H) (hD : va_D A (w10 ty ad q)) (hS : va_S A s.heap H locs) (hl : lv_has ls 4 [(0, .ref (ad 0)), (1, .int x1), (2, .int x2), (3, .int x3)]) : W p l e ({ frames := 1, cells := 0, slots := 0, locals := 20 } : Room) s m args below meth c H locs 0 0 (MQ below (va_Qi (fun (r : Int32) (u : va_W) => o1 = r ∧ w10 ty ad o2 = u) (kz_B D ty A) A) args s 0 0 A) (F0 m 4 ls []) := by
  have C0 := C
  obtain ⟨hx, hb, hr, hts, hown, hlocks, hml, hK, hN, hE, hA⟩ := C
  unfold zX10_placeOf_4b at h
  refine lv_iload_n hx hb dX10_placeOf_4 rfl (lv_at hl 3 rfl) ?_
  refine lv_aload_n hx hb dX10_placeOf_5 rfl (lv_at hl 0 rfl) ?_
  obtain ⟨r1, q3, h2, h⟩ := dB_some h
  refine dw_ki (va_runV (As := []) (rest := [.int x3]) ⟨hx, hb, hml, hown, hts⟩ (qX10_size l D ty eo _ ad q  r1 q3 h2) (cwV 0 hts gX10_placeOf_X10_size rfl rfl rfl hd_X10_size_v ⟨Nat.le_of_ble_eq_true rfl, Nat.le_of_ble_eq_true rfl⟩) (pv10_10_0 hK hN hE hP hD hS hA) rfl rfl hl.1 rfl (lv_room (Nat.le_of_ble_eq_true rfl)) dX10_placeOf_6 ⟨Nat.le_of_ble_eq_true rfl, Nat.le_of_ble_eq_true rfl⟩) hD hS hA (fun r9 u9 H locs hw hp hd hs => ?_)
  clear hP hD hS
  obtain ⟨rfl, rfl⟩ := hw
  have hP := hp; have hD := hd; have hS := hs; clear hp hd hs
  refine lv_icmp_ge (tgt := 36) hx hb dX10_placeOf_9 (by decide) (fun c9 => ?_) (fun c9 => ?_)
  · rw [if_pos c9] at h
    refine lv_iload_n hx hb dX10_placeOf_36 rfl (lv_at hl 2 rfl) ?_
    cases h
    exact kz_iret hx hb hr hlocks hP hK hD hS dX10_placeOf_37 ⟨rfl, rfl⟩
  · rw [if_neg c9] at h
    refine lv_aload_n hx hb dX10_placeOf_12 rfl (lv_at hl 0 rfl) ?_
    refine va_get (D := D) (ci := 10) (v := .ref (ad 2)) (C := RX10) (T := TX10) (N := 56) hx hb hts u9_wsX10_placeOf_X10 hown hK hP 0 rfl rfl 2 (by decide) (hts (.fieldLink RX10 28 "TurnedFloorsModel" "kept" "[I") f9_wsX10_placeOf_24) (fun _ h9 => h9) rfl dX10_placeOf_13 ?_
    refine lv_iconst (v := 0) hx hb dX10_placeOf_16 (by decide) ?_
    refine lv_iload_n hx hb dX10_placeOf_17 rfl (lv_at hl 3 rfl) ?_
    refine lv_iadd hx hb dX10_placeOf_18 ?_
    obtain ⟨g4, h⟩ := dG_some h
    refine va_iald hx hb hK hP 2 0 rfl rfl (dg_in g4) dX10_placeOf_19 ?_
    obtain ⟨v5, ev5, h⟩ := dL_some h
    refine kz_topi v5 ev5 ?_
    refine lv_iload_n hx hb dX10_placeOf_20 rfl (lv_at hl 1 rfl) ?_
    refine lv_icmp_ne (tgt := 28) hx hb dX10_placeOf_21 (by decide) (fun c9 => ?_) (fun c9 => ?_)
    · rw [if_neg c9] at h
      refine lv_iload_n hx hb dX10_placeOf_28 rfl (lv_at hl 2 rfl) ?_
      exact WX10_placeOf_29 C0 hk4 _ _ _ _ _ _ _ h hP hD hS (lv_sub hl [0, 1, 3] rfl)
    · rw [if_pos c9] at h
      refine lv_iload_n hx hb dX10_placeOf_24 rfl (lv_at hl 3 rfl) ?_
      refine lv_goto (tgt := 29) hx hb dX10_placeOf_25 (by decide) ?_
      exact WX10_placeOf_29 C0 hk4 _ _ _ _ _ _ _ h hP hD hS (lv_sub hl [0, 1, 3] rfl)
set_option maxHeartbeats 4000000 in
set_option maxRecDepth 100000 in
theorem WX10_placeOf_4 {p : Program} {l : Launch} {e : Env} {s : State} {m : MethodId} {args : Array Value} {below : List Frame} {meth : Method} {c : Code} {D : va_G} {ty : Nat → ClassId} {eo : Nat → Nat} {A : Nat → Prop} {ad : Nat → Nat} {o1 : Int32} {o2 : dS} (C : dc_C p s m args meth c cX10_placeOf (some .int) 4 RX10 wsX10_placeOf D ty eo A)   (n : Nat) (q : dS) (x1 : Int32) (x2 : Int32) (x3 : Int32) (H : Heap) (locs : List Loc) (ls : Array Slot) (h : zX10_placeOf_4  n q x1 x2 x3 = some (o1, o2)) (hP : va_P D vwCl (w10 ty ad q) H) (hD : va_D A (w10 ty ad q)) (hS : va_S A s.heap H locs) (hl : lv_has ls 4 [(0, .ref (ad 0)), (1, .int x1), (2, .int x2), (3, .int x3)]) : W p l e ({ frames := 1, cells := 0, slots := 0, locals := 20 } : Room) s m args below meth c H locs 0 0 (MQ below (va_Qi (fun (r : Int32) (u : va_W) => o1 = r ∧ w10 ty ad o2 = u) (kz_B D ty A) A) args s 0 0 A) (F0 m 4 ls []) := by
  exact dFix_W (F := fun k (a : dS × Int32 × Int32 × Int32) => zX10_placeOf_4b  (fun q x1 x2 x3 => k (q, x1, x2, x3)) a.1 a.2.1 a.2.2.1 a.2.2.2) (o := (o1, o2)) (P := fun (a : dS × Int32 × Int32 × Int32) H locs ls => va_P D vwCl (w10 ty ad a.1) H ∧ va_D A (w10 ty ad a.1) ∧ va_S A s.heap H locs ∧ lv_has ls 4 [(0, .ref (ad 0)), (1, .int a.2.1), (2, .int a.2.2.1), (3, .int a.2.2.2)]) (G := fun H locs ls => W p l e ({ frames := 1, cells := 0, slots := 0, locals := 20 } : Room) s m args below meth c H locs 0 0 (MQ below (va_Qi (fun (r : Int32) (u : va_W) => o1 = r ∧ w10 ty ad o2 = u) (kz_B D ty A) A) args s 0 0 A) (F0 m 4 ls []))
    (fun k hk a H locs ls h hp => WX10_placeOf_4b C  (fun q x1 x2 x3 H locs ls h h1 h2 h3 h4 => hk (q, x1, x2, x3) H locs ls h ⟨h1, h2, h3, h4⟩) a.1 a.2.1 a.2.2.1 a.2.2.2 H locs ls h hp.1 hp.2.1 hp.2.2.1 hp.2.2.2) n (q, x1, x2, x3) H locs ls h ⟨hP, hD, hS, hl⟩
set_option maxHeartbeats 4000000 in
set_option maxRecDepth 100000 in
theorem qX10_placeOf (l : Launch) (D : va_G) (ty : Nat → ClassId) (eo : Nat → Nat) (sz : Nat) (ad : Nat → Nat) (q : dS) (p1 : Int32) (o1 : Int32) (o2 : dS) (h : zX10_placeOf q p1 = some (o1, o2)) : Met l yX10_placeOf wsX10_placeOf ({ frames := 1, cells := 0, slots := 0, locals := 20 } : Room) (va_Pc [.ref (ad 0), .int p1] (kz_pre D ty eo (w10 ty ad q) sz)) (va_Qi (fun (r : Int32) (u : va_W) => o1 = r ∧ w10 ty ad o2 = u) (kz_B D ty (va_A (w10 ty ad q) sz)) (va_A (w10 ty ad q) sz)) 0 0 (va_A (w10 ty ad q) sz) := by
  refine Met.ofW (cc := cX10_placeOf) (maxL := 4) (ret := (some .int)) (by decide) rfl ?_
  intro p e s m args below meth c s₁ B hml hv
  obtain ⟨rfl, hsz, hP, hK, hD0, hN, hE⟩ := hv
  have hx := B.exec
  have hb := B.bytes
  have hr := B.returns
  have hts := atoms_spec (ws := wsX10_placeOf) B.pre
  have hown : s.vm.findClass RX10 = some m.cls := findClass_of_methodNamed B.named
  have hlocks := B.notSynchronized
  subst hsz
  have hD := hD0.self (sz := s.heap.size)
  generalize hAe : va_A (w10 ty ad q) s.heap.size = A at hD hE ⊢
  have hA : ∀ q : Nat, s.heap.size ≤ q → A q := fun q h => by rw [← hAe]; exact Or.inr h
  clear hAe
  have hS : va_S A s.heap s.heap [] := va_S.rf
  have hl := lv_entry ([.ref (ad 0), .int p1]) (n := 4) (Nat.le_of_ble_eq_true rfl)
  rw [lg_entry_eq]
  generalize (lg_sl ([.ref (ad 0), .int p1]) ++ List.replicate (4 - (lg_sl ([.ref (ad 0), .int p1])).length) Slot.unset).toArray = ls at hl ⊢
  have hl : lv_has ls 4 [(0, .ref (ad 0)), (1, .int p1)] := hl
  have C : dc_C p s m _ meth c cX10_placeOf (some .int) 4 RX10 wsX10_placeOf D ty eo A := ⟨hx, hb, hr, hts, hown, hlocks, hml, hK, hN, hE, hA⟩
  unfold zX10_placeOf at h
  refine lv_iconst (v := (-1)) hx hb dX10_placeOf_0 (by decide) ?_
  refine lv_istore_n (lv' := [(2, .int (-1)), (0, .ref (ad 0)), (1, .int p1)]) hx hb dX10_placeOf_1 rfl hl (by decide) rfl (fun ls hl => ?_)
  refine lv_iconst (v := 0) hx hb dX10_placeOf_2 (by decide) ?_
  refine lv_istore_n (lv' := [(3, .int 0), (2, .int (-1)), (0, .ref (ad 0)), (1, .int p1)]) hx hb dX10_placeOf_3 rfl hl (by decide) rfl (fun ls hl => ?_)
  exact WX10_placeOf_4 C  _ _ _ _ _ _ _ _ h hP hD hS (lv_sub hl [2, 3, 1, 0] rfl)

set_option maxHeartbeats 4000000 in
set_option maxRecDepth 100000 in
theorem qX10_adds (l : Launch) (D : va_G) (ty : Nat → ClassId) (eo : Nat → Nat) (sz : Nat) (ad : Nat → Nat) (q : dS) (p1 : Int32) (p2 : Int32) (o2 : dS) (h : zX10_adds q p1 p2 = some o2) : Met l yX10_adds wsX10_adds ({ frames := 1, cells := 0, slots := 0, locals := 20 } : Room) (va_Pc [.ref (ad 0), .int p1, .int p2] (kz_pre D ty eo (w10 ty ad q) sz)) (va_Qv (fun (u : va_W) => w10 ty ad o2 = u) (kz_B D ty (va_A (w10 ty ad q) sz)) (va_A (w10 ty ad q) sz)) 0 0 (va_A (w10 ty ad q) sz) := by
  refine Met.ofW (cc := cX10_adds) (maxL := 3) (ret := none) (by decide) rfl ?_
  intro p e s m args below meth c s₁ B hml hv
  obtain ⟨rfl, hsz, hP, hK, hD0, hN, hE⟩ := hv
  have hx := B.exec
  have hb := B.bytes
  have hr := B.returns
  have hts := atoms_spec (ws := wsX10_adds) B.pre
  have hown : s.vm.findClass RX10 = some m.cls := findClass_of_methodNamed B.named
  have hlocks := B.notSynchronized
  subst hsz
  have hD := hD0.self (sz := s.heap.size)
  generalize hAe : va_A (w10 ty ad q) s.heap.size = A at hD hE ⊢
  have hA : ∀ q : Nat, s.heap.size ≤ q → A q := fun q h => by rw [← hAe]; exact Or.inr h
  clear hAe
  have hS : va_S A s.heap s.heap [] := va_S.rf
  have hl := lv_entry ([.ref (ad 0), .int p1, .int p2]) (n := 3) (Nat.le_of_ble_eq_true rfl)
  rw [lg_entry_eq]
  generalize (lg_sl ([.ref (ad 0), .int p1, .int p2]) ++ List.replicate (3 - (lg_sl ([.ref (ad 0), .int p1, .int p2])).length) Slot.unset).toArray = ls at hl ⊢
  have hl : lv_has ls 3 [(0, .ref (ad 0)), (1, .int p1), (2, .int p2)] := hl
  have C : dc_C p s m _ meth c cX10_adds none 3 RX10 wsX10_adds D ty eo A := ⟨hx, hb, hr, hts, hown, hlocks, hml, hK, hN, hE, hA⟩
  unfold zX10_adds at h
  refine lv_aload_n hx hb dX10_adds_0 rfl (lv_at hl 0 rfl) ?_
  refine va_get (D := D) (ci := 10) (v := .ref (ad 2)) (C := RX10) (T := TX10) (N := 56) hx hb hts u9_wsX10_adds_X10 hown hK hP 0 rfl rfl 2 (by decide) (hts (.fieldLink RX10 28 "TurnedFloorsModel" "kept" "[I") f9_wsX10_adds_26) (fun _ h9 => h9) rfl dX10_adds_1 ?_
  refine lv_iconst (v := 0) hx hb dX10_adds_4 (by decide) ?_
  refine lv_aload_n hx hb dX10_adds_5 rfl (lv_at hl 0 rfl) ?_
  obtain ⟨r1, q3, h2, h⟩ := dB_some h
  refine dw_ki (va_runV (As := []) (rest := [.int 0, .ref (ad 2)]) ⟨hx, hb, hml, hown, hts⟩ (qX10_size l D ty eo _ ad q  r1 q3 h2) (cwV 0 hts gX10_adds_X10_size rfl rfl rfl hd_X10_size_v ⟨Nat.le_of_ble_eq_true rfl, Nat.le_of_ble_eq_true rfl⟩) (pv10_10_0 hK hN hE hP hD hS hA) rfl rfl hl.1 rfl (lv_room (Nat.le_of_ble_eq_true rfl)) dX10_adds_6 ⟨Nat.le_of_ble_eq_true rfl, Nat.le_of_ble_eq_true rfl⟩) hD hS hA (fun r9 u9 H locs hw hp hd hs => ?_)
  clear hP hD hS
  obtain ⟨rfl, rfl⟩ := hw
  have hP := hp; have hD := hd; have hS := hs; clear hp hd hs
  refine lv_iadd hx hb dX10_adds_9 ?_
  refine lv_iload_n hx hb dX10_adds_10 rfl (lv_at hl 1 rfl) ?_
  obtain ⟨g4, h⟩ := dG_some h
  refine va_iast hx hb hK hP hD hS 2 0 rfl rfl (dg_in g4) dX10_adds_11 (fun H locs hp hd hs => ?_)
  obtain ⟨q5, eq5, h⟩ := dL_some h
  refine kz_re (w2 := w10 ty ad q5) hp hd hs (by rw [← eq5]; exact w10_a2 ty ad q3 (Int32.toNatClampNeg (0 + r1 : Int32)) p1) ?_
  clear hp hd hs hP hD hS
  intro hP hD hS
  refine lv_aload_n hx hb dX10_adds_12 rfl (lv_at hl 0 rfl) ?_
  refine va_get (D := D) (ci := 10) (v := .ref (ad 2)) (C := RX10) (T := TX10) (N := 56) hx hb hts u9_wsX10_adds_X10 hown hK hP 0 rfl rfl 2 (by decide) (hts (.fieldLink RX10 28 "TurnedFloorsModel" "kept" "[I") f9_wsX10_adds_26) (fun _ h9 => h9) rfl dX10_adds_13 ?_
  refine lv_bipush (v := 6) hx hb dX10_adds_16 (by decide) ?_
  refine lv_aload_n hx hb dX10_adds_18 rfl (lv_at hl 0 rfl) ?_
  obtain ⟨r6, q8, h7, h⟩ := dB_some h
  refine dw_ki (va_runV (As := []) (rest := [.int 6, .ref (ad 2)]) ⟨hx, hb, hml, hown, hts⟩ (qX10_size l D ty eo _ ad q5  r6 q8 h7) (cwV 0 hts gX10_adds_X10_size rfl rfl rfl hd_X10_size_v ⟨Nat.le_of_ble_eq_true rfl, Nat.le_of_ble_eq_true rfl⟩) (pv10_10_0 hK hN hE hP hD hS hA) rfl rfl hl.1 rfl (lv_room (Nat.le_of_ble_eq_true rfl)) dX10_adds_19 ⟨Nat.le_of_ble_eq_true rfl, Nat.le_of_ble_eq_true rfl⟩) hD hS hA (fun r9 u9 H locs hw hp hd hs => ?_)
  clear hP hD hS
  obtain ⟨rfl, rfl⟩ := hw
  have hP := hp; have hD := hd; have hS := hs; clear hp hd hs
  refine lv_iadd hx hb dX10_adds_22 ?_
  refine lv_iload_n hx hb dX10_adds_23 rfl (lv_at hl 2 rfl) ?_
  obtain ⟨g9, h⟩ := dG_some h
  refine va_iast hx hb hK hP hD hS 2 0 rfl rfl (dg_in g9) dX10_adds_24 (fun H locs hp hd hs => ?_)
  obtain ⟨q10, eq10, h⟩ := dL_some h
  refine kz_re (w2 := w10 ty ad q10) hp hd hs (by rw [← eq10]; exact w10_a2 ty ad q8 (Int32.toNatClampNeg (6 + r6 : Int32)) p2) ?_
  clear hp hd hs hP hD hS
  intro hP hD hS
  refine lv_aload_n hx hb dX10_adds_25 rfl (lv_at hl 0 rfl) ?_
  refine va_get (D := D) (ci := 10) (v := .ref (ad 2)) (C := RX10) (T := TX10) (N := 56) hx hb hts u9_wsX10_adds_X10 hown hK hP 0 rfl rfl 2 (by decide) (hts (.fieldLink RX10 28 "TurnedFloorsModel" "kept" "[I") f9_wsX10_adds_26) (fun _ h9 => h9) rfl dX10_adds_26 ?_
  refine lv_bipush (v := 29) hx hb dX10_adds_29 (by decide) ?_
  refine lv_dup2_11 hx hb dX10_adds_31 rfl rfl ?_
  refine va_iald hx hb hK hP 2 0 rfl rfl (by simp only [vp_in]; decide) dX10_adds_32 ?_
  refine kz_topi (q10.1 2 29) (congrArg (q10.1 2) (by decide +kernel : Int32.toNatClampNeg 29 = 29)) ?_
  refine lv_iconst (v := 1) hx hb dX10_adds_33 (by decide) ?_
  refine lv_iadd hx hb dX10_adds_34 ?_
  refine va_iast hx hb hK hP hD hS 2 0 rfl rfl (by simp only [vp_in]; decide) dX10_adds_35 (fun H locs hp hd hs => ?_)
  obtain ⟨q11, eq11, h⟩ := dL_some h
  refine kz_re (w2 := w10 ty ad q11) hp hd hs (by rw [(by decide +kernel : Int32.toNatClampNeg 29 = 29), ← eq11]; exact w10_a2 ty ad q10 29 ((q10.1 2 29) + 1 : Int32)) ?_
  clear hp hd hs hP hD hS
  intro hP hD hS
  cases h
  exact kz_vret hx hb hr hlocks hP hK hD hS dX10_adds_36 rfl

set_option maxHeartbeats 4000000 in
set_option maxRecDepth 100000 in
theorem WX10_floor_14 {p : Program} {l : Launch} {e : Env} {s : State} {m : MethodId} {args : Array Value} {below : List Frame} {meth : Method} {c : Code} {D : va_G} {ty : Nat → ClassId} {eo : Nat → Nat} {A : Nat → Prop} {ad : Nat → Nat} {o1 : Int32} {o2 : dS} (C : dc_C p s m args meth c cX10_floor (some .int) 3 RX10 wsX10_floor D ty eo A)   (q : dS)  (H : Heap) (locs : List Loc) (ls : Array Slot) (h : zX10_floor_14  q = some (o1, o2)) (hP : va_P D vwCl (w10 ty ad q) H) (hD : va_D A (w10 ty ad q)) (hS : va_S A s.heap H locs) (hl : lv_has ls 3 [(0, .ref (ad 0))]) : W p l e ({ frames := 2, cells := 0, slots := 0, locals := 43 } : Room) s m args below meth c H locs 0 0 (MQ below (va_Qi (fun (r : Int32) (u : va_W) => o1 = r ∧ w10 ty ad o2 = u) (kz_B D ty A) A) args s 0 0 A) (F0 m 14 ls []) := by
  have C0 := C
  obtain ⟨hx, hb, hr, hts, hown, hlocks, hml, hK, hN, hE, hA⟩ := C
  unfold zX10_floor_14 at h
  refine lv_aload_n hx hb dX10_floor_14 rfl (lv_at hl 0 rfl) ?_
  refine lv_iconst (v := (-1)) hx hb dX10_floor_15 (by decide) ?_
  obtain ⟨r1, q3, h2, h⟩ := dB_some h
  refine dw_ki (va_runV (As := [.int (-1)]) (rest := []) ⟨hx, hb, hml, hown, hts⟩ (qX10_refuses l D ty eo _ ad q (-1) r1 q3 h2) (cwV 1 hts gX10_floor_X10_refuses rfl rfl rfl hd_X10_refuses_v ⟨Nat.le_of_ble_eq_true rfl, Nat.le_of_ble_eq_true rfl⟩) (pv10_10_0 hK hN hE hP hD hS hA) rfl rfl hl.1 rfl (lv_room (Nat.le_of_ble_eq_true rfl)) dX10_floor_16 ⟨Nat.le_of_ble_eq_true rfl, Nat.le_of_ble_eq_true rfl⟩) hD hS hA (fun r9 u9 H locs hw hp hd hs => ?_)
  clear hP hD hS
  obtain ⟨rfl, rfl⟩ := hw
  have hP := hp; have hD := hd; have hS := hs; clear hp hd hs
  cases h
  exact kz_iret hx hb hr hlocks hP hK hD hS dX10_floor_19 ⟨rfl, rfl⟩
set_option maxHeartbeats 4000000 in
set_option maxRecDepth 100000 in
theorem qX10_floor (l : Launch) (D : va_G) (ty : Nat → ClassId) (eo : Nat → Nat) (sz : Nat) (ad : Nat → Nat) (q : dS) (p1 : Int32) (p2 : Int32) (o1 : Int32) (o2 : dS) (h : zX10_floor q p1 p2 = some (o1, o2)) : Met l yX10_floor wsX10_floor ({ frames := 2, cells := 0, slots := 0, locals := 43 } : Room) (va_Pc [.ref (ad 0), .int p1, .int p2] (kz_pre D ty eo (w10 ty ad q) sz)) (va_Qi (fun (r : Int32) (u : va_W) => o1 = r ∧ w10 ty ad o2 = u) (kz_B D ty (va_A (w10 ty ad q) sz)) (va_A (w10 ty ad q) sz)) 0 0 (va_A (w10 ty ad q) sz) := by
  refine Met.ofW (cc := cX10_floor) (maxL := 3) (ret := (some .int)) (by decide) rfl ?_
  intro p e s m args below meth c s₁ B hml hv
  obtain ⟨rfl, hsz, hP, hK, hD0, hN, hE⟩ := hv
  have hx := B.exec
  have hb := B.bytes
  have hr := B.returns
  have hts := atoms_spec (ws := wsX10_floor) B.pre
  have hown : s.vm.findClass RX10 = some m.cls := findClass_of_methodNamed B.named
  have hlocks := B.notSynchronized
  subst hsz
  have hD := hD0.self (sz := s.heap.size)
  generalize hAe : va_A (w10 ty ad q) s.heap.size = A at hD hE ⊢
  have hA : ∀ q : Nat, s.heap.size ≤ q → A q := fun q h => by rw [← hAe]; exact Or.inr h
  clear hAe
  have hS : va_S A s.heap s.heap [] := va_S.rf
  have hl := lv_entry ([.ref (ad 0), .int p1, .int p2]) (n := 3) (Nat.le_of_ble_eq_true rfl)
  rw [lg_entry_eq]
  generalize (lg_sl ([.ref (ad 0), .int p1, .int p2]) ++ List.replicate (3 - (lg_sl ([.ref (ad 0), .int p1, .int p2])).length) Slot.unset).toArray = ls at hl ⊢
  have hl : lv_has ls 3 [(0, .ref (ad 0)), (1, .int p1), (2, .int p2)] := hl
  have C : dc_C p s m _ meth c cX10_floor (some .int) 3 RX10 wsX10_floor D ty eo A := ⟨hx, hb, hr, hts, hown, hlocks, hml, hK, hN, hE, hA⟩
  unfold zX10_floor at h
  refine lv_iload_n hx hb dX10_floor_0 rfl (lv_at hl 1 rfl) ?_
  obtain ⟨r1, h2, h⟩ := dV_some h
  refine dw_ks (va_runS (As := [.int p1]) (rest := []) ⟨hx, hb, hml, hown, hts⟩ (qX10_isRank l D ty eo _ p1 _ h2) (va_cwS 1 hts gX10_floor_X10_isRank rfl rfl rfl hd_X10_isRank ⟨Nat.le_of_ble_eq_true rfl, Nat.le_of_ble_eq_true rfl⟩) (pvS_0 hK hN hE hP hD hS hA) rfl rfl hl.1 rfl (lv_room (Nat.le_of_ble_eq_true rfl)) dX10_floor_1 ⟨Nat.le_of_ble_eq_true rfl, Nat.le_of_ble_eq_true rfl⟩) hP hD hS hA (fun _ _ h9 => h9.2.symm) (fun r9 u9 H locs hw hp hd hs => ?_)
  obtain ⟨rfl, -⟩ := hw
  clear hP hD hS
  have hP := hp; have hD := hd; have hS := hs; clear hp hd hs
  refine lv_if_eq (tgt := 14) hx hb dX10_floor_4 (by decide) (fun c9 => ?_) (fun c9 => ?_)
  · rw [if_pos c9] at h
    exact WX10_floor_14 C  _ _ _ _ h hP hD hS (lv_sub hl [0] rfl)
  · rw [if_neg c9] at h
    refine lv_iload_n hx hb dX10_floor_7 rfl (lv_at hl 2 rfl) ?_
    obtain ⟨r3, h4, h⟩ := dV_some h
    refine dw_ks (va_runS (As := [.int p2]) (rest := []) ⟨hx, hb, hml, hown, hts⟩ (qX10_isBit l D ty eo _ p2 _ h4) (va_cwS 1 hts gX10_floor_X10_isBit rfl rfl rfl hd_X10_isBit ⟨Nat.le_of_ble_eq_true rfl, Nat.le_of_ble_eq_true rfl⟩) (pvS_0 hK hN hE hP hD hS hA) rfl rfl hl.1 rfl (lv_room (Nat.le_of_ble_eq_true rfl)) dX10_floor_8 ⟨Nat.le_of_ble_eq_true rfl, Nat.le_of_ble_eq_true rfl⟩) hP hD hS hA (fun _ _ h9 => h9.2.symm) (fun r9 u9 H locs hw hp hd hs => ?_)
    obtain ⟨rfl, -⟩ := hw
    clear hP hD hS
    have hP := hp; have hD := hd; have hS := hs; clear hp hd hs
    refine lv_if_ne (tgt := 20) hx hb dX10_floor_11 (by decide) (fun c9 => ?_) (fun c9 => ?_)
    · rw [if_neg c9] at h
      refine lv_aload_n hx hb dX10_floor_20 rfl (lv_at hl 0 rfl) ?_
      refine lv_iload_n hx hb dX10_floor_21 rfl (lv_at hl 1 rfl) ?_
      obtain ⟨r5, q7, h6, h⟩ := dB_some h
      refine dw_ki (va_runV (As := [.int p1]) (rest := []) ⟨hx, hb, hml, hown, hts⟩ (qX10_placeOf l D ty eo _ ad q p1 r5 q7 h6) (cwV 1 hts gX10_floor_X10_placeOf rfl rfl rfl hd_X10_placeOf_v ⟨Nat.le_of_ble_eq_true rfl, Nat.le_of_ble_eq_true rfl⟩) (pv10_10_0 hK hN hE hP hD hS hA) rfl rfl hl.1 rfl (lv_room (Nat.le_of_ble_eq_true rfl)) dX10_floor_22 ⟨Nat.le_of_ble_eq_true rfl, Nat.le_of_ble_eq_true rfl⟩) hD hS hA (fun r9 u9 H locs hw hp hd hs => ?_)
      clear hP hD hS
      obtain ⟨rfl, rfl⟩ := hw
      have hP := hp; have hD := hd; have hS := hs; clear hp hd hs
      refine lv_iconst (v := (-1)) hx hb dX10_floor_25 (by decide) ?_
      refine lv_icmp_eq (tgt := 36) hx hb dX10_floor_26 (by decide) (fun c9 => ?_) (fun c9 => ?_)
      · rw [if_pos c9] at h
        refine lv_aload_n hx hb dX10_floor_36 rfl (lv_at hl 0 rfl) ?_
        obtain ⟨r8, q10, h9, h⟩ := dB_some h
        refine dw_ki (va_runV (As := []) (rest := []) ⟨hx, hb, hml, hown, hts⟩ (qX10_size l D ty eo _ ad q7  r8 q10 h9) (cwV 0 hts gX10_floor_X10_size rfl rfl rfl hd_X10_size_v ⟨Nat.le_of_ble_eq_true rfl, Nat.le_of_ble_eq_true rfl⟩) (pv10_10_0 hK hN hE hP hD hS hA) rfl rfl hl.1 rfl (lv_room (Nat.le_of_ble_eq_true rfl)) dX10_floor_37 ⟨Nat.le_of_ble_eq_true rfl, Nat.le_of_ble_eq_true rfl⟩) hD hS hA (fun r9 u9 H locs hw hp hd hs => ?_)
        clear hP hD hS
        obtain ⟨rfl, rfl⟩ := hw
        have hP := hp; have hD := hd; have hS := hs; clear hp hd hs
        refine lv_bipush (v := 6) hx hb dX10_floor_40 (by decide) ?_
        refine lv_icmp_ne (tgt := 52) hx hb dX10_floor_42 (by decide) (fun c9 => ?_) (fun c9 => ?_)
        · rw [if_neg c9] at h
          refine lv_aload_n hx hb dX10_floor_52 rfl (lv_at hl 0 rfl) ?_
          refine lv_iload_n hx hb dX10_floor_53 rfl (lv_at hl 1 rfl) ?_
          refine lv_iload_n hx hb dX10_floor_54 rfl (lv_at hl 2 rfl) ?_
          obtain ⟨q13, h12, h⟩ := dV_some h
          refine dw_kv (va_runV (As := [.int p1, .int p2]) (rest := []) ⟨hx, hb, hml, hown, hts⟩ (qX10_adds l D ty eo _ ad q10 p1 p2 q13 h12) (cwV 2 hts gX10_floor_X10_adds rfl rfl rfl hd_X10_adds_v ⟨Nat.le_of_ble_eq_true rfl, Nat.le_of_ble_eq_true rfl⟩) (pv10_10_0 hK hN hE hP hD hS hA) rfl rfl hl.1 rfl (lv_room (Nat.le_of_ble_eq_true rfl)) dX10_floor_55 ⟨Nat.le_of_ble_eq_true rfl, Nat.le_of_ble_eq_true rfl⟩) hD hS hA (fun u9 H locs hw hp hd hs => ?_)
          clear hP hD hS
          obtain rfl := hw
          have hP := hp; have hD := hd; have hS := hs; clear hp hd hs
          refine lv_aload_n hx hb dX10_floor_58 rfl (lv_at hl 0 rfl) ?_
          refine lv_aload_n hx hb dX10_floor_59 rfl (lv_at hl 0 rfl) ?_
          obtain ⟨r14, q16, h15, h⟩ := dB_some h
          refine dw_ki (va_runV (As := []) (rest := [.ref (ad 0)]) ⟨hx, hb, hml, hown, hts⟩ (qX10_size l D ty eo _ ad q13  r14 q16 h15) (cwV 0 hts gX10_floor_X10_size rfl rfl rfl hd_X10_size_v ⟨Nat.le_of_ble_eq_true rfl, Nat.le_of_ble_eq_true rfl⟩) (pv10_10_0 hK hN hE hP hD hS hA) rfl rfl hl.1 rfl (lv_room (Nat.le_of_ble_eq_true rfl)) dX10_floor_60 ⟨Nat.le_of_ble_eq_true rfl, Nat.le_of_ble_eq_true rfl⟩) hD hS hA (fun r9 u9 H locs hw hp hd hs => ?_)
          clear hP hD hS
          obtain ⟨rfl, rfl⟩ := hw
          have hP := hp; have hD := hd; have hS := hs; clear hp hd hs
          refine lv_iconst (v := 1) hx hb dX10_floor_63 (by decide) ?_
          refine lv_isub hx hb dX10_floor_64 ?_
          obtain ⟨r17, q19, h18, h⟩ := dB_some h
          refine dw_ki (va_runV (As := [.int (r14 - 1 : Int32)]) (rest := []) ⟨hx, hb, hml, hown, hts⟩ (qX10_settled l D ty eo _ ad q16 (r14 - 1 : Int32) r17 q19 h18) (cwV 1 hts gX10_floor_X10_settled rfl rfl rfl hd_X10_settled_v ⟨Nat.le_of_ble_eq_true rfl, Nat.le_of_ble_eq_true rfl⟩) (pv10_10_0 hK hN hE hP hD hS hA) rfl rfl hl.1 rfl (lv_room (Nat.le_of_ble_eq_true rfl)) dX10_floor_65 ⟨Nat.le_of_ble_eq_true rfl, Nat.le_of_ble_eq_true rfl⟩) hD hS hA (fun r9 u9 H locs hw hp hd hs => ?_)
          clear hP hD hS
          obtain ⟨rfl, rfl⟩ := hw
          have hP := hp; have hD := hd; have hS := hs; clear hp hd hs
          cases h
          exact kz_iret hx hb hr hlocks hP hK hD hS dX10_floor_68 ⟨rfl, rfl⟩
        · rw [if_pos c9] at h
          refine lv_aload_n hx hb dX10_floor_45 rfl (lv_at hl 0 rfl) ?_
          refine lv_bipush (v := (-5)) hx hb dX10_floor_46 (by decide) ?_
          obtain ⟨r20, q22, h21, h⟩ := dB_some h
          refine dw_ki (va_runV (As := [.int (-5)]) (rest := []) ⟨hx, hb, hml, hown, hts⟩ (qX10_refuses l D ty eo _ ad q10 (-5) r20 q22 h21) (cwV 1 hts gX10_floor_X10_refuses rfl rfl rfl hd_X10_refuses_v ⟨Nat.le_of_ble_eq_true rfl, Nat.le_of_ble_eq_true rfl⟩) (pv10_10_0 hK hN hE hP hD hS hA) rfl rfl hl.1 rfl (lv_room (Nat.le_of_ble_eq_true rfl)) dX10_floor_48 ⟨Nat.le_of_ble_eq_true rfl, Nat.le_of_ble_eq_true rfl⟩) hD hS hA (fun r9 u9 H locs hw hp hd hs => ?_)
          clear hP hD hS
          obtain ⟨rfl, rfl⟩ := hw
          have hP := hp; have hD := hd; have hS := hs; clear hp hd hs
          cases h
          exact kz_iret hx hb hr hlocks hP hK hD hS dX10_floor_51 ⟨rfl, rfl⟩
      · rw [if_neg c9] at h
        refine lv_aload_n hx hb dX10_floor_29 rfl (lv_at hl 0 rfl) ?_
        refine lv_bipush (v := (-3)) hx hb dX10_floor_30 (by decide) ?_
        obtain ⟨r23, q25, h24, h⟩ := dB_some h
        refine dw_ki (va_runV (As := [.int (-3)]) (rest := []) ⟨hx, hb, hml, hown, hts⟩ (qX10_refuses l D ty eo _ ad q7 (-3) r23 q25 h24) (cwV 1 hts gX10_floor_X10_refuses rfl rfl rfl hd_X10_refuses_v ⟨Nat.le_of_ble_eq_true rfl, Nat.le_of_ble_eq_true rfl⟩) (pv10_10_0 hK hN hE hP hD hS hA) rfl rfl hl.1 rfl (lv_room (Nat.le_of_ble_eq_true rfl)) dX10_floor_32 ⟨Nat.le_of_ble_eq_true rfl, Nat.le_of_ble_eq_true rfl⟩) hD hS hA (fun r9 u9 H locs hw hp hd hs => ?_)
        clear hP hD hS
        obtain ⟨rfl, rfl⟩ := hw
        have hP := hp; have hD := hd; have hS := hs; clear hp hd hs
        cases h
        exact kz_iret hx hb hr hlocks hP hK hD hS dX10_floor_35 ⟨rfl, rfl⟩
    · rw [if_pos c9] at h
      exact WX10_floor_14 C  _ _ _ _ h hP hD hS (lv_sub hl [0] rfl)

set_option maxHeartbeats 4000000 in
set_option maxRecDepth 100000 in
theorem qX10_setsAsked (l : Launch) (D : va_G) (ty : Nat → ClassId) (eo : Nat → Nat) (sz : Nat) (ad : Nat → Nat) (q : dS) (p1 : Int32) (p2 : Int32) (p3 : Int32) (o2 : dS) (h : zX10_setsAsked q p1 p2 p3 = some o2) : Met l yX10_setsAsked wsX10_setsAsked ({ frames := 1, cells := 0, slots := 0, locals := 20 } : Room) (va_Pc [.ref (ad 0), .int p1, .int p2, .int p3] (kz_pre D ty eo (w10 ty ad q) sz)) (va_Qv (fun (u : va_W) => w10 ty ad o2 = u) (kz_B D ty (va_A (w10 ty ad q) sz)) (va_A (w10 ty ad q) sz)) 0 0 (va_A (w10 ty ad q) sz) := by
  refine Met.ofW (cc := cX10_setsAsked) (maxL := 4) (ret := none) (by decide) rfl ?_
  intro p e s m args below meth c s₁ B hml hv
  obtain ⟨rfl, hsz, hP, hK, hD0, hN, hE⟩ := hv
  have hx := B.exec
  have hb := B.bytes
  have hr := B.returns
  have hts := atoms_spec (ws := wsX10_setsAsked) B.pre
  have hown : s.vm.findClass RX10 = some m.cls := findClass_of_methodNamed B.named
  have hlocks := B.notSynchronized
  subst hsz
  have hD := hD0.self (sz := s.heap.size)
  generalize hAe : va_A (w10 ty ad q) s.heap.size = A at hD hE ⊢
  have hA : ∀ q : Nat, s.heap.size ≤ q → A q := fun q h => by rw [← hAe]; exact Or.inr h
  clear hAe
  have hS : va_S A s.heap s.heap [] := va_S.rf
  have hl := lv_entry ([.ref (ad 0), .int p1, .int p2, .int p3]) (n := 4) (Nat.le_of_ble_eq_true rfl)
  rw [lg_entry_eq]
  generalize (lg_sl ([.ref (ad 0), .int p1, .int p2, .int p3]) ++ List.replicate (4 - (lg_sl ([.ref (ad 0), .int p1, .int p2, .int p3])).length) Slot.unset).toArray = ls at hl ⊢
  have hl : lv_has ls 4 [(0, .ref (ad 0)), (1, .int p1), (2, .int p2), (3, .int p3)] := hl
  have C : dc_C p s m _ meth c cX10_setsAsked none 4 RX10 wsX10_setsAsked D ty eo A := ⟨hx, hb, hr, hts, hown, hlocks, hml, hK, hN, hE, hA⟩
  unfold zX10_setsAsked at h
  refine lv_aload_n hx hb dX10_setsAsked_0 rfl (lv_at hl 0 rfl) ?_
  refine va_get (D := D) (ci := 10) (v := .ref (ad 12)) (C := RX10) (T := TX10) (N := 56) hx hb hts u9_wsX10_setsAsked_X10 hown hK hP 0 rfl rfl 26 (by decide) (hts (.fieldLink RX10 63 "TurnedFloorsModel" "asked" "[I") f9_wsX10_setsAsked_28) (fun _ h9 => h9) rfl dX10_setsAsked_1 ?_
  refine lv_iconst (v := 3) hx hb dX10_setsAsked_4 (by decide) ?_
  refine lv_aload_n hx hb dX10_setsAsked_5 rfl (lv_at hl 0 rfl) ?_
  obtain ⟨r1, q3, h2, h⟩ := dB_some h
  refine dw_ki (va_runV (As := []) (rest := [.int 3, .ref (ad 12)]) ⟨hx, hb, hml, hown, hts⟩ (qX10_size l D ty eo _ ad q  r1 q3 h2) (cwV 0 hts gX10_setsAsked_X10_size rfl rfl rfl hd_X10_size_v ⟨Nat.le_of_ble_eq_true rfl, Nat.le_of_ble_eq_true rfl⟩) (pv10_10_0 hK hN hE hP hD hS hA) rfl rfl hl.1 rfl (lv_room (Nat.le_of_ble_eq_true rfl)) dX10_setsAsked_6 ⟨Nat.le_of_ble_eq_true rfl, Nat.le_of_ble_eq_true rfl⟩) hD hS hA (fun r9 u9 H locs hw hp hd hs => ?_)
  clear hP hD hS
  obtain ⟨rfl, rfl⟩ := hw
  have hP := hp; have hD := hd; have hS := hs; clear hp hd hs
  refine va_iast hx hb hK hP hD hS 12 0 rfl rfl (by simp only [vp_in]; decide) dX10_setsAsked_9 (fun H locs hp hd hs => ?_)
  obtain ⟨q4, eq4, h⟩ := dL_some h
  refine kz_re (w2 := w10 ty ad q4) hp hd hs (by rw [(by decide +kernel : Int32.toNatClampNeg 3 = 3), ← eq4]; exact w10_a12 ty ad q3 3 r1) ?_
  clear hp hd hs hP hD hS
  intro hP hD hS
  refine lv_aload_n hx hb dX10_setsAsked_10 rfl (lv_at hl 0 rfl) ?_
  refine va_get (D := D) (ci := 10) (v := .ref (ad 12)) (C := RX10) (T := TX10) (N := 56) hx hb hts u9_wsX10_setsAsked_X10 hown hK hP 0 rfl rfl 26 (by decide) (hts (.fieldLink RX10 63 "TurnedFloorsModel" "asked" "[I") f9_wsX10_setsAsked_28) (fun _ h9 => h9) rfl dX10_setsAsked_11 ?_
  refine lv_iconst (v := 4) hx hb dX10_setsAsked_14 (by decide) ?_
  refine lv_iload_n hx hb dX10_setsAsked_15 rfl (lv_at hl 1 rfl) ?_
  refine va_iast hx hb hK hP hD hS 12 0 rfl rfl (by simp only [vp_in]; decide) dX10_setsAsked_16 (fun H locs hp hd hs => ?_)
  obtain ⟨q5, eq5, h⟩ := dL_some h
  refine kz_re (w2 := w10 ty ad q5) hp hd hs (by rw [(by decide +kernel : Int32.toNatClampNeg 4 = 4), ← eq5]; exact w10_a12 ty ad q4 4 p1) ?_
  clear hp hd hs hP hD hS
  intro hP hD hS
  refine lv_aload_n hx hb dX10_setsAsked_17 rfl (lv_at hl 0 rfl) ?_
  refine va_get (D := D) (ci := 10) (v := .ref (ad 12)) (C := RX10) (T := TX10) (N := 56) hx hb hts u9_wsX10_setsAsked_X10 hown hK hP 0 rfl rfl 26 (by decide) (hts (.fieldLink RX10 63 "TurnedFloorsModel" "asked" "[I") f9_wsX10_setsAsked_28) (fun _ h9 => h9) rfl dX10_setsAsked_18 ?_
  refine lv_iconst (v := 5) hx hb dX10_setsAsked_21 (by decide) ?_
  refine lv_iload_n hx hb dX10_setsAsked_22 rfl (lv_at hl 2 rfl) ?_
  refine va_iast hx hb hK hP hD hS 12 0 rfl rfl (by simp only [vp_in]; decide) dX10_setsAsked_23 (fun H locs hp hd hs => ?_)
  obtain ⟨q6, eq6, h⟩ := dL_some h
  refine kz_re (w2 := w10 ty ad q6) hp hd hs (by rw [(by decide +kernel : Int32.toNatClampNeg 5 = 5), ← eq6]; exact w10_a12 ty ad q5 5 p2) ?_
  clear hp hd hs hP hD hS
  intro hP hD hS
  refine lv_aload_n hx hb dX10_setsAsked_24 rfl (lv_at hl 0 rfl) ?_
  refine va_get (D := D) (ci := 10) (v := .ref (ad 12)) (C := RX10) (T := TX10) (N := 56) hx hb hts u9_wsX10_setsAsked_X10 hown hK hP 0 rfl rfl 26 (by decide) (hts (.fieldLink RX10 63 "TurnedFloorsModel" "asked" "[I") f9_wsX10_setsAsked_28) (fun _ h9 => h9) rfl dX10_setsAsked_25 ?_
  refine lv_bipush (v := 6) hx hb dX10_setsAsked_28 (by decide) ?_
  refine lv_aload_n hx hb dX10_setsAsked_30 rfl (lv_at hl 0 rfl) ?_
  refine va_get (D := D) (ci := 10) (v := .ref (ad 2)) (C := RX10) (T := TX10) (N := 56) hx hb hts u9_wsX10_setsAsked_X10 hown hK hP 0 rfl rfl 2 (by decide) (hts (.fieldLink RX10 28 "TurnedFloorsModel" "kept" "[I") f9_wsX10_setsAsked_29) (fun _ h9 => h9) rfl dX10_setsAsked_31 ?_
  refine lv_bipush (v := 27) hx hb dX10_setsAsked_34 (by decide) ?_
  refine va_iald hx hb hK hP 2 0 rfl rfl (by simp only [vp_in]; decide) dX10_setsAsked_36 ?_
  refine kz_topi (q6.1 2 27) (congrArg (q6.1 2) (by decide +kernel : Int32.toNatClampNeg 27 = 27)) ?_
  refine va_iast hx hb hK hP hD hS 12 0 rfl rfl (by simp only [vp_in]; decide) dX10_setsAsked_37 (fun H locs hp hd hs => ?_)
  obtain ⟨q7, eq7, h⟩ := dL_some h
  refine kz_re (w2 := w10 ty ad q7) hp hd hs (by rw [(by decide +kernel : Int32.toNatClampNeg 6 = 6), ← eq7]; exact w10_a12 ty ad q6 6 (q6.1 2 27)) ?_
  clear hp hd hs hP hD hS
  intro hP hD hS
  refine lv_aload_n hx hb dX10_setsAsked_38 rfl (lv_at hl 0 rfl) ?_
  refine va_get (D := D) (ci := 10) (v := .ref (ad 12)) (C := RX10) (T := TX10) (N := 56) hx hb hts u9_wsX10_setsAsked_X10 hown hK hP 0 rfl rfl 26 (by decide) (hts (.fieldLink RX10 63 "TurnedFloorsModel" "asked" "[I") f9_wsX10_setsAsked_28) (fun _ h9 => h9) rfl dX10_setsAsked_39 ?_
  refine lv_bipush (v := 7) hx hb dX10_setsAsked_42 (by decide) ?_
  refine lv_iload_n hx hb dX10_setsAsked_44 rfl (lv_at hl 3 rfl) ?_
  refine va_iast hx hb hK hP hD hS 12 0 rfl rfl (by simp only [vp_in]; decide) dX10_setsAsked_45 (fun H locs hp hd hs => ?_)
  obtain ⟨q8, eq8, h⟩ := dL_some h
  refine kz_re (w2 := w10 ty ad q8) hp hd hs (by rw [(by decide +kernel : Int32.toNatClampNeg 7 = 7), ← eq8]; exact w10_a12 ty ad q7 7 p3) ?_
  clear hp hd hs hP hD hS
  intro hP hD hS
  refine lv_aload_n hx hb dX10_setsAsked_46 rfl (lv_at hl 0 rfl) ?_
  refine va_get (D := D) (ci := 10) (v := .ref (ad 12)) (C := RX10) (T := TX10) (N := 56) hx hb hts u9_wsX10_setsAsked_X10 hown hK hP 0 rfl rfl 26 (by decide) (hts (.fieldLink RX10 63 "TurnedFloorsModel" "asked" "[I") f9_wsX10_setsAsked_28) (fun _ h9 => h9) rfl dX10_setsAsked_47 ?_
  refine lv_bipush (v := 8) hx hb dX10_setsAsked_50 (by decide) ?_
  refine lv_aload_n hx hb dX10_setsAsked_52 rfl (lv_at hl 0 rfl) ?_
  refine va_get (D := D) (ci := 10) (v := .ref (ad 2)) (C := RX10) (T := TX10) (N := 56) hx hb hts u9_wsX10_setsAsked_X10 hown hK hP 0 rfl rfl 2 (by decide) (hts (.fieldLink RX10 28 "TurnedFloorsModel" "kept" "[I") f9_wsX10_setsAsked_29) (fun _ h9 => h9) rfl dX10_setsAsked_53 ?_
  refine lv_bipush (v := 13) hx hb dX10_setsAsked_56 (by decide) ?_
  refine va_iald hx hb hK hP 2 0 rfl rfl (by simp only [vp_in]; decide) dX10_setsAsked_58 ?_
  refine kz_topi (q8.1 2 13) (congrArg (q8.1 2) (by decide +kernel : Int32.toNatClampNeg 13 = 13)) ?_
  refine va_iast hx hb hK hP hD hS 12 0 rfl rfl (by simp only [vp_in]; decide) dX10_setsAsked_59 (fun H locs hp hd hs => ?_)
  obtain ⟨q9, eq9, h⟩ := dL_some h
  refine kz_re (w2 := w10 ty ad q9) hp hd hs (by rw [(by decide +kernel : Int32.toNatClampNeg 8 = 8), ← eq9]; exact w10_a12 ty ad q8 8 (q8.1 2 13)) ?_
  clear hp hd hs hP hD hS
  intro hP hD hS
  cases h
  exact kz_vret hx hb hr hlocks hP hK hD hS dX10_setsAsked_60 rfl
end
section
theorem da9_dX10_sign_0 : (decode cX10_sign 0 = .ok (.bipush 100, 2)) ∧ (decode cX10_sign 2 = .ok (.iload_n 0, 1)) ∧ (decode cX10_sign 3 = .ok (.iadd, 1)) ∧ (decode cX10_sign 4 = .ok (.ireturn, 1)) := by decide +kernel
theorem dX10_sign_0 : decode cX10_sign 0 = .ok (.bipush 100, 2) := da9_dX10_sign_0.1
theorem dX10_sign_2 : decode cX10_sign 2 = .ok (.iload_n 0, 1) := da9_dX10_sign_0.2.1
theorem dX10_sign_3 : decode cX10_sign 3 = .ok (.iadd, 1) := da9_dX10_sign_0.2.2.1
theorem dX10_sign_4 : decode cX10_sign 4 = .ok (.ireturn, 1) := da9_dX10_sign_0.2.2.2
theorem da9_dX10_codeAt_0 : (decode cX10_codeAt 0 = .ok (.iload_n 1, 1)) ∧ (decode cX10_codeAt 1 = .ok (.aload_n 0, 1)) ∧ (decode cX10_codeAt 2 = .ok (.getfield 275, 3)) ∧ (decode cX10_codeAt 5 = .ok (.if_icmp .ge 15, 3)) ∧ (decode cX10_codeAt 8 = .ok (.aload_n 0, 1)) ∧ (decode cX10_codeAt 9 = .ok (.getfield 28, 3)) ∧ (decode cX10_codeAt 12 = .ok (.bipush 40, 2)) ∧ (decode cX10_codeAt 14 = .ok (.iload_n 1, 1)) ∧ (decode cX10_codeAt 15 = .ok (.iadd, 1)) ∧ (decode cX10_codeAt 16 = .ok (.iaload, 1)) ∧ (decode cX10_codeAt 17 = .ok (.goto 4, 3)) ∧ (decode cX10_codeAt 20 = .ok (.iconst 0, 1)) ∧ (decode cX10_codeAt 21 = .ok (.ireturn, 1)) := by decide +kernel
theorem dX10_codeAt_0 : decode cX10_codeAt 0 = .ok (.iload_n 1, 1) := da9_dX10_codeAt_0.1
theorem dX10_codeAt_1 : decode cX10_codeAt 1 = .ok (.aload_n 0, 1) := da9_dX10_codeAt_0.2.1
theorem dX10_codeAt_2 : decode cX10_codeAt 2 = .ok (.getfield 275, 3) := da9_dX10_codeAt_0.2.2.1
theorem dX10_codeAt_5 : decode cX10_codeAt 5 = .ok (.if_icmp .ge 15, 3) := da9_dX10_codeAt_0.2.2.2.1
theorem dX10_codeAt_8 : decode cX10_codeAt 8 = .ok (.aload_n 0, 1) := da9_dX10_codeAt_0.2.2.2.2.1
theorem dX10_codeAt_9 : decode cX10_codeAt 9 = .ok (.getfield 28, 3) := da9_dX10_codeAt_0.2.2.2.2.2.1
theorem dX10_codeAt_12 : decode cX10_codeAt 12 = .ok (.bipush 40, 2) := da9_dX10_codeAt_0.2.2.2.2.2.2.1
theorem dX10_codeAt_14 : decode cX10_codeAt 14 = .ok (.iload_n 1, 1) := da9_dX10_codeAt_0.2.2.2.2.2.2.2.1
theorem dX10_codeAt_15 : decode cX10_codeAt 15 = .ok (.iadd, 1) := da9_dX10_codeAt_0.2.2.2.2.2.2.2.2.1
theorem dX10_codeAt_16 : decode cX10_codeAt 16 = .ok (.iaload, 1) := da9_dX10_codeAt_0.2.2.2.2.2.2.2.2.2.1
theorem dX10_codeAt_17 : decode cX10_codeAt 17 = .ok (.goto 4, 3) := da9_dX10_codeAt_0.2.2.2.2.2.2.2.2.2.2.1
theorem dX10_codeAt_20 : decode cX10_codeAt 20 = .ok (.iconst 0, 1) := da9_dX10_codeAt_0.2.2.2.2.2.2.2.2.2.2.2.1
theorem dX10_codeAt_21 : decode cX10_codeAt 21 = .ok (.ireturn, 1) := da9_dX10_codeAt_0.2.2.2.2.2.2.2.2.2.2.2.2
set_option maxRecDepth 20000 in
theorem ggX10_passes0_X10_codeAt : GoodIn wsX10_passes0 wsX10_codeAt := wd_c vW10_ok mvW10_71
set_option maxRecDepth 20000 in
theorem gX10_passes0_X10_codeAt : GoodIn wsX10_passes0 (wsV RX10 281 RX10 yX10_codeAt wsX10_codeAt) := goodIn_app (wd_l vW10_ok _ pvW10_181) ggX10_passes0_X10_codeAt
theorem da9_dX10_passes0_0 : (decode cX10_passes0 0 = .ok (.aload_n 0, 1)) ∧ (decode cX10_passes0 1 = .ok (.aload_n 0, 1)) ∧ (decode cX10_passes0 2 = .ok (.getfield 278, 3)) ∧ (decode cX10_passes0 5 = .ok (.invokevirtual 281, 3)) ∧ (decode cX10_passes0 8 = .ok (.iload_n 1, 1)) ∧ (decode cX10_passes0 9 = .ok (.if_icmp .ne 7, 3)) ∧ (decode cX10_passes0 12 = .ok (.iconst 1, 1)) ∧ (decode cX10_passes0 13 = .ok (.goto 4, 3)) ∧ (decode cX10_passes0 16 = .ok (.iconst 0, 1)) ∧ (decode cX10_passes0 17 = .ok (.istore_n 2, 1)) ∧ (decode cX10_passes0 18 = .ok (.iload_n 2, 1)) ∧ (decode cX10_passes0 19 = .ok (.ifCond .eq 13, 3)) ∧ (decode cX10_passes0 22 = .ok (.aload_n 0, 1)) ∧ (decode cX10_passes0 23 = .ok (.dup, 1)) ∧ (decode cX10_passes0 24 = .ok (.getfield 278, 3)) ∧ (decode cX10_passes0 27 = .ok (.iconst 1, 1)) := by decide +kernel
theorem dX10_passes0_0 : decode cX10_passes0 0 = .ok (.aload_n 0, 1) := da9_dX10_passes0_0.1
theorem dX10_passes0_1 : decode cX10_passes0 1 = .ok (.aload_n 0, 1) := da9_dX10_passes0_0.2.1
theorem dX10_passes0_2 : decode cX10_passes0 2 = .ok (.getfield 278, 3) := da9_dX10_passes0_0.2.2.1
theorem dX10_passes0_5 : decode cX10_passes0 5 = .ok (.invokevirtual 281, 3) := da9_dX10_passes0_0.2.2.2.1
theorem dX10_passes0_8 : decode cX10_passes0 8 = .ok (.iload_n 1, 1) := da9_dX10_passes0_0.2.2.2.2.1
theorem dX10_passes0_9 : decode cX10_passes0 9 = .ok (.if_icmp .ne 7, 3) := da9_dX10_passes0_0.2.2.2.2.2.1
theorem dX10_passes0_12 : decode cX10_passes0 12 = .ok (.iconst 1, 1) := da9_dX10_passes0_0.2.2.2.2.2.2.1
theorem dX10_passes0_13 : decode cX10_passes0 13 = .ok (.goto 4, 3) := da9_dX10_passes0_0.2.2.2.2.2.2.2.1
theorem dX10_passes0_16 : decode cX10_passes0 16 = .ok (.iconst 0, 1) := da9_dX10_passes0_0.2.2.2.2.2.2.2.2.1
theorem dX10_passes0_17 : decode cX10_passes0 17 = .ok (.istore_n 2, 1) := da9_dX10_passes0_0.2.2.2.2.2.2.2.2.2.1
theorem dX10_passes0_18 : decode cX10_passes0 18 = .ok (.iload_n 2, 1) := da9_dX10_passes0_0.2.2.2.2.2.2.2.2.2.2.1
theorem dX10_passes0_19 : decode cX10_passes0 19 = .ok (.ifCond .eq 13, 3) := da9_dX10_passes0_0.2.2.2.2.2.2.2.2.2.2.2.1
theorem dX10_passes0_22 : decode cX10_passes0 22 = .ok (.aload_n 0, 1) := da9_dX10_passes0_0.2.2.2.2.2.2.2.2.2.2.2.2.1
theorem dX10_passes0_23 : decode cX10_passes0 23 = .ok (.dup, 1) := da9_dX10_passes0_0.2.2.2.2.2.2.2.2.2.2.2.2.2.1
theorem dX10_passes0_24 : decode cX10_passes0 24 = .ok (.getfield 278, 3) := da9_dX10_passes0_0.2.2.2.2.2.2.2.2.2.2.2.2.2.2.1
theorem dX10_passes0_27 : decode cX10_passes0 27 = .ok (.iconst 1, 1) := da9_dX10_passes0_0.2.2.2.2.2.2.2.2.2.2.2.2.2.2.2
theorem da9_dX10_passes0_28 : (decode cX10_passes0 28 = .ok (.iadd, 1)) ∧ (decode cX10_passes0 29 = .ok (.putfield 278, 3)) ∧ (decode cX10_passes0 32 = .ok (.iload_n 2, 1)) ∧ (decode cX10_passes0 33 = .ok (.ireturn, 1)) := by decide +kernel
theorem dX10_passes0_28 : decode cX10_passes0 28 = .ok (.iadd, 1) := da9_dX10_passes0_28.1
theorem dX10_passes0_29 : decode cX10_passes0 29 = .ok (.putfield 278, 3) := da9_dX10_passes0_28.2.1
theorem dX10_passes0_32 : decode cX10_passes0 32 = .ok (.iload_n 2, 1) := da9_dX10_passes0_28.2.2.1
theorem dX10_passes0_33 : decode cX10_passes0 33 = .ok (.ireturn, 1) := da9_dX10_passes0_28.2.2.2
theorem da9_dX10_bounded_0 : (decode cX10_bounded 0 = .ok (.iload_n 3, 1)) ∧ (decode cX10_bounded 1 = .ok (.ifCond .eq 24, 3)) ∧ (decode cX10_bounded 4 = .ok (.lload_n 1, 1)) ∧ (decode cX10_bounded 5 = .ok (.ldc2_w 284, 3)) ∧ (decode cX10_bounded 8 = .ok (.lcmp, 1)) ∧ (decode cX10_bounded 9 = .ok (.ifCond .gt 11, 3)) ∧ (decode cX10_bounded 12 = .ok (.lload_n 1, 1)) ∧ (decode cX10_bounded 13 = .ok (.ldc2_w 286, 3)) ∧ (decode cX10_bounded 16 = .ok (.lcmp, 1)) ∧ (decode cX10_bounded 17 = .ok (.ifCond .ge 8, 3)) ∧ (decode cX10_bounded 20 = .ok (.aload_n 0, 1)) ∧ (decode cX10_bounded 21 = .ok (.iconst 1, 1)) ∧ (decode cX10_bounded 22 = .ok (.putfield 288, 3)) ∧ (decode cX10_bounded 25 = .ok (.aload_n 0, 1)) ∧ (decode cX10_bounded 26 = .ok (.getfield 288, 3)) ∧ (decode cX10_bounded 29 = .ok (.ifCond .eq 7, 3)) := by decide +kernel
theorem dX10_bounded_0 : decode cX10_bounded 0 = .ok (.iload_n 3, 1) := da9_dX10_bounded_0.1
theorem dX10_bounded_1 : decode cX10_bounded 1 = .ok (.ifCond .eq 24, 3) := da9_dX10_bounded_0.2.1
theorem dX10_bounded_4 : decode cX10_bounded 4 = .ok (.lload_n 1, 1) := da9_dX10_bounded_0.2.2.1
theorem dX10_bounded_5 : decode cX10_bounded 5 = .ok (.ldc2_w 284, 3) := da9_dX10_bounded_0.2.2.2.1
theorem dX10_bounded_8 : decode cX10_bounded 8 = .ok (.lcmp, 1) := da9_dX10_bounded_0.2.2.2.2.1
theorem dX10_bounded_9 : decode cX10_bounded 9 = .ok (.ifCond .gt 11, 3) := da9_dX10_bounded_0.2.2.2.2.2.1
theorem dX10_bounded_12 : decode cX10_bounded 12 = .ok (.lload_n 1, 1) := da9_dX10_bounded_0.2.2.2.2.2.2.1
theorem dX10_bounded_13 : decode cX10_bounded 13 = .ok (.ldc2_w 286, 3) := da9_dX10_bounded_0.2.2.2.2.2.2.2.1
theorem dX10_bounded_16 : decode cX10_bounded 16 = .ok (.lcmp, 1) := da9_dX10_bounded_0.2.2.2.2.2.2.2.2.1
theorem dX10_bounded_17 : decode cX10_bounded 17 = .ok (.ifCond .ge 8, 3) := da9_dX10_bounded_0.2.2.2.2.2.2.2.2.2.1
theorem dX10_bounded_20 : decode cX10_bounded 20 = .ok (.aload_n 0, 1) := da9_dX10_bounded_0.2.2.2.2.2.2.2.2.2.2.1
theorem dX10_bounded_21 : decode cX10_bounded 21 = .ok (.iconst 1, 1) := da9_dX10_bounded_0.2.2.2.2.2.2.2.2.2.2.2.1
theorem dX10_bounded_22 : decode cX10_bounded 22 = .ok (.putfield 288, 3) := da9_dX10_bounded_0.2.2.2.2.2.2.2.2.2.2.2.2.1
theorem dX10_bounded_25 : decode cX10_bounded 25 = .ok (.aload_n 0, 1) := da9_dX10_bounded_0.2.2.2.2.2.2.2.2.2.2.2.2.2.1
theorem dX10_bounded_26 : decode cX10_bounded 26 = .ok (.getfield 288, 3) := da9_dX10_bounded_0.2.2.2.2.2.2.2.2.2.2.2.2.2.2.1
theorem dX10_bounded_29 : decode cX10_bounded 29 = .ok (.ifCond .eq 7, 3) := da9_dX10_bounded_0.2.2.2.2.2.2.2.2.2.2.2.2.2.2.2
theorem da9_dX10_bounded_32 : (decode cX10_bounded 32 = .ok (.lconst 0, 1)) ∧ (decode cX10_bounded 33 = .ok (.goto 4, 3)) ∧ (decode cX10_bounded 36 = .ok (.lload_n 1, 1)) ∧ (decode cX10_bounded 37 = .ok (.lreturn, 1)) := by decide +kernel
theorem dX10_bounded_32 : decode cX10_bounded 32 = .ok (.lconst 0, 1) := da9_dX10_bounded_32.1
theorem dX10_bounded_33 : decode cX10_bounded 33 = .ok (.goto 4, 3) := da9_dX10_bounded_32.2.1
theorem dX10_bounded_36 : decode cX10_bounded 36 = .ok (.lload_n 1, 1) := da9_dX10_bounded_32.2.2.1
theorem dX10_bounded_37 : decode cX10_bounded 37 = .ok (.lreturn, 1) := da9_dX10_bounded_32.2.2.2
set_option maxRecDepth 20000 in
theorem ggX10_partOf_X10_sign : GoodIn wsX10_partOf wsX10_sign := wd_c vW10_ok mvW10_81
set_option maxRecDepth 20000 in
theorem gX10_partOf_X10_sign : GoodIn wsX10_partOf (va_wsS RX10 237 yX10_sign wsX10_sign) := goodIn_app (wd_l vW10_ok _ pvW10_171) ggX10_partOf_X10_sign
set_option maxRecDepth 20000 in
theorem ggX10_partOf_X10_passes0 : GoodIn wsX10_partOf wsX10_passes0 := wd_c vW10_ok mvW10_92
set_option maxRecDepth 20000 in
theorem gX10_partOf_X10_passes0 : GoodIn wsX10_partOf (wsV RX10 302 RX10 yX10_passes0 wsX10_passes0) := goodIn_app (wd_l vW10_ok _ pvW10_185) ggX10_partOf_X10_passes0
set_option maxRecDepth 20000 in
theorem ggX10_partOf_X10_sumOf : GoodIn wsX10_partOf wsX10_sumOf := wd_c vW10_ok mvW10_75
set_option maxRecDepth 20000 in
theorem gX10_partOf_X10_sumOf : GoodIn wsX10_partOf (wsV RX10 305 RX10 yX10_sumOf wsX10_sumOf) := goodIn_app (wd_l vW10_ok _ pvW10_186) ggX10_partOf_X10_sumOf
set_option maxRecDepth 20000 in
theorem ggX10_partOf_X10_codeAt : GoodIn wsX10_partOf wsX10_codeAt := wd_c vW10_ok mvW10_71
set_option maxRecDepth 20000 in
theorem gX10_partOf_X10_codeAt : GoodIn wsX10_partOf (wsV RX10 281 RX10 yX10_codeAt wsX10_codeAt) := goodIn_app (wd_l vW10_ok _ pvW10_181) ggX10_partOf_X10_codeAt
set_option maxRecDepth 20000 in
theorem ggX10_partOf_X10_orderValue : GoodIn wsX10_partOf wsX10_orderValue := wd_c vW10_ok mvW10_96
set_option maxRecDepth 20000 in
theorem gX10_partOf_X10_orderValue : GoodIn wsX10_partOf (wsV RX10 311 RX10 yX10_orderValue wsX10_orderValue) := goodIn_app (wd_l vW10_ok _ pvW10_187) ggX10_partOf_X10_orderValue
theorem da9_dX10_partOf_0 : (decode cX10_partOf 0 = .ok (.aload_n 0, 1)) ∧ (decode cX10_partOf 1 = .ok (.bipush 91, 2)) ∧ (decode cX10_partOf 3 = .ok (.invokestatic 237, 3)) ∧ (decode cX10_partOf 6 = .ok (.invokevirtual 302, 3)) ∧ (decode cX10_partOf 9 = .ok (.ifCond .eq 21, 3)) ∧ (decode cX10_partOf 12 = .ok (.aload_n 0, 1)) ∧ (decode cX10_partOf 13 = .ok (.iload_n 1, 1)) ∧ (decode cX10_partOf 14 = .ok (.invokevirtual 305, 3)) ∧ (decode cX10_partOf 17 = .ok (.lstore_n 2, 1)) ∧ (decode cX10_partOf 18 = .ok (.aload_n 0, 1)) ∧ (decode cX10_partOf 19 = .ok (.dup, 1)) ∧ (decode cX10_partOf 20 = .ok (.getfield 278, 3)) ∧ (decode cX10_partOf 23 = .ok (.iconst 1, 1)) ∧ (decode cX10_partOf 24 = .ok (.iadd, 1)) ∧ (decode cX10_partOf 25 = .ok (.putfield 278, 3)) ∧ (decode cX10_partOf 28 = .ok (.lload_n 2, 1)) := by decide +kernel
theorem dX10_partOf_0 : decode cX10_partOf 0 = .ok (.aload_n 0, 1) := da9_dX10_partOf_0.1
theorem dX10_partOf_1 : decode cX10_partOf 1 = .ok (.bipush 91, 2) := da9_dX10_partOf_0.2.1
theorem dX10_partOf_3 : decode cX10_partOf 3 = .ok (.invokestatic 237, 3) := da9_dX10_partOf_0.2.2.1
theorem dX10_partOf_6 : decode cX10_partOf 6 = .ok (.invokevirtual 302, 3) := da9_dX10_partOf_0.2.2.2.1
theorem dX10_partOf_9 : decode cX10_partOf 9 = .ok (.ifCond .eq 21, 3) := da9_dX10_partOf_0.2.2.2.2.1
theorem dX10_partOf_12 : decode cX10_partOf 12 = .ok (.aload_n 0, 1) := da9_dX10_partOf_0.2.2.2.2.2.1
theorem dX10_partOf_13 : decode cX10_partOf 13 = .ok (.iload_n 1, 1) := da9_dX10_partOf_0.2.2.2.2.2.2.1
theorem dX10_partOf_14 : decode cX10_partOf 14 = .ok (.invokevirtual 305, 3) := da9_dX10_partOf_0.2.2.2.2.2.2.2.1
theorem dX10_partOf_17 : decode cX10_partOf 17 = .ok (.lstore_n 2, 1) := da9_dX10_partOf_0.2.2.2.2.2.2.2.2.1
theorem dX10_partOf_18 : decode cX10_partOf 18 = .ok (.aload_n 0, 1) := da9_dX10_partOf_0.2.2.2.2.2.2.2.2.2.1
theorem dX10_partOf_19 : decode cX10_partOf 19 = .ok (.dup, 1) := da9_dX10_partOf_0.2.2.2.2.2.2.2.2.2.2.1
theorem dX10_partOf_20 : decode cX10_partOf 20 = .ok (.getfield 278, 3) := da9_dX10_partOf_0.2.2.2.2.2.2.2.2.2.2.2.1
theorem dX10_partOf_23 : decode cX10_partOf 23 = .ok (.iconst 1, 1) := da9_dX10_partOf_0.2.2.2.2.2.2.2.2.2.2.2.2.1
theorem dX10_partOf_24 : decode cX10_partOf 24 = .ok (.iadd, 1) := da9_dX10_partOf_0.2.2.2.2.2.2.2.2.2.2.2.2.2.1
theorem dX10_partOf_25 : decode cX10_partOf 25 = .ok (.putfield 278, 3) := da9_dX10_partOf_0.2.2.2.2.2.2.2.2.2.2.2.2.2.2.1
theorem dX10_partOf_28 : decode cX10_partOf 28 = .ok (.lload_n 2, 1) := da9_dX10_partOf_0.2.2.2.2.2.2.2.2.2.2.2.2.2.2.2
theorem da9_dX10_partOf_29 : (decode cX10_partOf 29 = .ok (.lreturn, 1)) ∧ (decode cX10_partOf 30 = .ok (.aload_n 0, 1)) ∧ (decode cX10_partOf 31 = .ok (.aload_n 0, 1)) ∧ (decode cX10_partOf 32 = .ok (.getfield 278, 3)) ∧ (decode cX10_partOf 35 = .ok (.invokevirtual 281, 3)) ∧ (decode cX10_partOf 38 = .ok (.istore_n 2, 1)) ∧ (decode cX10_partOf 39 = .ok (.iconst 0, 1)) ∧ (decode cX10_partOf 40 = .ok (.istore_n 3, 1)) ∧ (decode cX10_partOf 41 = .ok (.aload_n 0, 1)) ∧ (decode cX10_partOf 42 = .ok (.dup, 1)) ∧ (decode cX10_partOf 43 = .ok (.getfield 278, 3)) ∧ (decode cX10_partOf 46 = .ok (.iconst 1, 1)) ∧ (decode cX10_partOf 47 = .ok (.iadd, 1)) ∧ (decode cX10_partOf 48 = .ok (.putfield 278, 3)) ∧ (decode cX10_partOf 51 = .ok (.aload_n 0, 1)) ∧ (decode cX10_partOf 52 = .ok (.getfield 308, 3)) := by decide +kernel
theorem dX10_partOf_29 : decode cX10_partOf 29 = .ok (.lreturn, 1) := da9_dX10_partOf_29.1
theorem dX10_partOf_30 : decode cX10_partOf 30 = .ok (.aload_n 0, 1) := da9_dX10_partOf_29.2.1
theorem dX10_partOf_31 : decode cX10_partOf 31 = .ok (.aload_n 0, 1) := da9_dX10_partOf_29.2.2.1
theorem dX10_partOf_32 : decode cX10_partOf 32 = .ok (.getfield 278, 3) := da9_dX10_partOf_29.2.2.2.1
theorem dX10_partOf_35 : decode cX10_partOf 35 = .ok (.invokevirtual 281, 3) := da9_dX10_partOf_29.2.2.2.2.1
theorem dX10_partOf_38 : decode cX10_partOf 38 = .ok (.istore_n 2, 1) := da9_dX10_partOf_29.2.2.2.2.2.1
theorem dX10_partOf_39 : decode cX10_partOf 39 = .ok (.iconst 0, 1) := da9_dX10_partOf_29.2.2.2.2.2.2.1
theorem dX10_partOf_40 : decode cX10_partOf 40 = .ok (.istore_n 3, 1) := da9_dX10_partOf_29.2.2.2.2.2.2.2.1
theorem dX10_partOf_41 : decode cX10_partOf 41 = .ok (.aload_n 0, 1) := da9_dX10_partOf_29.2.2.2.2.2.2.2.2.1
theorem dX10_partOf_42 : decode cX10_partOf 42 = .ok (.dup, 1) := da9_dX10_partOf_29.2.2.2.2.2.2.2.2.2.1
theorem dX10_partOf_43 : decode cX10_partOf 43 = .ok (.getfield 278, 3) := da9_dX10_partOf_29.2.2.2.2.2.2.2.2.2.2.1
theorem dX10_partOf_46 : decode cX10_partOf 46 = .ok (.iconst 1, 1) := da9_dX10_partOf_29.2.2.2.2.2.2.2.2.2.2.2.1
theorem dX10_partOf_47 : decode cX10_partOf 47 = .ok (.iadd, 1) := da9_dX10_partOf_29.2.2.2.2.2.2.2.2.2.2.2.2.1
theorem dX10_partOf_48 : decode cX10_partOf 48 = .ok (.putfield 278, 3) := da9_dX10_partOf_29.2.2.2.2.2.2.2.2.2.2.2.2.2.1
theorem dX10_partOf_51 : decode cX10_partOf 51 = .ok (.aload_n 0, 1) := da9_dX10_partOf_29.2.2.2.2.2.2.2.2.2.2.2.2.2.2.1
theorem dX10_partOf_52 : decode cX10_partOf 52 = .ok (.getfield 308, 3) := da9_dX10_partOf_29.2.2.2.2.2.2.2.2.2.2.2.2.2.2.2
theorem da9_dX10_partOf_55 : (decode cX10_partOf 55 = .ok (.ifCond .eq 39, 3)) ∧ (decode cX10_partOf 58 = .ok (.iload_n 2, 1)) ∧ (decode cX10_partOf 59 = .ok (.bipush 21, 2)) ∧ (decode cX10_partOf 61 = .ok (.if_icmp .eq 9, 3)) ∧ (decode cX10_partOf 64 = .ok (.iload_n 2, 1)) ∧ (decode cX10_partOf 65 = .ok (.bipush 15, 2)) ∧ (decode cX10_partOf 67 = .ok (.if_icmp .ne 27, 3)) ∧ (decode cX10_partOf 70 = .ok (.aload_n 0, 1)) ∧ (decode cX10_partOf 71 = .ok (.getfield 28, 3)) ∧ (decode cX10_partOf 74 = .ok (.sipush 2840, 3)) ∧ (decode cX10_partOf 77 = .ok (.aload_n 0, 1)) ∧ (decode cX10_partOf 78 = .ok (.getfield 278, 3)) ∧ (decode cX10_partOf 81 = .ok (.iadd, 1)) ∧ (decode cX10_partOf 82 = .ok (.iaload, 1)) ∧ (decode cX10_partOf 83 = .ok (.istore_n 3, 1)) ∧ (decode cX10_partOf 84 = .ok (.aload_n 0, 1)) := by decide +kernel
theorem dX10_partOf_55 : decode cX10_partOf 55 = .ok (.ifCond .eq 39, 3) := da9_dX10_partOf_55.1
theorem dX10_partOf_58 : decode cX10_partOf 58 = .ok (.iload_n 2, 1) := da9_dX10_partOf_55.2.1
theorem dX10_partOf_59 : decode cX10_partOf 59 = .ok (.bipush 21, 2) := da9_dX10_partOf_55.2.2.1
theorem dX10_partOf_61 : decode cX10_partOf 61 = .ok (.if_icmp .eq 9, 3) := da9_dX10_partOf_55.2.2.2.1
theorem dX10_partOf_64 : decode cX10_partOf 64 = .ok (.iload_n 2, 1) := da9_dX10_partOf_55.2.2.2.2.1
theorem dX10_partOf_65 : decode cX10_partOf 65 = .ok (.bipush 15, 2) := da9_dX10_partOf_55.2.2.2.2.2.1
theorem dX10_partOf_67 : decode cX10_partOf 67 = .ok (.if_icmp .ne 27, 3) := da9_dX10_partOf_55.2.2.2.2.2.2.1
theorem dX10_partOf_70 : decode cX10_partOf 70 = .ok (.aload_n 0, 1) := da9_dX10_partOf_55.2.2.2.2.2.2.2.1
theorem dX10_partOf_71 : decode cX10_partOf 71 = .ok (.getfield 28, 3) := da9_dX10_partOf_55.2.2.2.2.2.2.2.2.1
theorem dX10_partOf_74 : decode cX10_partOf 74 = .ok (.sipush 2840, 3) := da9_dX10_partOf_55.2.2.2.2.2.2.2.2.2.1
theorem dX10_partOf_77 : decode cX10_partOf 77 = .ok (.aload_n 0, 1) := da9_dX10_partOf_55.2.2.2.2.2.2.2.2.2.2.1
theorem dX10_partOf_78 : decode cX10_partOf 78 = .ok (.getfield 278, 3) := da9_dX10_partOf_55.2.2.2.2.2.2.2.2.2.2.2.1
theorem dX10_partOf_81 : decode cX10_partOf 81 = .ok (.iadd, 1) := da9_dX10_partOf_55.2.2.2.2.2.2.2.2.2.2.2.2.1
theorem dX10_partOf_82 : decode cX10_partOf 82 = .ok (.iaload, 1) := da9_dX10_partOf_55.2.2.2.2.2.2.2.2.2.2.2.2.2.1
theorem dX10_partOf_83 : decode cX10_partOf 83 = .ok (.istore_n 3, 1) := da9_dX10_partOf_55.2.2.2.2.2.2.2.2.2.2.2.2.2.2.1
theorem dX10_partOf_84 : decode cX10_partOf 84 = .ok (.aload_n 0, 1) := da9_dX10_partOf_55.2.2.2.2.2.2.2.2.2.2.2.2.2.2.2
theorem da9_dX10_partOf_85 : (decode cX10_partOf 85 = .ok (.dup, 1)) ∧ (decode cX10_partOf 86 = .ok (.getfield 278, 3)) ∧ (decode cX10_partOf 89 = .ok (.iconst 1, 1)) ∧ (decode cX10_partOf 90 = .ok (.iadd, 1)) ∧ (decode cX10_partOf 91 = .ok (.putfield 278, 3)) ∧ (decode cX10_partOf 94 = .ok (.iload_n 1, 1)) ∧ (decode cX10_partOf 95 = .ok (.ifCond .eq 10, 3)) ∧ (decode cX10_partOf 98 = .ok (.aload_n 0, 1)) ∧ (decode cX10_partOf 99 = .ok (.getfield 288, 3)) ∧ (decode cX10_partOf 102 = .ok (.ifCond .eq 5, 3)) ∧ (decode cX10_partOf 105 = .ok (.lconst 0, 1)) ∧ (decode cX10_partOf 106 = .ok (.lreturn, 1)) ∧ (decode cX10_partOf 107 = .ok (.iload_n 2, 1)) ∧ (decode cX10_partOf 108 = .ok (.bipush 50, 2)) ∧ (decode cX10_partOf 110 = .ok (.if_icmp .ne 20, 3)) ∧ (decode cX10_partOf 113 = .ok (.aload_n 0, 1)) := by decide +kernel
theorem dX10_partOf_85 : decode cX10_partOf 85 = .ok (.dup, 1) := da9_dX10_partOf_85.1
theorem dX10_partOf_86 : decode cX10_partOf 86 = .ok (.getfield 278, 3) := da9_dX10_partOf_85.2.1
theorem dX10_partOf_89 : decode cX10_partOf 89 = .ok (.iconst 1, 1) := da9_dX10_partOf_85.2.2.1
theorem dX10_partOf_90 : decode cX10_partOf 90 = .ok (.iadd, 1) := da9_dX10_partOf_85.2.2.2.1
theorem dX10_partOf_91 : decode cX10_partOf 91 = .ok (.putfield 278, 3) := da9_dX10_partOf_85.2.2.2.2.1
theorem dX10_partOf_94 : decode cX10_partOf 94 = .ok (.iload_n 1, 1) := da9_dX10_partOf_85.2.2.2.2.2.1
theorem dX10_partOf_95 : decode cX10_partOf 95 = .ok (.ifCond .eq 10, 3) := da9_dX10_partOf_85.2.2.2.2.2.2.1
theorem dX10_partOf_98 : decode cX10_partOf 98 = .ok (.aload_n 0, 1) := da9_dX10_partOf_85.2.2.2.2.2.2.2.1
theorem dX10_partOf_99 : decode cX10_partOf 99 = .ok (.getfield 288, 3) := da9_dX10_partOf_85.2.2.2.2.2.2.2.2.1
theorem dX10_partOf_102 : decode cX10_partOf 102 = .ok (.ifCond .eq 5, 3) := da9_dX10_partOf_85.2.2.2.2.2.2.2.2.2.1
theorem dX10_partOf_105 : decode cX10_partOf 105 = .ok (.lconst 0, 1) := da9_dX10_partOf_85.2.2.2.2.2.2.2.2.2.2.1
theorem dX10_partOf_106 : decode cX10_partOf 106 = .ok (.lreturn, 1) := da9_dX10_partOf_85.2.2.2.2.2.2.2.2.2.2.2.1
theorem dX10_partOf_107 : decode cX10_partOf 107 = .ok (.iload_n 2, 1) := da9_dX10_partOf_85.2.2.2.2.2.2.2.2.2.2.2.2.1
theorem dX10_partOf_108 : decode cX10_partOf 108 = .ok (.bipush 50, 2) := da9_dX10_partOf_85.2.2.2.2.2.2.2.2.2.2.2.2.2.1
theorem dX10_partOf_110 : decode cX10_partOf 110 = .ok (.if_icmp .ne 20, 3) := da9_dX10_partOf_85.2.2.2.2.2.2.2.2.2.2.2.2.2.2.1
theorem dX10_partOf_113 : decode cX10_partOf 113 = .ok (.aload_n 0, 1) := da9_dX10_partOf_85.2.2.2.2.2.2.2.2.2.2.2.2.2.2.2
theorem da9_dX10_partOf_114 : (decode cX10_partOf 114 = .ok (.getfield 28, 3)) ∧ (decode cX10_partOf 117 = .ok (.sipush 2840, 3)) ∧ (decode cX10_partOf 120 = .ok (.aload_n 0, 1)) ∧ (decode cX10_partOf 121 = .ok (.getfield 278, 3)) ∧ (decode cX10_partOf 124 = .ok (.iadd, 1)) ∧ (decode cX10_partOf 125 = .ok (.iconst 1, 1)) ∧ (decode cX10_partOf 126 = .ok (.isub, 1)) ∧ (decode cX10_partOf 127 = .ok (.iaload, 1)) ∧ (decode cX10_partOf 128 = .ok (.i2l, 1)) ∧ (decode cX10_partOf 129 = .ok (.lreturn, 1)) ∧ (decode cX10_partOf 130 = .ok (.aload_n 0, 1)) ∧ (decode cX10_partOf 131 = .ok (.getfield 308, 3)) ∧ (decode cX10_partOf 134 = .ok (.ifCond .eq 13, 3)) ∧ (decode cX10_partOf 137 = .ok (.aload_n 0, 1)) ∧ (decode cX10_partOf 138 = .ok (.iload_n 2, 1)) ∧ (decode cX10_partOf 139 = .ok (.iload_n 3, 1)) := by decide +kernel
theorem dX10_partOf_114 : decode cX10_partOf 114 = .ok (.getfield 28, 3) := da9_dX10_partOf_114.1
theorem dX10_partOf_117 : decode cX10_partOf 117 = .ok (.sipush 2840, 3) := da9_dX10_partOf_114.2.1
theorem dX10_partOf_120 : decode cX10_partOf 120 = .ok (.aload_n 0, 1) := da9_dX10_partOf_114.2.2.1
theorem dX10_partOf_121 : decode cX10_partOf 121 = .ok (.getfield 278, 3) := da9_dX10_partOf_114.2.2.2.1
theorem dX10_partOf_124 : decode cX10_partOf 124 = .ok (.iadd, 1) := da9_dX10_partOf_114.2.2.2.2.1
theorem dX10_partOf_125 : decode cX10_partOf 125 = .ok (.iconst 1, 1) := da9_dX10_partOf_114.2.2.2.2.2.1
theorem dX10_partOf_126 : decode cX10_partOf 126 = .ok (.isub, 1) := da9_dX10_partOf_114.2.2.2.2.2.2.1
theorem dX10_partOf_127 : decode cX10_partOf 127 = .ok (.iaload, 1) := da9_dX10_partOf_114.2.2.2.2.2.2.2.1
theorem dX10_partOf_128 : decode cX10_partOf 128 = .ok (.i2l, 1) := da9_dX10_partOf_114.2.2.2.2.2.2.2.2.1
theorem dX10_partOf_129 : decode cX10_partOf 129 = .ok (.lreturn, 1) := da9_dX10_partOf_114.2.2.2.2.2.2.2.2.2.1
theorem dX10_partOf_130 : decode cX10_partOf 130 = .ok (.aload_n 0, 1) := da9_dX10_partOf_114.2.2.2.2.2.2.2.2.2.2.1
theorem dX10_partOf_131 : decode cX10_partOf 131 = .ok (.getfield 308, 3) := da9_dX10_partOf_114.2.2.2.2.2.2.2.2.2.2.2.1
theorem dX10_partOf_134 : decode cX10_partOf 134 = .ok (.ifCond .eq 13, 3) := da9_dX10_partOf_114.2.2.2.2.2.2.2.2.2.2.2.2.1
theorem dX10_partOf_137 : decode cX10_partOf 137 = .ok (.aload_n 0, 1) := da9_dX10_partOf_114.2.2.2.2.2.2.2.2.2.2.2.2.2.1
theorem dX10_partOf_138 : decode cX10_partOf 138 = .ok (.iload_n 2, 1) := da9_dX10_partOf_114.2.2.2.2.2.2.2.2.2.2.2.2.2.2.1
theorem dX10_partOf_139 : decode cX10_partOf 139 = .ok (.iload_n 3, 1) := da9_dX10_partOf_114.2.2.2.2.2.2.2.2.2.2.2.2.2.2.2
theorem da9_dX10_partOf_140 : (decode cX10_partOf 140 = .ok (.invokevirtual 311, 3)) ∧ (decode cX10_partOf 143 = .ok (.i2l, 1)) ∧ (decode cX10_partOf 144 = .ok (.goto 13, 3)) ∧ (decode cX10_partOf 147 = .ok (.aload_n 0, 1)) ∧ (decode cX10_partOf 148 = .ok (.getfield 63, 3)) ∧ (decode cX10_partOf 151 = .ok (.iload_n 2, 1)) ∧ (decode cX10_partOf 152 = .ok (.bipush 8, 2)) ∧ (decode cX10_partOf 154 = .ok (.isub, 1)) ∧ (decode cX10_partOf 155 = .ok (.iaload, 1)) ∧ (decode cX10_partOf 156 = .ok (.i2l, 1)) ∧ (decode cX10_partOf 157 = .ok (.lreturn, 1)) := by decide +kernel
theorem dX10_partOf_140 : decode cX10_partOf 140 = .ok (.invokevirtual 311, 3) := da9_dX10_partOf_140.1
theorem dX10_partOf_143 : decode cX10_partOf 143 = .ok (.i2l, 1) := da9_dX10_partOf_140.2.1
theorem dX10_partOf_144 : decode cX10_partOf 144 = .ok (.goto 13, 3) := da9_dX10_partOf_140.2.2.1
theorem dX10_partOf_147 : decode cX10_partOf 147 = .ok (.aload_n 0, 1) := da9_dX10_partOf_140.2.2.2.1
theorem dX10_partOf_148 : decode cX10_partOf 148 = .ok (.getfield 63, 3) := da9_dX10_partOf_140.2.2.2.2.1
theorem dX10_partOf_151 : decode cX10_partOf 151 = .ok (.iload_n 2, 1) := da9_dX10_partOf_140.2.2.2.2.2.1
theorem dX10_partOf_152 : decode cX10_partOf 152 = .ok (.bipush 8, 2) := da9_dX10_partOf_140.2.2.2.2.2.2.1
theorem dX10_partOf_154 : decode cX10_partOf 154 = .ok (.isub, 1) := da9_dX10_partOf_140.2.2.2.2.2.2.2.1
theorem dX10_partOf_155 : decode cX10_partOf 155 = .ok (.iaload, 1) := da9_dX10_partOf_140.2.2.2.2.2.2.2.2.1
theorem dX10_partOf_156 : decode cX10_partOf 156 = .ok (.i2l, 1) := da9_dX10_partOf_140.2.2.2.2.2.2.2.2.2.1
theorem dX10_partOf_157 : decode cX10_partOf 157 = .ok (.lreturn, 1) := da9_dX10_partOf_140.2.2.2.2.2.2.2.2.2.2
set_option maxRecDepth 20000 in
theorem ggX10_orderValue_X10_isPlace : GoodIn wsX10_orderValue wsX10_isPlace := wd_c vW10_ok mvW10_41
set_option maxRecDepth 20000 in
theorem gX10_orderValue_X10_isPlace : GoodIn wsX10_orderValue (wsV RX10 143 RX10 yX10_isPlace wsX10_isPlace) := goodIn_app (wd_l vW10_ok _ pvW10_149) ggX10_orderValue_X10_isPlace
set_option maxRecDepth 20000 in
theorem ggX10_orderValue_X10_gaps : GoodIn wsX10_orderValue wsX10_gaps := wd_c vW10_ok mvW10_102
set_option maxRecDepth 20000 in
theorem gX10_orderValue_X10_gaps : GoodIn wsX10_orderValue (wsV RX10 320 RX10 yX10_gaps wsX10_gaps) := goodIn_app (wd_l vW10_ok _ pvW10_188) ggX10_orderValue_X10_gaps
theorem da9_dX10_orderValue_0 : (decode cX10_orderValue 0 = .ok (.iload_n 1, 1)) ∧ (decode cX10_orderValue 1 = .ok (.tableswitch 112 15 21 #[43, 86, 94, 99, 104, 112, 65], 43)) ∧ (decode cX10_orderValue 44 = .ok (.aload_n 0, 1)) ∧ (decode cX10_orderValue 45 = .ok (.iload_n 2, 1)) ∧ (decode cX10_orderValue 46 = .ok (.invokevirtual 143, 3)) ∧ (decode cX10_orderValue 49 = .ok (.ifCond .eq 15, 3)) ∧ (decode cX10_orderValue 52 = .ok (.aload_n 0, 1)) ∧ (decode cX10_orderValue 53 = .ok (.getfield 28, 3)) ∧ (decode cX10_orderValue 56 = .ok (.bipush 6, 2)) ∧ (decode cX10_orderValue 58 = .ok (.iload_n 2, 1)) ∧ (decode cX10_orderValue 59 = .ok (.iadd, 1)) ∧ (decode cX10_orderValue 60 = .ok (.iaload, 1)) ∧ (decode cX10_orderValue 61 = .ok (.goto 4, 3)) ∧ (decode cX10_orderValue 64 = .ok (.iconst (-1), 1)) ∧ (decode cX10_orderValue 65 = .ok (.ireturn, 1)) ∧ (decode cX10_orderValue 66 = .ok (.aload_n 0, 1)) := by decide +kernel
theorem dX10_orderValue_0 : decode cX10_orderValue 0 = .ok (.iload_n 1, 1) := da9_dX10_orderValue_0.1
theorem dX10_orderValue_1 : decode cX10_orderValue 1 = .ok (.tableswitch 112 15 21 #[43, 86, 94, 99, 104, 112, 65], 43) := da9_dX10_orderValue_0.2.1
theorem dX10_orderValue_44 : decode cX10_orderValue 44 = .ok (.aload_n 0, 1) := da9_dX10_orderValue_0.2.2.1
theorem dX10_orderValue_45 : decode cX10_orderValue 45 = .ok (.iload_n 2, 1) := da9_dX10_orderValue_0.2.2.2.1
theorem dX10_orderValue_46 : decode cX10_orderValue 46 = .ok (.invokevirtual 143, 3) := da9_dX10_orderValue_0.2.2.2.2.1
theorem dX10_orderValue_49 : decode cX10_orderValue 49 = .ok (.ifCond .eq 15, 3) := da9_dX10_orderValue_0.2.2.2.2.2.1
theorem dX10_orderValue_52 : decode cX10_orderValue 52 = .ok (.aload_n 0, 1) := da9_dX10_orderValue_0.2.2.2.2.2.2.1
theorem dX10_orderValue_53 : decode cX10_orderValue 53 = .ok (.getfield 28, 3) := da9_dX10_orderValue_0.2.2.2.2.2.2.2.1
theorem dX10_orderValue_56 : decode cX10_orderValue 56 = .ok (.bipush 6, 2) := da9_dX10_orderValue_0.2.2.2.2.2.2.2.2.1
theorem dX10_orderValue_58 : decode cX10_orderValue 58 = .ok (.iload_n 2, 1) := da9_dX10_orderValue_0.2.2.2.2.2.2.2.2.2.1
theorem dX10_orderValue_59 : decode cX10_orderValue 59 = .ok (.iadd, 1) := da9_dX10_orderValue_0.2.2.2.2.2.2.2.2.2.2.1
theorem dX10_orderValue_60 : decode cX10_orderValue 60 = .ok (.iaload, 1) := da9_dX10_orderValue_0.2.2.2.2.2.2.2.2.2.2.2.1
theorem dX10_orderValue_61 : decode cX10_orderValue 61 = .ok (.goto 4, 3) := da9_dX10_orderValue_0.2.2.2.2.2.2.2.2.2.2.2.2.1
theorem dX10_orderValue_64 : decode cX10_orderValue 64 = .ok (.iconst (-1), 1) := da9_dX10_orderValue_0.2.2.2.2.2.2.2.2.2.2.2.2.2.1
theorem dX10_orderValue_65 : decode cX10_orderValue 65 = .ok (.ireturn, 1) := da9_dX10_orderValue_0.2.2.2.2.2.2.2.2.2.2.2.2.2.2.1
theorem dX10_orderValue_66 : decode cX10_orderValue 66 = .ok (.aload_n 0, 1) := da9_dX10_orderValue_0.2.2.2.2.2.2.2.2.2.2.2.2.2.2.2
theorem da9_dX10_orderValue_67 : (decode cX10_orderValue 67 = .ok (.iload_n 2, 1)) ∧ (decode cX10_orderValue 68 = .ok (.invokevirtual 143, 3)) ∧ (decode cX10_orderValue 71 = .ok (.ifCond .eq 14, 3)) ∧ (decode cX10_orderValue 74 = .ok (.aload_n 0, 1)) ∧ (decode cX10_orderValue 75 = .ok (.getfield 28, 3)) ∧ (decode cX10_orderValue 78 = .ok (.iconst 0, 1)) ∧ (decode cX10_orderValue 79 = .ok (.iload_n 2, 1)) ∧ (decode cX10_orderValue 80 = .ok (.iadd, 1)) ∧ (decode cX10_orderValue 81 = .ok (.iaload, 1)) ∧ (decode cX10_orderValue 82 = .ok (.goto 4, 3)) ∧ (decode cX10_orderValue 85 = .ok (.iconst (-1), 1)) ∧ (decode cX10_orderValue 86 = .ok (.ireturn, 1)) ∧ (decode cX10_orderValue 87 = .ok (.aload_n 0, 1)) ∧ (decode cX10_orderValue 88 = .ok (.getfield 28, 3)) ∧ (decode cX10_orderValue 91 = .ok (.bipush 13, 2)) ∧ (decode cX10_orderValue 93 = .ok (.iaload, 1)) := by decide +kernel
theorem dX10_orderValue_67 : decode cX10_orderValue 67 = .ok (.iload_n 2, 1) := da9_dX10_orderValue_67.1
theorem dX10_orderValue_68 : decode cX10_orderValue 68 = .ok (.invokevirtual 143, 3) := da9_dX10_orderValue_67.2.1
theorem dX10_orderValue_71 : decode cX10_orderValue 71 = .ok (.ifCond .eq 14, 3) := da9_dX10_orderValue_67.2.2.1
theorem dX10_orderValue_74 : decode cX10_orderValue 74 = .ok (.aload_n 0, 1) := da9_dX10_orderValue_67.2.2.2.1
theorem dX10_orderValue_75 : decode cX10_orderValue 75 = .ok (.getfield 28, 3) := da9_dX10_orderValue_67.2.2.2.2.1
theorem dX10_orderValue_78 : decode cX10_orderValue 78 = .ok (.iconst 0, 1) := da9_dX10_orderValue_67.2.2.2.2.2.1
theorem dX10_orderValue_79 : decode cX10_orderValue 79 = .ok (.iload_n 2, 1) := da9_dX10_orderValue_67.2.2.2.2.2.2.1
theorem dX10_orderValue_80 : decode cX10_orderValue 80 = .ok (.iadd, 1) := da9_dX10_orderValue_67.2.2.2.2.2.2.2.1
theorem dX10_orderValue_81 : decode cX10_orderValue 81 = .ok (.iaload, 1) := da9_dX10_orderValue_67.2.2.2.2.2.2.2.2.1
theorem dX10_orderValue_82 : decode cX10_orderValue 82 = .ok (.goto 4, 3) := da9_dX10_orderValue_67.2.2.2.2.2.2.2.2.2.1
theorem dX10_orderValue_85 : decode cX10_orderValue 85 = .ok (.iconst (-1), 1) := da9_dX10_orderValue_67.2.2.2.2.2.2.2.2.2.2.1
theorem dX10_orderValue_86 : decode cX10_orderValue 86 = .ok (.ireturn, 1) := da9_dX10_orderValue_67.2.2.2.2.2.2.2.2.2.2.2.1
theorem dX10_orderValue_87 : decode cX10_orderValue 87 = .ok (.aload_n 0, 1) := da9_dX10_orderValue_67.2.2.2.2.2.2.2.2.2.2.2.2.1
theorem dX10_orderValue_88 : decode cX10_orderValue 88 = .ok (.getfield 28, 3) := da9_dX10_orderValue_67.2.2.2.2.2.2.2.2.2.2.2.2.2.1
theorem dX10_orderValue_91 : decode cX10_orderValue 91 = .ok (.bipush 13, 2) := da9_dX10_orderValue_67.2.2.2.2.2.2.2.2.2.2.2.2.2.2.1
theorem dX10_orderValue_93 : decode cX10_orderValue 93 = .ok (.iaload, 1) := da9_dX10_orderValue_67.2.2.2.2.2.2.2.2.2.2.2.2.2.2.2
theorem da9_dX10_orderValue_94 : (decode cX10_orderValue 94 = .ok (.ireturn, 1)) ∧ (decode cX10_orderValue 95 = .ok (.aload_n 0, 1)) ∧ (decode cX10_orderValue 96 = .ok (.getfield 314, 3)) ∧ (decode cX10_orderValue 99 = .ok (.ireturn, 1)) ∧ (decode cX10_orderValue 100 = .ok (.aload_n 0, 1)) ∧ (decode cX10_orderValue 101 = .ok (.getfield 317, 3)) ∧ (decode cX10_orderValue 104 = .ok (.ireturn, 1)) ∧ (decode cX10_orderValue 105 = .ok (.aload_n 0, 1)) ∧ (decode cX10_orderValue 106 = .ok (.getfield 28, 3)) ∧ (decode cX10_orderValue 109 = .ok (.bipush 12, 2)) ∧ (decode cX10_orderValue 111 = .ok (.iaload, 1)) ∧ (decode cX10_orderValue 112 = .ok (.ireturn, 1)) ∧ (decode cX10_orderValue 113 = .ok (.aload_n 0, 1)) ∧ (decode cX10_orderValue 114 = .ok (.invokevirtual 320, 3)) ∧ (decode cX10_orderValue 117 = .ok (.ireturn, 1)) := by decide +kernel
theorem dX10_orderValue_94 : decode cX10_orderValue 94 = .ok (.ireturn, 1) := da9_dX10_orderValue_94.1
theorem dX10_orderValue_95 : decode cX10_orderValue 95 = .ok (.aload_n 0, 1) := da9_dX10_orderValue_94.2.1
theorem dX10_orderValue_96 : decode cX10_orderValue 96 = .ok (.getfield 314, 3) := da9_dX10_orderValue_94.2.2.1
theorem dX10_orderValue_99 : decode cX10_orderValue 99 = .ok (.ireturn, 1) := da9_dX10_orderValue_94.2.2.2.1
theorem dX10_orderValue_100 : decode cX10_orderValue 100 = .ok (.aload_n 0, 1) := da9_dX10_orderValue_94.2.2.2.2.1
theorem dX10_orderValue_101 : decode cX10_orderValue 101 = .ok (.getfield 317, 3) := da9_dX10_orderValue_94.2.2.2.2.2.1
theorem dX10_orderValue_104 : decode cX10_orderValue 104 = .ok (.ireturn, 1) := da9_dX10_orderValue_94.2.2.2.2.2.2.1
theorem dX10_orderValue_105 : decode cX10_orderValue 105 = .ok (.aload_n 0, 1) := da9_dX10_orderValue_94.2.2.2.2.2.2.2.1
theorem dX10_orderValue_106 : decode cX10_orderValue 106 = .ok (.getfield 28, 3) := da9_dX10_orderValue_94.2.2.2.2.2.2.2.2.1
theorem dX10_orderValue_109 : decode cX10_orderValue 109 = .ok (.bipush 12, 2) := da9_dX10_orderValue_94.2.2.2.2.2.2.2.2.2.1
theorem dX10_orderValue_111 : decode cX10_orderValue 111 = .ok (.iaload, 1) := da9_dX10_orderValue_94.2.2.2.2.2.2.2.2.2.2.1
theorem dX10_orderValue_112 : decode cX10_orderValue 112 = .ok (.ireturn, 1) := da9_dX10_orderValue_94.2.2.2.2.2.2.2.2.2.2.2.1
theorem dX10_orderValue_113 : decode cX10_orderValue 113 = .ok (.aload_n 0, 1) := da9_dX10_orderValue_94.2.2.2.2.2.2.2.2.2.2.2.2.1
theorem dX10_orderValue_114 : decode cX10_orderValue 114 = .ok (.invokevirtual 320, 3) := da9_dX10_orderValue_94.2.2.2.2.2.2.2.2.2.2.2.2.2.1
theorem dX10_orderValue_117 : decode cX10_orderValue 117 = .ok (.ireturn, 1) := da9_dX10_orderValue_94.2.2.2.2.2.2.2.2.2.2.2.2.2.2
set_option maxRecDepth 20000 in
theorem ggX10_setsFloor_X10_setsAsked : GoodIn wsX10_setsFloor wsX10_setsAsked := wd_c vW10_ok mvW10_54
set_option maxRecDepth 20000 in
theorem gX10_setsFloor_X10_setsAsked : GoodIn wsX10_setsFloor (wsV RX10 335 RX10 yX10_setsAsked wsX10_setsAsked) := goodIn_app (wd_l vW10_ok _ pvW10_193) ggX10_setsFloor_X10_setsAsked
theorem da9_dX10_setsFloor_0 : (decode cX10_setsFloor 0 = .ok (.aload_n 0, 1)) ∧ (decode cX10_setsFloor 1 = .ok (.getfield 63, 3)) ∧ (decode cX10_setsFloor 4 = .ok (.iconst 0, 1)) ∧ (decode cX10_setsFloor 5 = .ok (.iconst (-1), 1)) ∧ (decode cX10_setsFloor 6 = .ok (.iastore, 1)) ∧ (decode cX10_setsFloor 7 = .ok (.aload_n 0, 1)) ∧ (decode cX10_setsFloor 8 = .ok (.getfield 63, 3)) ∧ (decode cX10_setsFloor 11 = .ok (.iconst 1, 1)) ∧ (decode cX10_setsFloor 12 = .ok (.iconst (-1), 1)) ∧ (decode cX10_setsFloor 13 = .ok (.iastore, 1)) ∧ (decode cX10_setsFloor 14 = .ok (.aload_n 0, 1)) ∧ (decode cX10_setsFloor 15 = .ok (.getfield 63, 3)) ∧ (decode cX10_setsFloor 18 = .ok (.iconst 2, 1)) ∧ (decode cX10_setsFloor 19 = .ok (.iconst (-1), 1)) ∧ (decode cX10_setsFloor 20 = .ok (.iastore, 1)) ∧ (decode cX10_setsFloor 21 = .ok (.aload_n 0, 1)) := by decide +kernel
theorem dX10_setsFloor_0 : decode cX10_setsFloor 0 = .ok (.aload_n 0, 1) := da9_dX10_setsFloor_0.1
theorem dX10_setsFloor_1 : decode cX10_setsFloor 1 = .ok (.getfield 63, 3) := da9_dX10_setsFloor_0.2.1
theorem dX10_setsFloor_4 : decode cX10_setsFloor 4 = .ok (.iconst 0, 1) := da9_dX10_setsFloor_0.2.2.1
theorem dX10_setsFloor_5 : decode cX10_setsFloor 5 = .ok (.iconst (-1), 1) := da9_dX10_setsFloor_0.2.2.2.1
theorem dX10_setsFloor_6 : decode cX10_setsFloor 6 = .ok (.iastore, 1) := da9_dX10_setsFloor_0.2.2.2.2.1
theorem dX10_setsFloor_7 : decode cX10_setsFloor 7 = .ok (.aload_n 0, 1) := da9_dX10_setsFloor_0.2.2.2.2.2.1
theorem dX10_setsFloor_8 : decode cX10_setsFloor 8 = .ok (.getfield 63, 3) := da9_dX10_setsFloor_0.2.2.2.2.2.2.1
theorem dX10_setsFloor_11 : decode cX10_setsFloor 11 = .ok (.iconst 1, 1) := da9_dX10_setsFloor_0.2.2.2.2.2.2.2.1
theorem dX10_setsFloor_12 : decode cX10_setsFloor 12 = .ok (.iconst (-1), 1) := da9_dX10_setsFloor_0.2.2.2.2.2.2.2.2.1
theorem dX10_setsFloor_13 : decode cX10_setsFloor 13 = .ok (.iastore, 1) := da9_dX10_setsFloor_0.2.2.2.2.2.2.2.2.2.1
theorem dX10_setsFloor_14 : decode cX10_setsFloor 14 = .ok (.aload_n 0, 1) := da9_dX10_setsFloor_0.2.2.2.2.2.2.2.2.2.2.1
theorem dX10_setsFloor_15 : decode cX10_setsFloor 15 = .ok (.getfield 63, 3) := da9_dX10_setsFloor_0.2.2.2.2.2.2.2.2.2.2.2.1
theorem dX10_setsFloor_18 : decode cX10_setsFloor 18 = .ok (.iconst 2, 1) := da9_dX10_setsFloor_0.2.2.2.2.2.2.2.2.2.2.2.2.1
theorem dX10_setsFloor_19 : decode cX10_setsFloor 19 = .ok (.iconst (-1), 1) := da9_dX10_setsFloor_0.2.2.2.2.2.2.2.2.2.2.2.2.2.1
theorem dX10_setsFloor_20 : decode cX10_setsFloor 20 = .ok (.iastore, 1) := da9_dX10_setsFloor_0.2.2.2.2.2.2.2.2.2.2.2.2.2.2.1
theorem dX10_setsFloor_21 : decode cX10_setsFloor 21 = .ok (.aload_n 0, 1) := da9_dX10_setsFloor_0.2.2.2.2.2.2.2.2.2.2.2.2.2.2.2
theorem da9_dX10_setsFloor_22 : (decode cX10_setsFloor 22 = .ok (.aload_n 0, 1)) ∧ (decode cX10_setsFloor 23 = .ok (.getfield 28, 3)) ∧ (decode cX10_setsFloor 26 = .ok (.iconst 0, 1)) ∧ (decode cX10_setsFloor 27 = .ok (.iload_n 1, 1)) ∧ (decode cX10_setsFloor 28 = .ok (.iadd, 1)) ∧ (decode cX10_setsFloor 29 = .ok (.iaload, 1)) ∧ (decode cX10_setsFloor 30 = .ok (.iload_n 1, 1)) ∧ (decode cX10_setsFloor 31 = .ok (.aload_n 0, 1)) ∧ (decode cX10_setsFloor 32 = .ok (.getfield 28, 3)) ∧ (decode cX10_setsFloor 35 = .ok (.bipush 6, 2)) ∧ (decode cX10_setsFloor 37 = .ok (.iload_n 1, 1)) ∧ (decode cX10_setsFloor 38 = .ok (.iadd, 1)) ∧ (decode cX10_setsFloor 39 = .ok (.iaload, 1)) ∧ (decode cX10_setsFloor 40 = .ok (.invokevirtual 335, 3)) ∧ (decode cX10_setsFloor 43 = .ok (.return_, 1)) := by decide +kernel
theorem dX10_setsFloor_22 : decode cX10_setsFloor 22 = .ok (.aload_n 0, 1) := da9_dX10_setsFloor_22.1
theorem dX10_setsFloor_23 : decode cX10_setsFloor 23 = .ok (.getfield 28, 3) := da9_dX10_setsFloor_22.2.1
theorem dX10_setsFloor_26 : decode cX10_setsFloor 26 = .ok (.iconst 0, 1) := da9_dX10_setsFloor_22.2.2.1
theorem dX10_setsFloor_27 : decode cX10_setsFloor 27 = .ok (.iload_n 1, 1) := da9_dX10_setsFloor_22.2.2.2.1
theorem dX10_setsFloor_28 : decode cX10_setsFloor 28 = .ok (.iadd, 1) := da9_dX10_setsFloor_22.2.2.2.2.1
theorem dX10_setsFloor_29 : decode cX10_setsFloor 29 = .ok (.iaload, 1) := da9_dX10_setsFloor_22.2.2.2.2.2.1
theorem dX10_setsFloor_30 : decode cX10_setsFloor 30 = .ok (.iload_n 1, 1) := da9_dX10_setsFloor_22.2.2.2.2.2.2.1
theorem dX10_setsFloor_31 : decode cX10_setsFloor 31 = .ok (.aload_n 0, 1) := da9_dX10_setsFloor_22.2.2.2.2.2.2.2.1
theorem dX10_setsFloor_32 : decode cX10_setsFloor 32 = .ok (.getfield 28, 3) := da9_dX10_setsFloor_22.2.2.2.2.2.2.2.2.1
theorem dX10_setsFloor_35 : decode cX10_setsFloor 35 = .ok (.bipush 6, 2) := da9_dX10_setsFloor_22.2.2.2.2.2.2.2.2.2.1
theorem dX10_setsFloor_37 : decode cX10_setsFloor 37 = .ok (.iload_n 1, 1) := da9_dX10_setsFloor_22.2.2.2.2.2.2.2.2.2.2.1
theorem dX10_setsFloor_38 : decode cX10_setsFloor 38 = .ok (.iadd, 1) := da9_dX10_setsFloor_22.2.2.2.2.2.2.2.2.2.2.2.1
theorem dX10_setsFloor_39 : decode cX10_setsFloor 39 = .ok (.iaload, 1) := da9_dX10_setsFloor_22.2.2.2.2.2.2.2.2.2.2.2.2.1
theorem dX10_setsFloor_40 : decode cX10_setsFloor 40 = .ok (.invokevirtual 335, 3) := da9_dX10_setsFloor_22.2.2.2.2.2.2.2.2.2.2.2.2.2.1
theorem dX10_setsFloor_43 : decode cX10_setsFloor 43 = .ok (.return_, 1) := da9_dX10_setsFloor_22.2.2.2.2.2.2.2.2.2.2.2.2.2.2
set_option maxRecDepth 20000 in
theorem ggX10_lessThan_X10_size : GoodIn wsX10_lessThan wsX10_size := wd_c vW10_ok mvW10_24
set_option maxRecDepth 20000 in
theorem gX10_lessThan_X10_size : GoodIn wsX10_lessThan (wsV RX10 125 RX10 yX10_size wsX10_size) := goodIn_app (wd_l vW10_ok _ pvW10_144) ggX10_lessThan_X10_size
theorem da9_dX10_lessThan_0 : (decode cX10_lessThan 0 = .ok (.iconst 0, 1)) ∧ (decode cX10_lessThan 1 = .ok (.istore_n 2, 1)) ∧ (decode cX10_lessThan 2 = .ok (.iconst 0, 1)) ∧ (decode cX10_lessThan 3 = .ok (.istore_n 3, 1)) ∧ (decode cX10_lessThan 4 = .ok (.iload_n 3, 1)) ∧ (decode cX10_lessThan 5 = .ok (.aload_n 0, 1)) ∧ (decode cX10_lessThan 6 = .ok (.invokevirtual 125, 3)) ∧ (decode cX10_lessThan 9 = .ok (.if_icmp .ge 29, 3)) ∧ (decode cX10_lessThan 12 = .ok (.iload_n 2, 1)) ∧ (decode cX10_lessThan 13 = .ok (.aload_n 0, 1)) ∧ (decode cX10_lessThan 14 = .ok (.getfield 28, 3)) ∧ (decode cX10_lessThan 17 = .ok (.iconst 0, 1)) ∧ (decode cX10_lessThan 18 = .ok (.iload_n 3, 1)) ∧ (decode cX10_lessThan 19 = .ok (.iadd, 1)) ∧ (decode cX10_lessThan 20 = .ok (.iaload, 1)) ∧ (decode cX10_lessThan 21 = .ok (.iload_n 1, 1)) := by decide +kernel
theorem dX10_lessThan_0 : decode cX10_lessThan 0 = .ok (.iconst 0, 1) := da9_dX10_lessThan_0.1
theorem dX10_lessThan_1 : decode cX10_lessThan 1 = .ok (.istore_n 2, 1) := da9_dX10_lessThan_0.2.1
theorem dX10_lessThan_2 : decode cX10_lessThan 2 = .ok (.iconst 0, 1) := da9_dX10_lessThan_0.2.2.1
theorem dX10_lessThan_3 : decode cX10_lessThan 3 = .ok (.istore_n 3, 1) := da9_dX10_lessThan_0.2.2.2.1
theorem dX10_lessThan_4 : decode cX10_lessThan 4 = .ok (.iload_n 3, 1) := da9_dX10_lessThan_0.2.2.2.2.1
theorem dX10_lessThan_5 : decode cX10_lessThan 5 = .ok (.aload_n 0, 1) := da9_dX10_lessThan_0.2.2.2.2.2.1
theorem dX10_lessThan_6 : decode cX10_lessThan 6 = .ok (.invokevirtual 125, 3) := da9_dX10_lessThan_0.2.2.2.2.2.2.1
theorem dX10_lessThan_9 : decode cX10_lessThan 9 = .ok (.if_icmp .ge 29, 3) := da9_dX10_lessThan_0.2.2.2.2.2.2.2.1
theorem dX10_lessThan_12 : decode cX10_lessThan 12 = .ok (.iload_n 2, 1) := da9_dX10_lessThan_0.2.2.2.2.2.2.2.2.1
theorem dX10_lessThan_13 : decode cX10_lessThan 13 = .ok (.aload_n 0, 1) := da9_dX10_lessThan_0.2.2.2.2.2.2.2.2.2.1
theorem dX10_lessThan_14 : decode cX10_lessThan 14 = .ok (.getfield 28, 3) := da9_dX10_lessThan_0.2.2.2.2.2.2.2.2.2.2.1
theorem dX10_lessThan_17 : decode cX10_lessThan 17 = .ok (.iconst 0, 1) := da9_dX10_lessThan_0.2.2.2.2.2.2.2.2.2.2.2.1
theorem dX10_lessThan_18 : decode cX10_lessThan 18 = .ok (.iload_n 3, 1) := da9_dX10_lessThan_0.2.2.2.2.2.2.2.2.2.2.2.2.1
theorem dX10_lessThan_19 : decode cX10_lessThan 19 = .ok (.iadd, 1) := da9_dX10_lessThan_0.2.2.2.2.2.2.2.2.2.2.2.2.2.1
theorem dX10_lessThan_20 : decode cX10_lessThan 20 = .ok (.iaload, 1) := da9_dX10_lessThan_0.2.2.2.2.2.2.2.2.2.2.2.2.2.2.1
theorem dX10_lessThan_21 : decode cX10_lessThan 21 = .ok (.iload_n 1, 1) := da9_dX10_lessThan_0.2.2.2.2.2.2.2.2.2.2.2.2.2.2.2
theorem da9_dX10_lessThan_22 : (decode cX10_lessThan 22 = .ok (.if_icmp .ge 7, 3)) ∧ (decode cX10_lessThan 25 = .ok (.iconst 1, 1)) ∧ (decode cX10_lessThan 26 = .ok (.goto 4, 3)) ∧ (decode cX10_lessThan 29 = .ok (.iconst 0, 1)) ∧ (decode cX10_lessThan 30 = .ok (.iadd, 1)) ∧ (decode cX10_lessThan 31 = .ok (.istore_n 2, 1)) ∧ (decode cX10_lessThan 32 = .ok (.iinc 3 1, 3)) ∧ (decode cX10_lessThan 35 = .ok (.goto (-31), 3)) ∧ (decode cX10_lessThan 38 = .ok (.iload_n 2, 1)) ∧ (decode cX10_lessThan 39 = .ok (.ireturn, 1)) := by decide +kernel
theorem dX10_lessThan_22 : decode cX10_lessThan 22 = .ok (.if_icmp .ge 7, 3) := da9_dX10_lessThan_22.1
theorem dX10_lessThan_25 : decode cX10_lessThan 25 = .ok (.iconst 1, 1) := da9_dX10_lessThan_22.2.1
theorem dX10_lessThan_26 : decode cX10_lessThan 26 = .ok (.goto 4, 3) := da9_dX10_lessThan_22.2.2.1
theorem dX10_lessThan_29 : decode cX10_lessThan 29 = .ok (.iconst 0, 1) := da9_dX10_lessThan_22.2.2.2.1
theorem dX10_lessThan_30 : decode cX10_lessThan 30 = .ok (.iadd, 1) := da9_dX10_lessThan_22.2.2.2.2.1
theorem dX10_lessThan_31 : decode cX10_lessThan 31 = .ok (.istore_n 2, 1) := da9_dX10_lessThan_22.2.2.2.2.2.1
theorem dX10_lessThan_32 : decode cX10_lessThan 32 = .ok (.iinc 3 1, 3) := da9_dX10_lessThan_22.2.2.2.2.2.2.1
theorem dX10_lessThan_35 : decode cX10_lessThan 35 = .ok (.goto (-31), 3) := da9_dX10_lessThan_22.2.2.2.2.2.2.2.1
theorem dX10_lessThan_38 : decode cX10_lessThan 38 = .ok (.iload_n 2, 1) := da9_dX10_lessThan_22.2.2.2.2.2.2.2.2.1
theorem dX10_lessThan_39 : decode cX10_lessThan 39 = .ok (.ireturn, 1) := da9_dX10_lessThan_22.2.2.2.2.2.2.2.2.2
set_option maxRecDepth 20000 in
theorem ggX10_gaps_X10_size : GoodIn wsX10_gaps wsX10_size := wd_c vW10_ok mvW10_24
set_option maxRecDepth 20000 in
theorem gX10_gaps_X10_size : GoodIn wsX10_gaps (wsV RX10 125 RX10 yX10_size wsX10_size) := goodIn_app (wd_l vW10_ok _ pvW10_144) ggX10_gaps_X10_size
set_option maxRecDepth 20000 in
theorem ggX10_gaps_X10_lessThan : GoodIn wsX10_gaps wsX10_lessThan := wd_c vW10_ok mvW10_106
set_option maxRecDepth 20000 in
theorem gX10_gaps_X10_lessThan : GoodIn wsX10_gaps (wsV RX10 401 RX10 yX10_lessThan wsX10_lessThan) := goodIn_app (wd_l vW10_ok _ pvW10_212) ggX10_gaps_X10_lessThan
theorem da9_dX10_gaps_0 : (decode cX10_gaps 0 = .ok (.aload_n 0, 1)) ∧ (decode cX10_gaps 1 = .ok (.invokevirtual 125, 3)) ∧ (decode cX10_gaps 4 = .ok (.ifCond .le 33, 3)) ∧ (decode cX10_gaps 7 = .ok (.aload_n 0, 1)) ∧ (decode cX10_gaps 8 = .ok (.aload_n 0, 1)) ∧ (decode cX10_gaps 9 = .ok (.getfield 28, 3)) ∧ (decode cX10_gaps 12 = .ok (.iconst 0, 1)) ∧ (decode cX10_gaps 13 = .ok (.aload_n 0, 1)) ∧ (decode cX10_gaps 14 = .ok (.invokevirtual 125, 3)) ∧ (decode cX10_gaps 17 = .ok (.iadd, 1)) ∧ (decode cX10_gaps 18 = .ok (.iconst 1, 1)) ∧ (decode cX10_gaps 19 = .ok (.isub, 1)) ∧ (decode cX10_gaps 20 = .ok (.iaload, 1)) ∧ (decode cX10_gaps 21 = .ok (.invokevirtual 401, 3)) ∧ (decode cX10_gaps 24 = .ok (.aload_n 0, 1)) ∧ (decode cX10_gaps 25 = .ok (.invokevirtual 125, 3)) := by decide +kernel
theorem dX10_gaps_0 : decode cX10_gaps 0 = .ok (.aload_n 0, 1) := da9_dX10_gaps_0.1
theorem dX10_gaps_1 : decode cX10_gaps 1 = .ok (.invokevirtual 125, 3) := da9_dX10_gaps_0.2.1
theorem dX10_gaps_4 : decode cX10_gaps 4 = .ok (.ifCond .le 33, 3) := da9_dX10_gaps_0.2.2.1
theorem dX10_gaps_7 : decode cX10_gaps 7 = .ok (.aload_n 0, 1) := da9_dX10_gaps_0.2.2.2.1
theorem dX10_gaps_8 : decode cX10_gaps 8 = .ok (.aload_n 0, 1) := da9_dX10_gaps_0.2.2.2.2.1
theorem dX10_gaps_9 : decode cX10_gaps 9 = .ok (.getfield 28, 3) := da9_dX10_gaps_0.2.2.2.2.2.1
theorem dX10_gaps_12 : decode cX10_gaps 12 = .ok (.iconst 0, 1) := da9_dX10_gaps_0.2.2.2.2.2.2.1
theorem dX10_gaps_13 : decode cX10_gaps 13 = .ok (.aload_n 0, 1) := da9_dX10_gaps_0.2.2.2.2.2.2.2.1
theorem dX10_gaps_14 : decode cX10_gaps 14 = .ok (.invokevirtual 125, 3) := da9_dX10_gaps_0.2.2.2.2.2.2.2.2.1
theorem dX10_gaps_17 : decode cX10_gaps 17 = .ok (.iadd, 1) := da9_dX10_gaps_0.2.2.2.2.2.2.2.2.2.1
theorem dX10_gaps_18 : decode cX10_gaps 18 = .ok (.iconst 1, 1) := da9_dX10_gaps_0.2.2.2.2.2.2.2.2.2.2.1
theorem dX10_gaps_19 : decode cX10_gaps 19 = .ok (.isub, 1) := da9_dX10_gaps_0.2.2.2.2.2.2.2.2.2.2.2.1
theorem dX10_gaps_20 : decode cX10_gaps 20 = .ok (.iaload, 1) := da9_dX10_gaps_0.2.2.2.2.2.2.2.2.2.2.2.2.1
theorem dX10_gaps_21 : decode cX10_gaps 21 = .ok (.invokevirtual 401, 3) := da9_dX10_gaps_0.2.2.2.2.2.2.2.2.2.2.2.2.2.1
theorem dX10_gaps_24 : decode cX10_gaps 24 = .ok (.aload_n 0, 1) := da9_dX10_gaps_0.2.2.2.2.2.2.2.2.2.2.2.2.2.2.1
theorem dX10_gaps_25 : decode cX10_gaps 25 = .ok (.invokevirtual 125, 3) := da9_dX10_gaps_0.2.2.2.2.2.2.2.2.2.2.2.2.2.2.2
theorem da9_dX10_gaps_28 : (decode cX10_gaps 28 = .ok (.iconst 1, 1)) ∧ (decode cX10_gaps 29 = .ok (.isub, 1)) ∧ (decode cX10_gaps 30 = .ok (.if_icmp .ge 7, 3)) ∧ (decode cX10_gaps 33 = .ok (.iconst 1, 1)) ∧ (decode cX10_gaps 34 = .ok (.goto 4, 3)) ∧ (decode cX10_gaps 37 = .ok (.iconst 0, 1)) ∧ (decode cX10_gaps 38 = .ok (.istore_n 1, 1)) ∧ (decode cX10_gaps 39 = .ok (.iconst 0, 1)) ∧ (decode cX10_gaps 40 = .ok (.istore_n 2, 1)) ∧ (decode cX10_gaps 41 = .ok (.iload_n 2, 1)) ∧ (decode cX10_gaps 42 = .ok (.iconst 1, 1)) ∧ (decode cX10_gaps 43 = .ok (.iadd, 1)) ∧ (decode cX10_gaps 44 = .ok (.aload_n 0, 1)) ∧ (decode cX10_gaps 45 = .ok (.invokevirtual 125, 3)) ∧ (decode cX10_gaps 48 = .ok (.if_icmp .ge 55, 3)) ∧ (decode cX10_gaps 51 = .ok (.aload_n 0, 1)) := by decide +kernel
theorem dX10_gaps_28 : decode cX10_gaps 28 = .ok (.iconst 1, 1) := da9_dX10_gaps_28.1
theorem dX10_gaps_29 : decode cX10_gaps 29 = .ok (.isub, 1) := da9_dX10_gaps_28.2.1
theorem dX10_gaps_30 : decode cX10_gaps 30 = .ok (.if_icmp .ge 7, 3) := da9_dX10_gaps_28.2.2.1
theorem dX10_gaps_33 : decode cX10_gaps 33 = .ok (.iconst 1, 1) := da9_dX10_gaps_28.2.2.2.1
theorem dX10_gaps_34 : decode cX10_gaps 34 = .ok (.goto 4, 3) := da9_dX10_gaps_28.2.2.2.2.1
theorem dX10_gaps_37 : decode cX10_gaps 37 = .ok (.iconst 0, 1) := da9_dX10_gaps_28.2.2.2.2.2.1
theorem dX10_gaps_38 : decode cX10_gaps 38 = .ok (.istore_n 1, 1) := da9_dX10_gaps_28.2.2.2.2.2.2.1
theorem dX10_gaps_39 : decode cX10_gaps 39 = .ok (.iconst 0, 1) := da9_dX10_gaps_28.2.2.2.2.2.2.2.1
theorem dX10_gaps_40 : decode cX10_gaps 40 = .ok (.istore_n 2, 1) := da9_dX10_gaps_28.2.2.2.2.2.2.2.2.1
theorem dX10_gaps_41 : decode cX10_gaps 41 = .ok (.iload_n 2, 1) := da9_dX10_gaps_28.2.2.2.2.2.2.2.2.2.1
theorem dX10_gaps_42 : decode cX10_gaps 42 = .ok (.iconst 1, 1) := da9_dX10_gaps_28.2.2.2.2.2.2.2.2.2.2.1
theorem dX10_gaps_43 : decode cX10_gaps 43 = .ok (.iadd, 1) := da9_dX10_gaps_28.2.2.2.2.2.2.2.2.2.2.2.1
theorem dX10_gaps_44 : decode cX10_gaps 44 = .ok (.aload_n 0, 1) := da9_dX10_gaps_28.2.2.2.2.2.2.2.2.2.2.2.2.1
theorem dX10_gaps_45 : decode cX10_gaps 45 = .ok (.invokevirtual 125, 3) := da9_dX10_gaps_28.2.2.2.2.2.2.2.2.2.2.2.2.2.1
theorem dX10_gaps_48 : decode cX10_gaps 48 = .ok (.if_icmp .ge 55, 3) := da9_dX10_gaps_28.2.2.2.2.2.2.2.2.2.2.2.2.2.2.1
theorem dX10_gaps_51 : decode cX10_gaps 51 = .ok (.aload_n 0, 1) := da9_dX10_gaps_28.2.2.2.2.2.2.2.2.2.2.2.2.2.2.2
theorem da9_dX10_gaps_52 : (decode cX10_gaps 52 = .ok (.aload_n 0, 1)) ∧ (decode cX10_gaps 53 = .ok (.getfield 28, 3)) ∧ (decode cX10_gaps 56 = .ok (.iconst 0, 1)) ∧ (decode cX10_gaps 57 = .ok (.iload_n 2, 1)) ∧ (decode cX10_gaps 58 = .ok (.iadd, 1)) ∧ (decode cX10_gaps 59 = .ok (.iaload, 1)) ∧ (decode cX10_gaps 60 = .ok (.invokevirtual 401, 3)) ∧ (decode cX10_gaps 63 = .ok (.aload_n 0, 1)) ∧ (decode cX10_gaps 64 = .ok (.aload_n 0, 1)) ∧ (decode cX10_gaps 65 = .ok (.getfield 28, 3)) ∧ (decode cX10_gaps 68 = .ok (.iconst 0, 1)) ∧ (decode cX10_gaps 69 = .ok (.iload_n 2, 1)) ∧ (decode cX10_gaps 70 = .ok (.iadd, 1)) ∧ (decode cX10_gaps 71 = .ok (.iconst 1, 1)) ∧ (decode cX10_gaps 72 = .ok (.iadd, 1)) ∧ (decode cX10_gaps 73 = .ok (.iaload, 1)) := by decide +kernel
theorem dX10_gaps_52 : decode cX10_gaps 52 = .ok (.aload_n 0, 1) := da9_dX10_gaps_52.1
theorem dX10_gaps_53 : decode cX10_gaps 53 = .ok (.getfield 28, 3) := da9_dX10_gaps_52.2.1
theorem dX10_gaps_56 : decode cX10_gaps 56 = .ok (.iconst 0, 1) := da9_dX10_gaps_52.2.2.1
theorem dX10_gaps_57 : decode cX10_gaps 57 = .ok (.iload_n 2, 1) := da9_dX10_gaps_52.2.2.2.1
theorem dX10_gaps_58 : decode cX10_gaps 58 = .ok (.iadd, 1) := da9_dX10_gaps_52.2.2.2.2.1
theorem dX10_gaps_59 : decode cX10_gaps 59 = .ok (.iaload, 1) := da9_dX10_gaps_52.2.2.2.2.2.1
theorem dX10_gaps_60 : decode cX10_gaps 60 = .ok (.invokevirtual 401, 3) := da9_dX10_gaps_52.2.2.2.2.2.2.1
theorem dX10_gaps_63 : decode cX10_gaps 63 = .ok (.aload_n 0, 1) := da9_dX10_gaps_52.2.2.2.2.2.2.2.1
theorem dX10_gaps_64 : decode cX10_gaps 64 = .ok (.aload_n 0, 1) := da9_dX10_gaps_52.2.2.2.2.2.2.2.2.1
theorem dX10_gaps_65 : decode cX10_gaps 65 = .ok (.getfield 28, 3) := da9_dX10_gaps_52.2.2.2.2.2.2.2.2.2.1
theorem dX10_gaps_68 : decode cX10_gaps 68 = .ok (.iconst 0, 1) := da9_dX10_gaps_52.2.2.2.2.2.2.2.2.2.2.1
theorem dX10_gaps_69 : decode cX10_gaps 69 = .ok (.iload_n 2, 1) := da9_dX10_gaps_52.2.2.2.2.2.2.2.2.2.2.2.1
theorem dX10_gaps_70 : decode cX10_gaps 70 = .ok (.iadd, 1) := da9_dX10_gaps_52.2.2.2.2.2.2.2.2.2.2.2.2.1
theorem dX10_gaps_71 : decode cX10_gaps 71 = .ok (.iconst 1, 1) := da9_dX10_gaps_52.2.2.2.2.2.2.2.2.2.2.2.2.2.1
theorem dX10_gaps_72 : decode cX10_gaps 72 = .ok (.iadd, 1) := da9_dX10_gaps_52.2.2.2.2.2.2.2.2.2.2.2.2.2.2.1
theorem dX10_gaps_73 : decode cX10_gaps 73 = .ok (.iaload, 1) := da9_dX10_gaps_52.2.2.2.2.2.2.2.2.2.2.2.2.2.2.2
theorem da9_dX10_gaps_74 : (decode cX10_gaps 74 = .ok (.invokevirtual 401, 3)) ∧ (decode cX10_gaps 77 = .ok (.isub, 1)) ∧ (decode cX10_gaps 78 = .ok (.istore_n 3, 1)) ∧ (decode cX10_gaps 79 = .ok (.iload_n 1, 1)) ∧ (decode cX10_gaps 80 = .ok (.iload_n 3, 1)) ∧ (decode cX10_gaps 81 = .ok (.iconst 1, 1)) ∧ (decode cX10_gaps 82 = .ok (.if_icmp .eq 8, 3)) ∧ (decode cX10_gaps 85 = .ok (.iload_n 3, 1)) ∧ (decode cX10_gaps 86 = .ok (.iconst (-1), 1)) ∧ (decode cX10_gaps 87 = .ok (.if_icmp .ne 7, 3)) ∧ (decode cX10_gaps 90 = .ok (.iconst 0, 1)) ∧ (decode cX10_gaps 91 = .ok (.goto 4, 3)) ∧ (decode cX10_gaps 94 = .ok (.iconst 1, 1)) ∧ (decode cX10_gaps 95 = .ok (.iadd, 1)) ∧ (decode cX10_gaps 96 = .ok (.istore_n 1, 1)) ∧ (decode cX10_gaps 97 = .ok (.iinc 2 1, 3)) := by decide +kernel
theorem dX10_gaps_74 : decode cX10_gaps 74 = .ok (.invokevirtual 401, 3) := da9_dX10_gaps_74.1
theorem dX10_gaps_77 : decode cX10_gaps 77 = .ok (.isub, 1) := da9_dX10_gaps_74.2.1
theorem dX10_gaps_78 : decode cX10_gaps 78 = .ok (.istore_n 3, 1) := da9_dX10_gaps_74.2.2.1
theorem dX10_gaps_79 : decode cX10_gaps 79 = .ok (.iload_n 1, 1) := da9_dX10_gaps_74.2.2.2.1
theorem dX10_gaps_80 : decode cX10_gaps 80 = .ok (.iload_n 3, 1) := da9_dX10_gaps_74.2.2.2.2.1
theorem dX10_gaps_81 : decode cX10_gaps 81 = .ok (.iconst 1, 1) := da9_dX10_gaps_74.2.2.2.2.2.1
theorem dX10_gaps_82 : decode cX10_gaps 82 = .ok (.if_icmp .eq 8, 3) := da9_dX10_gaps_74.2.2.2.2.2.2.1
theorem dX10_gaps_85 : decode cX10_gaps 85 = .ok (.iload_n 3, 1) := da9_dX10_gaps_74.2.2.2.2.2.2.2.1
theorem dX10_gaps_86 : decode cX10_gaps 86 = .ok (.iconst (-1), 1) := da9_dX10_gaps_74.2.2.2.2.2.2.2.2.1
theorem dX10_gaps_87 : decode cX10_gaps 87 = .ok (.if_icmp .ne 7, 3) := da9_dX10_gaps_74.2.2.2.2.2.2.2.2.2.1
theorem dX10_gaps_90 : decode cX10_gaps 90 = .ok (.iconst 0, 1) := da9_dX10_gaps_74.2.2.2.2.2.2.2.2.2.2.1
theorem dX10_gaps_91 : decode cX10_gaps 91 = .ok (.goto 4, 3) := da9_dX10_gaps_74.2.2.2.2.2.2.2.2.2.2.2.1
theorem dX10_gaps_94 : decode cX10_gaps 94 = .ok (.iconst 1, 1) := da9_dX10_gaps_74.2.2.2.2.2.2.2.2.2.2.2.2.1
theorem dX10_gaps_95 : decode cX10_gaps 95 = .ok (.iadd, 1) := da9_dX10_gaps_74.2.2.2.2.2.2.2.2.2.2.2.2.2.1
theorem dX10_gaps_96 : decode cX10_gaps 96 = .ok (.istore_n 1, 1) := da9_dX10_gaps_74.2.2.2.2.2.2.2.2.2.2.2.2.2.2.1
theorem dX10_gaps_97 : decode cX10_gaps 97 = .ok (.iinc 2 1, 3) := da9_dX10_gaps_74.2.2.2.2.2.2.2.2.2.2.2.2.2.2.2
theorem da9_dX10_gaps_100 : (decode cX10_gaps 100 = .ok (.goto (-59), 3)) ∧ (decode cX10_gaps 103 = .ok (.iload_n 1, 1)) ∧ (decode cX10_gaps 104 = .ok (.ireturn, 1)) := by decide +kernel
theorem dX10_gaps_100 : decode cX10_gaps 100 = .ok (.goto (-59), 3) := da9_dX10_gaps_100.1
theorem dX10_gaps_103 : decode cX10_gaps 103 = .ok (.iload_n 1, 1) := da9_dX10_gaps_100.2.1
theorem dX10_gaps_104 : decode cX10_gaps 104 = .ok (.ireturn, 1) := da9_dX10_gaps_100.2.2
end
