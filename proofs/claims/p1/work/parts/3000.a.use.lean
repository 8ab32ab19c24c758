theorem dX0_clear_0 : decode cX0_clear 0 = .ok (.aload_n 0, 1) := by decide +kernel
theorem dX0_clear_1 : decode cX0_clear 1 = .ok (.iconst 0, 1) := by decide +kernel
theorem dX0_clear_2 : decode cX0_clear 2 = .ok (.putfield 19, 3) := by decide +kernel
theorem dX0_clear_5 : decode cX0_clear 5 = .ok (.return_, 1) := by decide +kernel
theorem dX8_isFloor_0 : decode cX8_isFloor 0 = .ok (.iload_n 1, 1) := by decide +kernel
theorem dX8_isFloor_1 : decode cX8_isFloor 1 = .ok (.ifCond .lt 15, 3) := by decide +kernel
theorem dX8_isFloor_4 : decode cX8_isFloor 4 = .ok (.iload_n 1, 1) := by decide +kernel
theorem dX8_isFloor_5 : decode cX8_isFloor 5 = .ok (.aload_n 0, 1) := by decide +kernel
theorem dX8_isFloor_6 : decode cX8_isFloor 6 = .ok (.getfield 18, 3) := by decide +kernel
theorem dX8_isFloor_9 : decode cX8_isFloor 9 = .ok (.if_icmp .ge 7, 3) := by decide +kernel
theorem dX8_isFloor_12 : decode cX8_isFloor 12 = .ok (.iconst 1, 1) := by decide +kernel
theorem dX8_isFloor_13 : decode cX8_isFloor 13 = .ok (.goto 4, 3) := by decide +kernel
theorem dX8_isFloor_16 : decode cX8_isFloor 16 = .ok (.iconst 0, 1) := by decide +kernel
theorem dX8_isFloor_17 : decode cX8_isFloor 17 = .ok (.ireturn, 1) := by decide +kernel
theorem dX9_accept_0 : decode cX9_accept 0 = .ok (.aload_n 0, 1) := by decide +kernel
theorem dX9_accept_1 : decode cX9_accept 1 = .ok (.iconst 0, 1) := by decide +kernel
theorem dX9_accept_2 : decode cX9_accept 2 = .ok (.putfield 108, 3) := by decide +kernel
theorem dX9_accept_5 : decode cX9_accept 5 = .ok (.iload_n 1, 1) := by decide +kernel
theorem dX9_accept_6 : decode cX9_accept 6 = .ok (.ireturn, 1) := by decide +kernel
theorem dX9_isRank_0 : decode cX9_isRank 0 = .ok (.iload_n 0, 1) := by decide +kernel
theorem dX9_isRank_1 : decode cX9_isRank 1 = .ok (.ifCond .lt 13, 3) := by decide +kernel
theorem dX9_isRank_4 : decode cX9_isRank 4 = .ok (.iload_n 0, 1) := by decide +kernel
theorem dX9_isRank_5 : decode cX9_isRank 5 = .ok (.bipush 6, 2) := by decide +kernel
theorem dX9_isRank_7 : decode cX9_isRank 7 = .ok (.if_icmp .ge 7, 3) := by decide +kernel
theorem dX9_isRank_10 : decode cX9_isRank 10 = .ok (.iconst 1, 1) := by decide +kernel
theorem dX9_isRank_11 : decode cX9_isRank 11 = .ok (.goto 4, 3) := by decide +kernel
theorem dX9_isRank_14 : decode cX9_isRank 14 = .ok (.iconst 0, 1) := by decide +kernel
theorem dX9_isRank_15 : decode cX9_isRank 15 = .ok (.ireturn, 1) := by decide +kernel
theorem dX9_isBit_0 : decode cX9_isBit 0 = .ok (.iload_n 0, 1) := by decide +kernel
theorem dX9_isBit_1 : decode cX9_isBit 1 = .ok (.ifCond .eq 8, 3) := by decide +kernel
theorem dX9_isBit_4 : decode cX9_isBit 4 = .ok (.iload_n 0, 1) := by decide +kernel
theorem dX9_isBit_5 : decode cX9_isBit 5 = .ok (.iconst 1, 1) := by decide +kernel
theorem dX9_isBit_6 : decode cX9_isBit 6 = .ok (.if_icmp .ne 7, 3) := by decide +kernel
theorem dX9_isBit_9 : decode cX9_isBit 9 = .ok (.iconst 1, 1) := by decide +kernel
theorem dX9_isBit_10 : decode cX9_isBit 10 = .ok (.goto 4, 3) := by decide +kernel
theorem dX9_isBit_13 : decode cX9_isBit 13 = .ok (.iconst 0, 1) := by decide +kernel
theorem dX9_isBit_14 : decode cX9_isBit 14 = .ok (.ireturn, 1) := by decide +kernel
theorem dX9_isImage_0 : decode cX9_isImage 0 = .ok (.iload_n 0, 1) := by decide +kernel
theorem dX9_isImage_1 : decode cX9_isImage 1 = .ok (.ifCond .lt 12, 3) := by decide +kernel
theorem dX9_isImage_4 : decode cX9_isImage 4 = .ok (.iload_n 0, 1) := by decide +kernel
theorem dX9_isImage_5 : decode cX9_isImage 5 = .ok (.iconst 2, 1) := by decide +kernel
theorem dX9_isImage_6 : decode cX9_isImage 6 = .ok (.if_icmp .ge 7, 3) := by decide +kernel
theorem dX9_isImage_9 : decode cX9_isImage 9 = .ok (.iconst 1, 1) := by decide +kernel
theorem dX9_isImage_10 : decode cX9_isImage 10 = .ok (.goto 4, 3) := by decide +kernel
theorem dX9_isImage_13 : decode cX9_isImage 13 = .ok (.iconst 0, 1) := by decide +kernel
theorem dX9_isImage_14 : decode cX9_isImage 14 = .ok (.ireturn, 1) := by decide +kernel
theorem dX9_bit_0 : decode cX9_bit 0 = .ok (.iload_n 0, 1) := by decide +kernel
theorem dX9_bit_1 : decode cX9_bit 1 = .ok (.ifCond .eq 7, 3) := by decide +kernel
theorem dX9_bit_4 : decode cX9_bit 4 = .ok (.iconst 1, 1) := by decide +kernel
theorem dX9_bit_5 : decode cX9_bit 5 = .ok (.goto 4, 3) := by decide +kernel
theorem dX9_bit_8 : decode cX9_bit 8 = .ok (.iconst 0, 1) := by decide +kernel
theorem dX9_bit_9 : decode cX9_bit 9 = .ok (.ireturn, 1) := by decide +kernel
theorem dX9_mostOfTerm_0 : decode cX9_mostOfTerm 0 = .ok (.iload_n 0, 1) := by decide +kernel
theorem dX9_mostOfTerm_1 : decode cX9_mostOfTerm 1 = .ok (.tableswitch 43 0 3 #[31, 35, 38, 41], 31) := by decide +kernel
theorem dX9_mostOfTerm_32 : decode cX9_mostOfTerm 32 = .ok (.sipush 999, 3) := by decide +kernel
theorem dX9_mostOfTerm_35 : decode cX9_mostOfTerm 35 = .ok (.ireturn, 1) := by decide +kernel
theorem dX9_mostOfTerm_36 : decode cX9_mostOfTerm 36 = .ok (.bipush 10, 2) := by decide +kernel
theorem dX9_mostOfTerm_38 : decode cX9_mostOfTerm 38 = .ok (.ireturn, 1) := by decide +kernel
theorem dX9_mostOfTerm_39 : decode cX9_mostOfTerm 39 = .ok (.bipush 9, 2) := by decide +kernel
theorem dX9_mostOfTerm_41 : decode cX9_mostOfTerm 41 = .ok (.ireturn, 1) := by decide +kernel
theorem dX9_mostOfTerm_42 : decode cX9_mostOfTerm 42 = .ok (.iconst 1, 1) := by decide +kernel
theorem dX9_mostOfTerm_43 : decode cX9_mostOfTerm 43 = .ok (.ireturn, 1) := by decide +kernel
theorem dX9_mostOfTerm_44 : decode cX9_mostOfTerm 44 = .ok (.iconst (-1), 1) := by decide +kernel
theorem dX9_mostOfTerm_45 : decode cX9_mostOfTerm 45 = .ok (.ireturn, 1) := by decide +kernel
theorem dX9_nextDraw_0 : decode cX9_nextDraw 0 = .ok (.iload_n 0, 1) := by decide +kernel
theorem dX9_nextDraw_1 : decode cX9_nextDraw 1 = .ok (.i2l, 1) := by decide +kernel
theorem dX9_nextDraw_2 : decode cX9_nextDraw 2 = .ok (.ldc2_w 350, 3) := by decide +kernel
theorem dX9_nextDraw_5 : decode cX9_nextDraw 5 = .ok (.lmul, 1) := by decide +kernel
theorem dX9_nextDraw_6 : decode cX9_nextDraw 6 = .ok (.ldc2_w 352, 3) := by decide +kernel
theorem dX9_nextDraw_9 : decode cX9_nextDraw 9 = .ok (.ladd, 1) := by decide +kernel
theorem dX9_nextDraw_10 : decode cX9_nextDraw 10 = .ok (.ldc2_w 354, 3) := by decide +kernel
theorem dX9_nextDraw_13 : decode cX9_nextDraw 13 = .ok (.lrem, 1) := by decide +kernel
theorem dX9_nextDraw_14 : decode cX9_nextDraw 14 = .ok (.l2i, 1) := by decide +kernel
theorem dX9_nextDraw_15 : decode cX9_nextDraw 15 = .ok (.ireturn, 1) := by decide +kernel
theorem dX10_lies_0 : decode cX10_lies 0 = .ok (.iload_n 0, 1) := by decide +kernel
theorem dX10_lies_1 : decode cX10_lies 1 = .ok (.iload_n 1, 1) := by decide +kernel
theorem dX10_lies_2 : decode cX10_lies 2 = .ok (.if_icmp .lt 12, 3) := by decide +kernel
theorem dX10_lies_5 : decode cX10_lies 5 = .ok (.iload_n 0, 1) := by decide +kernel
theorem dX10_lies_6 : decode cX10_lies 6 = .ok (.iload_n 2, 1) := by decide +kernel
theorem dX10_lies_7 : decode cX10_lies 7 = .ok (.if_icmp .gt 7, 3) := by decide +kernel
theorem dX10_lies_10 : decode cX10_lies 10 = .ok (.iconst 1, 1) := by decide +kernel
theorem dX10_lies_11 : decode cX10_lies 11 = .ok (.goto 4, 3) := by decide +kernel
theorem dX10_lies_14 : decode cX10_lies 14 = .ok (.iconst 0, 1) := by decide +kernel
theorem dX10_lies_15 : decode cX10_lies 15 = .ok (.ireturn, 1) := by decide +kernel
theorem dX10_lesser_0 : decode cX10_lesser 0 = .ok (.iload_n 0, 1) := by decide +kernel
theorem dX10_lesser_1 : decode cX10_lesser 1 = .ok (.iload_n 1, 1) := by decide +kernel
theorem dX10_lesser_2 : decode cX10_lesser 2 = .ok (.if_icmp .ge 7, 3) := by decide +kernel
theorem dX10_lesser_5 : decode cX10_lesser 5 = .ok (.iload_n 0, 1) := by decide +kernel
theorem dX10_lesser_6 : decode cX10_lesser 6 = .ok (.goto 4, 3) := by decide +kernel
theorem dX10_lesser_9 : decode cX10_lesser 9 = .ok (.iload_n 1, 1) := by decide +kernel
theorem dX10_lesser_10 : decode cX10_lesser 10 = .ok (.ireturn, 1) := by decide +kernel
theorem dX10_greater_0 : decode cX10_greater 0 = .ok (.iload_n 0, 1) := by decide +kernel
theorem dX10_greater_1 : decode cX10_greater 1 = .ok (.iload_n 1, 1) := by decide +kernel
theorem dX10_greater_2 : decode cX10_greater 2 = .ok (.if_icmp .le 7, 3) := by decide +kernel
theorem dX10_greater_5 : decode cX10_greater 5 = .ok (.iload_n 0, 1) := by decide +kernel
theorem dX10_greater_6 : decode cX10_greater 6 = .ok (.goto 4, 3) := by decide +kernel
theorem dX10_greater_9 : decode cX10_greater 9 = .ok (.iload_n 1, 1) := by decide +kernel
theorem dX10_greater_10 : decode cX10_greater 10 = .ok (.ireturn, 1) := by decide +kernel
theorem dX10_good_0 : decode cX10_good 0 = .ok (.aload_n 0, 1) := by decide +kernel
theorem dX10_good_1 : decode cX10_good 1 = .ok (.iconst 0, 1) := by decide +kernel
theorem dX10_good_2 : decode cX10_good 2 = .ok (.putfield 3, 3) := by decide +kernel
theorem dX10_good_5 : decode cX10_good 5 = .ok (.iload_n 1, 1) := by decide +kernel
theorem dX10_good_6 : decode cX10_good 6 = .ok (.ireturn, 1) := by decide +kernel
set_option maxRecDepth 20000 in
theorem ggX10_settled_X10_good : GoodIn wsX10_settled wsX10_good := goodIn_r _ [6, 7, 8, 9, 10, 11, 12, 13, 14, 15, 16, 17, 18, 19, 20, 21, 22, 23, 24, 25, 26, 27, 28, 29, 30, 31, 32, 33, 34, 35, 36, 37, 38, 39, 40, 41, 42, 43, 44, 45, 46, 47, 48, 49, 50, 51, 52, 53, 54, 55, 56, 57, 58, 59, 60, 61, 62, 63] (by decide +kernel) (by decide +kernel)
set_option maxRecDepth 20000 in
theorem gX10_settled_X10_good : GoodIn wsX10_settled (wsV RX10 14 RX10 yX10_good wsX10_good) := goodIn_app (goodIn_of _ (by decide +kernel)) ggX10_settled_X10_good
theorem dX10_settled_0 : decode cX10_settled 0 = .ok (.aload_n 0, 1) := by decide +kernel
theorem dX10_settled_1 : decode cX10_settled 1 = .ok (.iconst 0, 1) := by decide +kernel
theorem dX10_settled_2 : decode cX10_settled 2 = .ok (.putfield 11, 3) := by decide +kernel
theorem dX10_settled_5 : decode cX10_settled 5 = .ok (.aload_n 0, 1) := by decide +kernel
theorem dX10_settled_6 : decode cX10_settled 6 = .ok (.iload_n 1, 1) := by decide +kernel
theorem dX10_settled_7 : decode cX10_settled 7 = .ok (.invokevirtual 14, 3) := by decide +kernel
theorem dX10_settled_10 : decode cX10_settled 10 = .ok (.ireturn, 1) := by decide +kernel
theorem dX10_isIn_0 : decode cX10_isIn 0 = .ok (.iload_n 0, 1) := by decide +kernel
theorem dX10_isIn_1 : decode cX10_isIn 1 = .ok (.iload_n 1, 1) := by decide +kernel
theorem dX10_isIn_2 : decode cX10_isIn 2 = .ok (.ishr, 1) := by decide +kernel
theorem dX10_isIn_3 : decode cX10_isIn 3 = .ok (.iconst 1, 1) := by decide +kernel
theorem dX10_isIn_4 : decode cX10_isIn 4 = .ok (.iand, 1) := by decide +kernel
theorem dX10_isIn_5 : decode cX10_isIn 5 = .ok (.iconst 1, 1) := by decide +kernel
theorem dX10_isIn_6 : decode cX10_isIn 6 = .ok (.if_icmp .ne 7, 3) := by decide +kernel
theorem dX10_isIn_9 : decode cX10_isIn 9 = .ok (.iconst 1, 1) := by decide +kernel
theorem dX10_isIn_10 : decode cX10_isIn 10 = .ok (.goto 4, 3) := by decide +kernel
theorem dX10_isIn_13 : decode cX10_isIn 13 = .ok (.iconst 0, 1) := by decide +kernel
theorem dX10_isIn_14 : decode cX10_isIn 14 = .ok (.ireturn, 1) := by decide +kernel
set_option maxRecDepth 20000 in
theorem ggX10_isBit_X10_lies : GoodIn wsX10_isBit wsX10_lies := goodIn_r _ [4] (by decide +kernel) (by decide +kernel)
set_option maxRecDepth 20000 in
theorem gX10_isBit_X10_lies : GoodIn wsX10_isBit (va_wsS RX10 18 yX10_lies wsX10_lies) := goodIn_app (goodIn_of _ (by decide +kernel)) ggX10_isBit_X10_lies
theorem dX10_isBit_0 : decode cX10_isBit 0 = .ok (.iload_n 0, 1) := by decide +kernel
theorem dX10_isBit_1 : decode cX10_isBit 1 = .ok (.iconst 0, 1) := by decide +kernel
theorem dX10_isBit_2 : decode cX10_isBit 2 = .ok (.iconst 1, 1) := by decide +kernel
theorem dX10_isBit_3 : decode cX10_isBit 3 = .ok (.invokestatic 18, 3) := by decide +kernel
theorem dX10_isBit_6 : decode cX10_isBit 6 = .ok (.ireturn, 1) := by decide +kernel
set_option maxRecDepth 20000 in
theorem ggX10_isRank_X10_lies : GoodIn wsX10_isRank wsX10_lies := goodIn_r _ [4] (by decide +kernel) (by decide +kernel)
set_option maxRecDepth 20000 in
theorem gX10_isRank_X10_lies : GoodIn wsX10_isRank (va_wsS RX10 18 yX10_lies wsX10_lies) := goodIn_app (goodIn_of _ (by decide +kernel)) ggX10_isRank_X10_lies
theorem dX10_isRank_0 : decode cX10_isRank 0 = .ok (.iload_n 0, 1) := by decide +kernel
theorem dX10_isRank_1 : decode cX10_isRank 1 = .ok (.iconst 0, 1) := by decide +kernel
theorem dX10_isRank_2 : decode cX10_isRank 2 = .ok (.iconst 5, 1) := by decide +kernel
theorem dX10_isRank_3 : decode cX10_isRank 3 = .ok (.invokestatic 18, 3) := by decide +kernel
theorem dX10_isRank_6 : decode cX10_isRank 6 = .ok (.ireturn, 1) := by decide +kernel
theorem dX10_sign_0 : decode cX10_sign 0 = .ok (.bipush 100, 2) := by decide +kernel
theorem dX10_sign_2 : decode cX10_sign 2 = .ok (.iload_n 0, 1) := by decide +kernel
theorem dX10_sign_3 : decode cX10_sign 3 = .ok (.iadd, 1) := by decide +kernel
theorem dX10_sign_4 : decode cX10_sign 4 = .ok (.ireturn, 1) := by decide +kernel
