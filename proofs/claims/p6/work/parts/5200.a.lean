theorem da9_dX0_clear_0 : (decode cX0_clear 0 = .ok (.aload_n 0, 1)) ∧ (decode cX0_clear 1 = .ok (.iconst 0, 1)) ∧ (decode cX0_clear 2 = .ok (.putfield 19, 3)) ∧ (decode cX0_clear 5 = .ok (.return_, 1)) := by decide +kernel
theorem dX0_clear_0 : decode cX0_clear 0 = .ok (.aload_n 0, 1) := da9_dX0_clear_0.1
theorem dX0_clear_1 : decode cX0_clear 1 = .ok (.iconst 0, 1) := da9_dX0_clear_0.2.1
theorem dX0_clear_2 : decode cX0_clear 2 = .ok (.putfield 19, 3) := da9_dX0_clear_0.2.2.1
theorem dX0_clear_5 : decode cX0_clear 5 = .ok (.return_, 1) := da9_dX0_clear_0.2.2.2
theorem da9_dX1_seat_0 : (decode cX1_seat 0 = .ok (.aload_n 0, 1)) ∧ (decode cX1_seat 1 = .ok (.aload_n 1, 1)) ∧ (decode cX1_seat 2 = .ok (.putfield 15, 3)) ∧ (decode cX1_seat 5 = .ok (.aload_n 0, 1)) ∧ (decode cX1_seat 6 = .ok (.getfield 11, 3)) ∧ (decode cX1_seat 9 = .ok (.bipush 8, 2)) ∧ (decode cX1_seat 11 = .ok (.iload_n 2, 1)) ∧ (decode cX1_seat 12 = .ok (.iastore, 1)) ∧ (decode cX1_seat 13 = .ok (.return_, 1)) := by decide +kernel
theorem dX1_seat_0 : decode cX1_seat 0 = .ok (.aload_n 0, 1) := da9_dX1_seat_0.1
theorem dX1_seat_1 : decode cX1_seat 1 = .ok (.aload_n 1, 1) := da9_dX1_seat_0.2.1
theorem dX1_seat_2 : decode cX1_seat 2 = .ok (.putfield 15, 3) := da9_dX1_seat_0.2.2.1
theorem dX1_seat_5 : decode cX1_seat 5 = .ok (.aload_n 0, 1) := da9_dX1_seat_0.2.2.2.1
theorem dX1_seat_6 : decode cX1_seat 6 = .ok (.getfield 11, 3) := da9_dX1_seat_0.2.2.2.2.1
theorem dX1_seat_9 : decode cX1_seat 9 = .ok (.bipush 8, 2) := da9_dX1_seat_0.2.2.2.2.2.1
theorem dX1_seat_11 : decode cX1_seat 11 = .ok (.iload_n 2, 1) := da9_dX1_seat_0.2.2.2.2.2.2.1
theorem dX1_seat_12 : decode cX1_seat 12 = .ok (.iastore, 1) := da9_dX1_seat_0.2.2.2.2.2.2.2.1
theorem dX1_seat_13 : decode cX1_seat 13 = .ok (.return_, 1) := da9_dX1_seat_0.2.2.2.2.2.2.2.2
theorem da9_dX1_setCommon_0 : (decode cX1_setCommon 0 = .ok (.aload_n 0, 1)) ∧ (decode cX1_setCommon 1 = .ok (.getfield 11, 3)) ∧ (decode cX1_setCommon 4 = .ok (.iconst 4, 1)) ∧ (decode cX1_setCommon 5 = .ok (.iload_n 1, 1)) ∧ (decode cX1_setCommon 6 = .ok (.iastore, 1)) ∧ (decode cX1_setCommon 7 = .ok (.aload_n 0, 1)) ∧ (decode cX1_setCommon 8 = .ok (.getfield 11, 3)) ∧ (decode cX1_setCommon 11 = .ok (.bipush 7, 2)) ∧ (decode cX1_setCommon 13 = .ok (.iload_n 2, 1)) ∧ (decode cX1_setCommon 14 = .ok (.iastore, 1)) ∧ (decode cX1_setCommon 15 = .ok (.return_, 1)) := by decide +kernel
theorem dX1_setCommon_0 : decode cX1_setCommon 0 = .ok (.aload_n 0, 1) := da9_dX1_setCommon_0.1
theorem dX1_setCommon_1 : decode cX1_setCommon 1 = .ok (.getfield 11, 3) := da9_dX1_setCommon_0.2.1
theorem dX1_setCommon_4 : decode cX1_setCommon 4 = .ok (.iconst 4, 1) := da9_dX1_setCommon_0.2.2.1
theorem dX1_setCommon_5 : decode cX1_setCommon 5 = .ok (.iload_n 1, 1) := da9_dX1_setCommon_0.2.2.2.1
theorem dX1_setCommon_6 : decode cX1_setCommon 6 = .ok (.iastore, 1) := da9_dX1_setCommon_0.2.2.2.2.1
theorem dX1_setCommon_7 : decode cX1_setCommon 7 = .ok (.aload_n 0, 1) := da9_dX1_setCommon_0.2.2.2.2.2.1
theorem dX1_setCommon_8 : decode cX1_setCommon 8 = .ok (.getfield 11, 3) := da9_dX1_setCommon_0.2.2.2.2.2.2.1
theorem dX1_setCommon_11 : decode cX1_setCommon 11 = .ok (.bipush 7, 2) := da9_dX1_setCommon_0.2.2.2.2.2.2.2.1
theorem dX1_setCommon_13 : decode cX1_setCommon 13 = .ok (.iload_n 2, 1) := da9_dX1_setCommon_0.2.2.2.2.2.2.2.2.1
theorem dX1_setCommon_14 : decode cX1_setCommon 14 = .ok (.iastore, 1) := da9_dX1_setCommon_0.2.2.2.2.2.2.2.2.2.1
theorem dX1_setCommon_15 : decode cX1_setCommon 15 = .ok (.return_, 1) := da9_dX1_setCommon_0.2.2.2.2.2.2.2.2.2.2
theorem da9_dX6_isLaw_0 : (decode cX6_isLaw 0 = .ok (.iload_n 1, 1)) ∧ (decode cX6_isLaw 1 = .ok (.ifCond .lt 15, 3)) ∧ (decode cX6_isLaw 4 = .ok (.iload_n 1, 1)) ∧ (decode cX6_isLaw 5 = .ok (.aload_n 0, 1)) ∧ (decode cX6_isLaw 6 = .ok (.getfield 44, 3)) ∧ (decode cX6_isLaw 9 = .ok (.if_icmp .ge 7, 3)) ∧ (decode cX6_isLaw 12 = .ok (.iconst 1, 1)) ∧ (decode cX6_isLaw 13 = .ok (.goto 4, 3)) ∧ (decode cX6_isLaw 16 = .ok (.iconst 0, 1)) ∧ (decode cX6_isLaw 17 = .ok (.ireturn, 1)) := by decide +kernel
theorem dX6_isLaw_0 : decode cX6_isLaw 0 = .ok (.iload_n 1, 1) := da9_dX6_isLaw_0.1
theorem dX6_isLaw_1 : decode cX6_isLaw 1 = .ok (.ifCond .lt 15, 3) := da9_dX6_isLaw_0.2.1
theorem dX6_isLaw_4 : decode cX6_isLaw 4 = .ok (.iload_n 1, 1) := da9_dX6_isLaw_0.2.2.1
theorem dX6_isLaw_5 : decode cX6_isLaw 5 = .ok (.aload_n 0, 1) := da9_dX6_isLaw_0.2.2.2.1
theorem dX6_isLaw_6 : decode cX6_isLaw 6 = .ok (.getfield 44, 3) := da9_dX6_isLaw_0.2.2.2.2.1
theorem dX6_isLaw_9 : decode cX6_isLaw 9 = .ok (.if_icmp .ge 7, 3) := da9_dX6_isLaw_0.2.2.2.2.2.1
theorem dX6_isLaw_12 : decode cX6_isLaw 12 = .ok (.iconst 1, 1) := da9_dX6_isLaw_0.2.2.2.2.2.2.1
theorem dX6_isLaw_13 : decode cX6_isLaw 13 = .ok (.goto 4, 3) := da9_dX6_isLaw_0.2.2.2.2.2.2.2.1
theorem dX6_isLaw_16 : decode cX6_isLaw 16 = .ok (.iconst 0, 1) := da9_dX6_isLaw_0.2.2.2.2.2.2.2.2.1
theorem dX6_isLaw_17 : decode cX6_isLaw 17 = .ok (.ireturn, 1) := da9_dX6_isLaw_0.2.2.2.2.2.2.2.2.2
set_option maxRecDepth 20000 in
theorem ggX6_lawAt_X6_isLaw : GoodIn wsX6_lawAt wsX6_isLaw := goodIn_r _ [6, 7, 8, 9, 10, 11, 12, 13, 14, 15, 16, 17] rfl (by decide +kernel)
set_option maxRecDepth 20000 in
theorem gX6_lawAt_X6_isLaw : GoodIn wsX6_lawAt (wsV RX6 61 RX6 yX6_isLaw wsX6_isLaw) := goodIn_app (goodIn_of _ (by decide +kernel)) ggX6_lawAt_X6_isLaw
theorem da9_dX6_lawAt_0 : (decode cX6_lawAt 0 = .ok (.aload_n 0, 1)) ∧ (decode cX6_lawAt 1 = .ok (.iload_n 1, 1)) ∧ (decode cX6_lawAt 2 = .ok (.invokevirtual 61, 3)) ∧ (decode cX6_lawAt 5 = .ok (.ifCond .eq 12, 3)) ∧ (decode cX6_lawAt 8 = .ok (.aload_n 0, 1)) ∧ (decode cX6_lawAt 9 = .ok (.getfield 40, 3)) ∧ (decode cX6_lawAt 12 = .ok (.iload_n 1, 1)) ∧ (decode cX6_lawAt 13 = .ok (.aaload, 1)) ∧ (decode cX6_lawAt 14 = .ok (.goto 4, 3)) ∧ (decode cX6_lawAt 17 = .ok (.aconst_null, 1)) ∧ (decode cX6_lawAt 18 = .ok (.areturn, 1)) := by decide +kernel
theorem dX6_lawAt_0 : decode cX6_lawAt 0 = .ok (.aload_n 0, 1) := da9_dX6_lawAt_0.1
theorem dX6_lawAt_1 : decode cX6_lawAt 1 = .ok (.iload_n 1, 1) := da9_dX6_lawAt_0.2.1
theorem dX6_lawAt_2 : decode cX6_lawAt 2 = .ok (.invokevirtual 61, 3) := da9_dX6_lawAt_0.2.2.1
theorem dX6_lawAt_5 : decode cX6_lawAt 5 = .ok (.ifCond .eq 12, 3) := da9_dX6_lawAt_0.2.2.2.1
theorem dX6_lawAt_8 : decode cX6_lawAt 8 = .ok (.aload_n 0, 1) := da9_dX6_lawAt_0.2.2.2.2.1
theorem dX6_lawAt_9 : decode cX6_lawAt 9 = .ok (.getfield 40, 3) := da9_dX6_lawAt_0.2.2.2.2.2.1
theorem dX6_lawAt_12 : decode cX6_lawAt 12 = .ok (.iload_n 1, 1) := da9_dX6_lawAt_0.2.2.2.2.2.2.1
theorem dX6_lawAt_13 : decode cX6_lawAt 13 = .ok (.aaload, 1) := da9_dX6_lawAt_0.2.2.2.2.2.2.2.1
theorem dX6_lawAt_14 : decode cX6_lawAt 14 = .ok (.goto 4, 3) := da9_dX6_lawAt_0.2.2.2.2.2.2.2.2.1
theorem dX6_lawAt_17 : decode cX6_lawAt 17 = .ok (.aconst_null, 1) := da9_dX6_lawAt_0.2.2.2.2.2.2.2.2.2.1
theorem dX6_lawAt_18 : decode cX6_lawAt 18 = .ok (.areturn, 1) := da9_dX6_lawAt_0.2.2.2.2.2.2.2.2.2.2
theorem da9_dX8_isFloor_0 : (decode cX8_isFloor 0 = .ok (.iload_n 1, 1)) ∧ (decode cX8_isFloor 1 = .ok (.ifCond .lt 15, 3)) ∧ (decode cX8_isFloor 4 = .ok (.iload_n 1, 1)) ∧ (decode cX8_isFloor 5 = .ok (.aload_n 0, 1)) ∧ (decode cX8_isFloor 6 = .ok (.getfield 18, 3)) ∧ (decode cX8_isFloor 9 = .ok (.if_icmp .ge 7, 3)) ∧ (decode cX8_isFloor 12 = .ok (.iconst 1, 1)) ∧ (decode cX8_isFloor 13 = .ok (.goto 4, 3)) ∧ (decode cX8_isFloor 16 = .ok (.iconst 0, 1)) ∧ (decode cX8_isFloor 17 = .ok (.ireturn, 1)) := by decide +kernel
theorem dX8_isFloor_0 : decode cX8_isFloor 0 = .ok (.iload_n 1, 1) := da9_dX8_isFloor_0.1
theorem dX8_isFloor_1 : decode cX8_isFloor 1 = .ok (.ifCond .lt 15, 3) := da9_dX8_isFloor_0.2.1
theorem dX8_isFloor_4 : decode cX8_isFloor 4 = .ok (.iload_n 1, 1) := da9_dX8_isFloor_0.2.2.1
theorem dX8_isFloor_5 : decode cX8_isFloor 5 = .ok (.aload_n 0, 1) := da9_dX8_isFloor_0.2.2.2.1
theorem dX8_isFloor_6 : decode cX8_isFloor 6 = .ok (.getfield 18, 3) := da9_dX8_isFloor_0.2.2.2.2.1
theorem dX8_isFloor_9 : decode cX8_isFloor 9 = .ok (.if_icmp .ge 7, 3) := da9_dX8_isFloor_0.2.2.2.2.2.1
theorem dX8_isFloor_12 : decode cX8_isFloor 12 = .ok (.iconst 1, 1) := da9_dX8_isFloor_0.2.2.2.2.2.2.1
theorem dX8_isFloor_13 : decode cX8_isFloor 13 = .ok (.goto 4, 3) := da9_dX8_isFloor_0.2.2.2.2.2.2.2.1
theorem dX8_isFloor_16 : decode cX8_isFloor 16 = .ok (.iconst 0, 1) := da9_dX8_isFloor_0.2.2.2.2.2.2.2.2.1
theorem dX8_isFloor_17 : decode cX8_isFloor 17 = .ok (.ireturn, 1) := da9_dX8_isFloor_0.2.2.2.2.2.2.2.2.2
theorem da9_dX8_has_0 : (decode cX8_has 0 = .ok (.iconst 0, 1)) ∧ (decode cX8_has 1 = .ok (.istore_n 2, 1)) ∧ (decode cX8_has 2 = .ok (.iload_n 2, 1)) ∧ (decode cX8_has 3 = .ok (.aload_n 0, 1)) ∧ (decode cX8_has 4 = .ok (.getfield 18, 3)) ∧ (decode cX8_has 7 = .ok (.if_icmp .ge 21, 3)) ∧ (decode cX8_has 10 = .ok (.aload_n 0, 1)) ∧ (decode cX8_has 11 = .ok (.getfield 9, 3)) ∧ (decode cX8_has 14 = .ok (.iload_n 2, 1)) ∧ (decode cX8_has 15 = .ok (.iaload, 1)) ∧ (decode cX8_has 16 = .ok (.iload_n 1, 1)) ∧ (decode cX8_has 17 = .ok (.if_icmp .ne 5, 3)) ∧ (decode cX8_has 20 = .ok (.iconst 1, 1)) ∧ (decode cX8_has 21 = .ok (.ireturn, 1)) ∧ (decode cX8_has 22 = .ok (.iinc 2 1, 3)) ∧ (decode cX8_has 25 = .ok (.goto (-23), 3)) := by decide +kernel
theorem dX8_has_0 : decode cX8_has 0 = .ok (.iconst 0, 1) := da9_dX8_has_0.1
theorem dX8_has_1 : decode cX8_has 1 = .ok (.istore_n 2, 1) := da9_dX8_has_0.2.1
theorem dX8_has_2 : decode cX8_has 2 = .ok (.iload_n 2, 1) := da9_dX8_has_0.2.2.1
theorem dX8_has_3 : decode cX8_has 3 = .ok (.aload_n 0, 1) := da9_dX8_has_0.2.2.2.1
theorem dX8_has_4 : decode cX8_has 4 = .ok (.getfield 18, 3) := da9_dX8_has_0.2.2.2.2.1
theorem dX8_has_7 : decode cX8_has 7 = .ok (.if_icmp .ge 21, 3) := da9_dX8_has_0.2.2.2.2.2.1
theorem dX8_has_10 : decode cX8_has 10 = .ok (.aload_n 0, 1) := da9_dX8_has_0.2.2.2.2.2.2.1
theorem dX8_has_11 : decode cX8_has 11 = .ok (.getfield 9, 3) := da9_dX8_has_0.2.2.2.2.2.2.2.1
theorem dX8_has_14 : decode cX8_has 14 = .ok (.iload_n 2, 1) := da9_dX8_has_0.2.2.2.2.2.2.2.2.1
theorem dX8_has_15 : decode cX8_has 15 = .ok (.iaload, 1) := da9_dX8_has_0.2.2.2.2.2.2.2.2.2.1
theorem dX8_has_16 : decode cX8_has 16 = .ok (.iload_n 1, 1) := da9_dX8_has_0.2.2.2.2.2.2.2.2.2.2.1
theorem dX8_has_17 : decode cX8_has 17 = .ok (.if_icmp .ne 5, 3) := da9_dX8_has_0.2.2.2.2.2.2.2.2.2.2.2.1
theorem dX8_has_20 : decode cX8_has 20 = .ok (.iconst 1, 1) := da9_dX8_has_0.2.2.2.2.2.2.2.2.2.2.2.2.1
theorem dX8_has_21 : decode cX8_has 21 = .ok (.ireturn, 1) := da9_dX8_has_0.2.2.2.2.2.2.2.2.2.2.2.2.2.1
theorem dX8_has_22 : decode cX8_has 22 = .ok (.iinc 2 1, 3) := da9_dX8_has_0.2.2.2.2.2.2.2.2.2.2.2.2.2.2.1
theorem dX8_has_25 : decode cX8_has 25 = .ok (.goto (-23), 3) := da9_dX8_has_0.2.2.2.2.2.2.2.2.2.2.2.2.2.2.2
theorem da9_dX8_has_28 : (decode cX8_has 28 = .ok (.iconst 0, 1)) ∧ (decode cX8_has 29 = .ok (.ireturn, 1)) := by decide +kernel
theorem dX8_has_28 : decode cX8_has 28 = .ok (.iconst 0, 1) := da9_dX8_has_28.1
theorem dX8_has_29 : decode cX8_has 29 = .ok (.ireturn, 1) := da9_dX8_has_28.2
theorem da9_dX8_add_0 : (decode cX8_add 0 = .ok (.aload_n 0, 1)) ∧ (decode cX8_add 1 = .ok (.getfield 18, 3)) ∧ (decode cX8_add 4 = .ok (.bipush 6, 2)) ∧ (decode cX8_add 6 = .ok (.if_icmp .lt 5, 3)) ∧ (decode cX8_add 9 = .ok (.iconst 0, 1)) ∧ (decode cX8_add 10 = .ok (.ireturn, 1)) ∧ (decode cX8_add 11 = .ok (.aload_n 0, 1)) ∧ (decode cX8_add 12 = .ok (.getfield 9, 3)) ∧ (decode cX8_add 15 = .ok (.aload_n 0, 1)) ∧ (decode cX8_add 16 = .ok (.getfield 18, 3)) ∧ (decode cX8_add 19 = .ok (.iload_n 1, 1)) ∧ (decode cX8_add 20 = .ok (.iastore, 1)) ∧ (decode cX8_add 21 = .ok (.aload_n 0, 1)) ∧ (decode cX8_add 22 = .ok (.getfield 15, 3)) ∧ (decode cX8_add 25 = .ok (.aload_n 0, 1)) ∧ (decode cX8_add 26 = .ok (.getfield 18, 3)) := by decide +kernel
theorem dX8_add_0 : decode cX8_add 0 = .ok (.aload_n 0, 1) := da9_dX8_add_0.1
theorem dX8_add_1 : decode cX8_add 1 = .ok (.getfield 18, 3) := da9_dX8_add_0.2.1
theorem dX8_add_4 : decode cX8_add 4 = .ok (.bipush 6, 2) := da9_dX8_add_0.2.2.1
theorem dX8_add_6 : decode cX8_add 6 = .ok (.if_icmp .lt 5, 3) := da9_dX8_add_0.2.2.2.1
theorem dX8_add_9 : decode cX8_add 9 = .ok (.iconst 0, 1) := da9_dX8_add_0.2.2.2.2.1
theorem dX8_add_10 : decode cX8_add 10 = .ok (.ireturn, 1) := da9_dX8_add_0.2.2.2.2.2.1
theorem dX8_add_11 : decode cX8_add 11 = .ok (.aload_n 0, 1) := da9_dX8_add_0.2.2.2.2.2.2.1
theorem dX8_add_12 : decode cX8_add 12 = .ok (.getfield 9, 3) := da9_dX8_add_0.2.2.2.2.2.2.2.1
theorem dX8_add_15 : decode cX8_add 15 = .ok (.aload_n 0, 1) := da9_dX8_add_0.2.2.2.2.2.2.2.2.1
theorem dX8_add_16 : decode cX8_add 16 = .ok (.getfield 18, 3) := da9_dX8_add_0.2.2.2.2.2.2.2.2.2.1
theorem dX8_add_19 : decode cX8_add 19 = .ok (.iload_n 1, 1) := da9_dX8_add_0.2.2.2.2.2.2.2.2.2.2.1
theorem dX8_add_20 : decode cX8_add 20 = .ok (.iastore, 1) := da9_dX8_add_0.2.2.2.2.2.2.2.2.2.2.2.1
theorem dX8_add_21 : decode cX8_add 21 = .ok (.aload_n 0, 1) := da9_dX8_add_0.2.2.2.2.2.2.2.2.2.2.2.2.1
theorem dX8_add_22 : decode cX8_add 22 = .ok (.getfield 15, 3) := da9_dX8_add_0.2.2.2.2.2.2.2.2.2.2.2.2.2.1
theorem dX8_add_25 : decode cX8_add 25 = .ok (.aload_n 0, 1) := da9_dX8_add_0.2.2.2.2.2.2.2.2.2.2.2.2.2.2.1
theorem dX8_add_26 : decode cX8_add 26 = .ok (.getfield 18, 3) := da9_dX8_add_0.2.2.2.2.2.2.2.2.2.2.2.2.2.2.2
theorem da9_dX8_add_29 : (decode cX8_add 29 = .ok (.iload_n 2, 1)) ∧ (decode cX8_add 30 = .ok (.iastore, 1)) ∧ (decode cX8_add 31 = .ok (.aload_n 0, 1)) ∧ (decode cX8_add 32 = .ok (.dup, 1)) ∧ (decode cX8_add 33 = .ok (.getfield 18, 3)) ∧ (decode cX8_add 36 = .ok (.iconst 1, 1)) ∧ (decode cX8_add 37 = .ok (.iadd, 1)) ∧ (decode cX8_add 38 = .ok (.putfield 18, 3)) ∧ (decode cX8_add 41 = .ok (.iconst 1, 1)) ∧ (decode cX8_add 42 = .ok (.ireturn, 1)) := by decide +kernel
theorem dX8_add_29 : decode cX8_add 29 = .ok (.iload_n 2, 1) := da9_dX8_add_29.1
theorem dX8_add_30 : decode cX8_add 30 = .ok (.iastore, 1) := da9_dX8_add_29.2.1
theorem dX8_add_31 : decode cX8_add 31 = .ok (.aload_n 0, 1) := da9_dX8_add_29.2.2.1
theorem dX8_add_32 : decode cX8_add 32 = .ok (.dup, 1) := da9_dX8_add_29.2.2.2.1
theorem dX8_add_33 : decode cX8_add 33 = .ok (.getfield 18, 3) := da9_dX8_add_29.2.2.2.2.1
theorem dX8_add_36 : decode cX8_add 36 = .ok (.iconst 1, 1) := da9_dX8_add_29.2.2.2.2.2.1
theorem dX8_add_37 : decode cX8_add 37 = .ok (.iadd, 1) := da9_dX8_add_29.2.2.2.2.2.2.1
theorem dX8_add_38 : decode cX8_add 38 = .ok (.putfield 18, 3) := da9_dX8_add_29.2.2.2.2.2.2.2.1
theorem dX8_add_41 : decode cX8_add 41 = .ok (.iconst 1, 1) := da9_dX8_add_29.2.2.2.2.2.2.2.2.1
theorem dX8_add_42 : decode cX8_add 42 = .ok (.ireturn, 1) := da9_dX8_add_29.2.2.2.2.2.2.2.2.2
set_option maxRecDepth 20000 in
theorem ggX8_tell_X8_isFloor : GoodIn wsX8_tell wsX8_isFloor := goodIn_r _ [7, 8, 12, 13, 14, 15, 16] rfl (by decide +kernel)
set_option maxRecDepth 20000 in
theorem gX8_tell_X8_isFloor : GoodIn wsX8_tell (wsV RX8 28 RX8 yX8_isFloor wsX8_isFloor) := goodIn_app (goodIn_of _ (by decide +kernel)) ggX8_tell_X8_isFloor
set_option maxRecDepth 20000 in
theorem ggX8_tell_X9_isBit : GoodIn wsX8_tell wsX9_isBit := goodIn_r _ [11] rfl (by decide +kernel)
set_option maxRecDepth 20000 in
theorem gX8_tell_X9_isBit_n32 : GoodIn wsX8_tell (wsX9_isBit) := ggX8_tell_X9_isBit
theorem da9_dX8_tell_0 : (decode cX8_tell 0 = .ok (.aload_n 0, 1)) ∧ (decode cX8_tell 1 = .ok (.iload_n 1, 1)) ∧ (decode cX8_tell 2 = .ok (.invokevirtual 28, 3)) ∧ (decode cX8_tell 5 = .ok (.ifCond .eq 10, 3)) ∧ (decode cX8_tell 8 = .ok (.iload_n 2, 1)) ∧ (decode cX8_tell 9 = .ok (.invokestatic 32, 3)) ∧ (decode cX8_tell 12 = .ok (.ifCond .ne 5, 3)) ∧ (decode cX8_tell 15 = .ok (.iconst (-1), 1)) ∧ (decode cX8_tell 16 = .ok (.ireturn, 1)) ∧ (decode cX8_tell 17 = .ok (.iload_n 2, 1)) ∧ (decode cX8_tell 18 = .ok (.ifCond .ne 12, 3)) ∧ (decode cX8_tell 21 = .ok (.aload_n 0, 1)) ∧ (decode cX8_tell 22 = .ok (.getfield 9, 3)) ∧ (decode cX8_tell 25 = .ok (.iload_n 1, 1)) ∧ (decode cX8_tell 26 = .ok (.iaload, 1)) ∧ (decode cX8_tell 27 = .ok (.goto 9, 3)) := by decide +kernel
theorem dX8_tell_0 : decode cX8_tell 0 = .ok (.aload_n 0, 1) := da9_dX8_tell_0.1
theorem dX8_tell_1 : decode cX8_tell 1 = .ok (.iload_n 1, 1) := da9_dX8_tell_0.2.1
theorem dX8_tell_2 : decode cX8_tell 2 = .ok (.invokevirtual 28, 3) := da9_dX8_tell_0.2.2.1
theorem dX8_tell_5 : decode cX8_tell 5 = .ok (.ifCond .eq 10, 3) := da9_dX8_tell_0.2.2.2.1
theorem dX8_tell_8 : decode cX8_tell 8 = .ok (.iload_n 2, 1) := da9_dX8_tell_0.2.2.2.2.1
theorem dX8_tell_9 : decode cX8_tell 9 = .ok (.invokestatic 32, 3) := da9_dX8_tell_0.2.2.2.2.2.1
theorem dX8_tell_12 : decode cX8_tell 12 = .ok (.ifCond .ne 5, 3) := da9_dX8_tell_0.2.2.2.2.2.2.1
theorem dX8_tell_15 : decode cX8_tell 15 = .ok (.iconst (-1), 1) := da9_dX8_tell_0.2.2.2.2.2.2.2.1
theorem dX8_tell_16 : decode cX8_tell 16 = .ok (.ireturn, 1) := da9_dX8_tell_0.2.2.2.2.2.2.2.2.1
theorem dX8_tell_17 : decode cX8_tell 17 = .ok (.iload_n 2, 1) := da9_dX8_tell_0.2.2.2.2.2.2.2.2.2.1
theorem dX8_tell_18 : decode cX8_tell 18 = .ok (.ifCond .ne 12, 3) := da9_dX8_tell_0.2.2.2.2.2.2.2.2.2.2.1
theorem dX8_tell_21 : decode cX8_tell 21 = .ok (.aload_n 0, 1) := da9_dX8_tell_0.2.2.2.2.2.2.2.2.2.2.2.1
theorem dX8_tell_22 : decode cX8_tell 22 = .ok (.getfield 9, 3) := da9_dX8_tell_0.2.2.2.2.2.2.2.2.2.2.2.2.1
theorem dX8_tell_25 : decode cX8_tell 25 = .ok (.iload_n 1, 1) := da9_dX8_tell_0.2.2.2.2.2.2.2.2.2.2.2.2.2.1
theorem dX8_tell_26 : decode cX8_tell 26 = .ok (.iaload, 1) := da9_dX8_tell_0.2.2.2.2.2.2.2.2.2.2.2.2.2.2.1
theorem dX8_tell_27 : decode cX8_tell 27 = .ok (.goto 9, 3) := da9_dX8_tell_0.2.2.2.2.2.2.2.2.2.2.2.2.2.2.2
theorem da9_dX8_tell_30 : (decode cX8_tell 30 = .ok (.aload_n 0, 1)) ∧ (decode cX8_tell 31 = .ok (.getfield 15, 3)) ∧ (decode cX8_tell 34 = .ok (.iload_n 1, 1)) ∧ (decode cX8_tell 35 = .ok (.iaload, 1)) ∧ (decode cX8_tell 36 = .ok (.ireturn, 1)) := by decide +kernel
theorem dX8_tell_30 : decode cX8_tell 30 = .ok (.aload_n 0, 1) := da9_dX8_tell_30.1
theorem dX8_tell_31 : decode cX8_tell 31 = .ok (.getfield 15, 3) := da9_dX8_tell_30.2.1
theorem dX8_tell_34 : decode cX8_tell 34 = .ok (.iload_n 1, 1) := da9_dX8_tell_30.2.2.1
theorem dX8_tell_35 : decode cX8_tell 35 = .ok (.iaload, 1) := da9_dX8_tell_30.2.2.2.1
theorem dX8_tell_36 : decode cX8_tell 36 = .ok (.ireturn, 1) := da9_dX8_tell_30.2.2.2.2
set_option maxRecDepth 20000 in
theorem ggX9_floor_X9_isRank : GoodIn wsX9_floor wsX9_isRank := goodIn_r _ [6] rfl (by decide +kernel)
set_option maxRecDepth 20000 in
theorem gX9_floor_X9_isRank : GoodIn wsX9_floor (va_wsS RX9 111 yX9_isRank wsX9_isRank) := goodIn_app (goodIn_of _ (by decide +kernel)) ggX9_floor_X9_isRank
set_option maxRecDepth 20000 in
theorem ggX9_floor_X9_isBit : GoodIn wsX9_floor wsX9_isBit := goodIn_r _ [9] rfl (by decide +kernel)
set_option maxRecDepth 20000 in
theorem gX9_floor_X9_isBit : GoodIn wsX9_floor (va_wsS RX9 115 yX9_isBit wsX9_isBit) := goodIn_app (goodIn_of _ (by decide +kernel)) ggX9_floor_X9_isBit
set_option maxRecDepth 20000 in
theorem ggX9_floor_X9_refuse : GoodIn wsX9_floor wsX9_refuse := goodIn_r _ [13, 14, 15, 38, 39, 40, 41, 42, 43, 44, 45, 46, 47, 48, 49, 50, 51, 52, 53, 54, 55, 56] rfl (by decide +kernel)
set_option maxRecDepth 20000 in
theorem gX9_floor_X9_refuse : GoodIn wsX9_floor (wsV RX9 118 RX9 yX9_refuse wsX9_refuse) := goodIn_app (goodIn_of _ (by decide +kernel)) ggX9_floor_X9_refuse
set_option maxRecDepth 20000 in
theorem ggX9_floor_X8_has : GoodIn wsX9_floor wsX8_has := goodIn_r _ [20, 21, 22, 67, 68, 69, 70, 71] rfl (by decide +kernel)
set_option maxRecDepth 20000 in
theorem gX9_floor_X8_has : GoodIn wsX9_floor (wsV RX9 125 RX8 yX8_has wsX8_has) := goodIn_app (goodIn_of _ (by decide +kernel)) ggX9_floor_X8_has
set_option maxRecDepth 20000 in
theorem ggX9_floor_X8_add : GoodIn wsX9_floor wsX8_add := goodIn_r _ [26, 21, 22, 27, 67, 68, 69, 70, 71] rfl (by decide +kernel)
set_option maxRecDepth 20000 in
theorem gX9_floor_X8_add : GoodIn wsX9_floor (wsV RX9 128 RX8 yX8_add wsX8_add) := goodIn_app (goodIn_of _ (by decide +kernel)) ggX9_floor_X8_add
set_option maxRecDepth 20000 in
theorem ggX9_floor_X0_clear : GoodIn wsX9_floor wsX0_clear := goodIn_r _ [32, 33, 72, 73, 74, 75, 76, 77] rfl (by decide +kernel)
set_option maxRecDepth 20000 in
theorem gX9_floor_X0_clear : GoodIn wsX9_floor (wsV RX9 132 RX0 yX0_clear wsX0_clear) := goodIn_app (goodIn_of _ (by decide +kernel)) ggX9_floor_X0_clear
set_option maxRecDepth 20000 in
theorem ggX9_floor_X9_accept : GoodIn wsX9_floor wsX9_accept := goodIn_r _ [37, 14, 38, 39, 40, 41, 42, 43, 44, 45, 46, 47, 48, 49, 50, 51, 52, 53, 54, 55, 56] rfl (by decide +kernel)
set_option maxRecDepth 20000 in
theorem gX9_floor_X9_accept : GoodIn wsX9_floor (wsV RX9 138 RX9 yX9_accept wsX9_accept) := goodIn_app (goodIn_of _ (by decide +kernel)) ggX9_floor_X9_accept
theorem da9_dX9_floor_0 : (decode cX9_floor 0 = .ok (.iload_n 1, 1)) ∧ (decode cX9_floor 1 = .ok (.invokestatic 111, 3)) ∧ (decode cX9_floor 4 = .ok (.ifCond .eq 10, 3)) ∧ (decode cX9_floor 7 = .ok (.iload_n 2, 1)) ∧ (decode cX9_floor 8 = .ok (.invokestatic 115, 3)) ∧ (decode cX9_floor 11 = .ok (.ifCond .ne 9, 3)) ∧ (decode cX9_floor 14 = .ok (.aload_n 0, 1)) ∧ (decode cX9_floor 15 = .ok (.iconst (-1), 1)) ∧ (decode cX9_floor 16 = .ok (.invokevirtual 118, 3)) ∧ (decode cX9_floor 19 = .ok (.ireturn, 1)) ∧ (decode cX9_floor 20 = .ok (.aload_n 0, 1)) ∧ (decode cX9_floor 21 = .ok (.getfield 10, 3)) ∧ (decode cX9_floor 24 = .ok (.getfield 122, 3)) ∧ (decode cX9_floor 27 = .ok (.iload_n 1, 1)) ∧ (decode cX9_floor 28 = .ok (.invokevirtual 125, 3)) ∧ (decode cX9_floor 31 = .ok (.ifCond .eq 10, 3)) := by decide +kernel
theorem dX9_floor_0 : decode cX9_floor 0 = .ok (.iload_n 1, 1) := da9_dX9_floor_0.1
theorem dX9_floor_1 : decode cX9_floor 1 = .ok (.invokestatic 111, 3) := da9_dX9_floor_0.2.1
theorem dX9_floor_4 : decode cX9_floor 4 = .ok (.ifCond .eq 10, 3) := da9_dX9_floor_0.2.2.1
theorem dX9_floor_7 : decode cX9_floor 7 = .ok (.iload_n 2, 1) := da9_dX9_floor_0.2.2.2.1
theorem dX9_floor_8 : decode cX9_floor 8 = .ok (.invokestatic 115, 3) := da9_dX9_floor_0.2.2.2.2.1
theorem dX9_floor_11 : decode cX9_floor 11 = .ok (.ifCond .ne 9, 3) := da9_dX9_floor_0.2.2.2.2.2.1
theorem dX9_floor_14 : decode cX9_floor 14 = .ok (.aload_n 0, 1) := da9_dX9_floor_0.2.2.2.2.2.2.1
theorem dX9_floor_15 : decode cX9_floor 15 = .ok (.iconst (-1), 1) := da9_dX9_floor_0.2.2.2.2.2.2.2.1
theorem dX9_floor_16 : decode cX9_floor 16 = .ok (.invokevirtual 118, 3) := da9_dX9_floor_0.2.2.2.2.2.2.2.2.1
theorem dX9_floor_19 : decode cX9_floor 19 = .ok (.ireturn, 1) := da9_dX9_floor_0.2.2.2.2.2.2.2.2.2.1
theorem dX9_floor_20 : decode cX9_floor 20 = .ok (.aload_n 0, 1) := da9_dX9_floor_0.2.2.2.2.2.2.2.2.2.2.1
theorem dX9_floor_21 : decode cX9_floor 21 = .ok (.getfield 10, 3) := da9_dX9_floor_0.2.2.2.2.2.2.2.2.2.2.2.1
theorem dX9_floor_24 : decode cX9_floor 24 = .ok (.getfield 122, 3) := da9_dX9_floor_0.2.2.2.2.2.2.2.2.2.2.2.2.1
theorem dX9_floor_27 : decode cX9_floor 27 = .ok (.iload_n 1, 1) := da9_dX9_floor_0.2.2.2.2.2.2.2.2.2.2.2.2.2.1
theorem dX9_floor_28 : decode cX9_floor 28 = .ok (.invokevirtual 125, 3) := da9_dX9_floor_0.2.2.2.2.2.2.2.2.2.2.2.2.2.2.1
theorem dX9_floor_31 : decode cX9_floor 31 = .ok (.ifCond .eq 10, 3) := da9_dX9_floor_0.2.2.2.2.2.2.2.2.2.2.2.2.2.2.2
theorem da9_dX9_floor_34 : (decode cX9_floor 34 = .ok (.aload_n 0, 1)) ∧ (decode cX9_floor 35 = .ok (.bipush (-3), 2)) ∧ (decode cX9_floor 37 = .ok (.invokevirtual 118, 3)) ∧ (decode cX9_floor 40 = .ok (.ireturn, 1)) ∧ (decode cX9_floor 41 = .ok (.aload_n 0, 1)) ∧ (decode cX9_floor 42 = .ok (.getfield 10, 3)) ∧ (decode cX9_floor 45 = .ok (.getfield 122, 3)) ∧ (decode cX9_floor 48 = .ok (.iload_n 1, 1)) ∧ (decode cX9_floor 49 = .ok (.iload_n 2, 1)) ∧ (decode cX9_floor 50 = .ok (.invokevirtual 128, 3)) ∧ (decode cX9_floor 53 = .ok (.ifCond .ne 10, 3)) ∧ (decode cX9_floor 56 = .ok (.aload_n 0, 1)) ∧ (decode cX9_floor 57 = .ok (.bipush (-5), 2)) ∧ (decode cX9_floor 59 = .ok (.invokevirtual 118, 3)) ∧ (decode cX9_floor 62 = .ok (.ireturn, 1)) ∧ (decode cX9_floor 63 = .ok (.aload_n 0, 1)) := by decide +kernel
theorem dX9_floor_34 : decode cX9_floor 34 = .ok (.aload_n 0, 1) := da9_dX9_floor_34.1
theorem dX9_floor_35 : decode cX9_floor 35 = .ok (.bipush (-3), 2) := da9_dX9_floor_34.2.1
theorem dX9_floor_37 : decode cX9_floor 37 = .ok (.invokevirtual 118, 3) := da9_dX9_floor_34.2.2.1
theorem dX9_floor_40 : decode cX9_floor 40 = .ok (.ireturn, 1) := da9_dX9_floor_34.2.2.2.1
theorem dX9_floor_41 : decode cX9_floor 41 = .ok (.aload_n 0, 1) := da9_dX9_floor_34.2.2.2.2.1
theorem dX9_floor_42 : decode cX9_floor 42 = .ok (.getfield 10, 3) := da9_dX9_floor_34.2.2.2.2.2.1
theorem dX9_floor_45 : decode cX9_floor 45 = .ok (.getfield 122, 3) := da9_dX9_floor_34.2.2.2.2.2.2.1
theorem dX9_floor_48 : decode cX9_floor 48 = .ok (.iload_n 1, 1) := da9_dX9_floor_34.2.2.2.2.2.2.2.1
theorem dX9_floor_49 : decode cX9_floor 49 = .ok (.iload_n 2, 1) := da9_dX9_floor_34.2.2.2.2.2.2.2.2.1
theorem dX9_floor_50 : decode cX9_floor 50 = .ok (.invokevirtual 128, 3) := da9_dX9_floor_34.2.2.2.2.2.2.2.2.2.1
theorem dX9_floor_53 : decode cX9_floor 53 = .ok (.ifCond .ne 10, 3) := da9_dX9_floor_34.2.2.2.2.2.2.2.2.2.2.1
theorem dX9_floor_56 : decode cX9_floor 56 = .ok (.aload_n 0, 1) := da9_dX9_floor_34.2.2.2.2.2.2.2.2.2.2.2.1
theorem dX9_floor_57 : decode cX9_floor 57 = .ok (.bipush (-5), 2) := da9_dX9_floor_34.2.2.2.2.2.2.2.2.2.2.2.2.1
theorem dX9_floor_59 : decode cX9_floor 59 = .ok (.invokevirtual 118, 3) := da9_dX9_floor_34.2.2.2.2.2.2.2.2.2.2.2.2.2.1
theorem dX9_floor_62 : decode cX9_floor 62 = .ok (.ireturn, 1) := da9_dX9_floor_34.2.2.2.2.2.2.2.2.2.2.2.2.2.2.1
theorem dX9_floor_63 : decode cX9_floor 63 = .ok (.aload_n 0, 1) := da9_dX9_floor_34.2.2.2.2.2.2.2.2.2.2.2.2.2.2.2
theorem da9_dX9_floor_64 : (decode cX9_floor 64 = .ok (.getfield 27, 3)) ∧ (decode cX9_floor 67 = .ok (.invokevirtual 132, 3)) ∧ (decode cX9_floor 70 = .ok (.aload_n 0, 1)) ∧ (decode cX9_floor 71 = .ok (.aload_n 0, 1)) ∧ (decode cX9_floor 72 = .ok (.getfield 10, 3)) ∧ (decode cX9_floor 75 = .ok (.getfield 122, 3)) ∧ (decode cX9_floor 78 = .ok (.getfield 135, 3)) ∧ (decode cX9_floor 81 = .ok (.iconst 1, 1)) ∧ (decode cX9_floor 82 = .ok (.isub, 1)) ∧ (decode cX9_floor 83 = .ok (.invokevirtual 138, 3)) ∧ (decode cX9_floor 86 = .ok (.ireturn, 1)) := by decide +kernel
theorem dX9_floor_64 : decode cX9_floor 64 = .ok (.getfield 27, 3) := da9_dX9_floor_64.1
theorem dX9_floor_67 : decode cX9_floor 67 = .ok (.invokevirtual 132, 3) := da9_dX9_floor_64.2.1
theorem dX9_floor_70 : decode cX9_floor 70 = .ok (.aload_n 0, 1) := da9_dX9_floor_64.2.2.1
theorem dX9_floor_71 : decode cX9_floor 71 = .ok (.aload_n 0, 1) := da9_dX9_floor_64.2.2.2.1
theorem dX9_floor_72 : decode cX9_floor 72 = .ok (.getfield 10, 3) := da9_dX9_floor_64.2.2.2.2.1
theorem dX9_floor_75 : decode cX9_floor 75 = .ok (.getfield 122, 3) := da9_dX9_floor_64.2.2.2.2.2.1
theorem dX9_floor_78 : decode cX9_floor 78 = .ok (.getfield 135, 3) := da9_dX9_floor_64.2.2.2.2.2.2.1
theorem dX9_floor_81 : decode cX9_floor 81 = .ok (.iconst 1, 1) := da9_dX9_floor_64.2.2.2.2.2.2.2.1
theorem dX9_floor_82 : decode cX9_floor 82 = .ok (.isub, 1) := da9_dX9_floor_64.2.2.2.2.2.2.2.2.1
theorem dX9_floor_83 : decode cX9_floor 83 = .ok (.invokevirtual 138, 3) := da9_dX9_floor_64.2.2.2.2.2.2.2.2.2.1
theorem dX9_floor_86 : decode cX9_floor 86 = .ok (.ireturn, 1) := da9_dX9_floor_64.2.2.2.2.2.2.2.2.2.2
theorem da9_dX9_refuse_0 : (decode cX9_refuse 0 = .ok (.aload_n 0, 1)) ∧ (decode cX9_refuse 1 = .ok (.iload_n 1, 1)) ∧ (decode cX9_refuse 2 = .ok (.putfield 108, 3)) ∧ (decode cX9_refuse 5 = .ok (.iload_n 1, 1)) ∧ (decode cX9_refuse 6 = .ok (.ifCond .ge 20, 3)) ∧ (decode cX9_refuse 9 = .ok (.iload_n 1, 1)) ∧ (decode cX9_refuse 10 = .ok (.bipush (-6), 2)) ∧ (decode cX9_refuse 12 = .ok (.if_icmp .lt 14, 3)) ∧ (decode cX9_refuse 15 = .ok (.aload_n 0, 1)) ∧ (decode cX9_refuse 16 = .ok (.getfield 105, 3)) ∧ (decode cX9_refuse 19 = .ok (.iload_n 1, 1)) ∧ (decode cX9_refuse 20 = .ok (.ineg, 1)) ∧ (decode cX9_refuse 21 = .ok (.dup2, 1)) ∧ (decode cX9_refuse 22 = .ok (.iaload, 1)) ∧ (decode cX9_refuse 23 = .ok (.iconst 1, 1)) ∧ (decode cX9_refuse 24 = .ok (.iadd, 1)) := by decide +kernel
theorem dX9_refuse_0 : decode cX9_refuse 0 = .ok (.aload_n 0, 1) := da9_dX9_refuse_0.1
theorem dX9_refuse_1 : decode cX9_refuse 1 = .ok (.iload_n 1, 1) := da9_dX9_refuse_0.2.1
theorem dX9_refuse_2 : decode cX9_refuse 2 = .ok (.putfield 108, 3) := da9_dX9_refuse_0.2.2.1
theorem dX9_refuse_5 : decode cX9_refuse 5 = .ok (.iload_n 1, 1) := da9_dX9_refuse_0.2.2.2.1
theorem dX9_refuse_6 : decode cX9_refuse 6 = .ok (.ifCond .ge 20, 3) := da9_dX9_refuse_0.2.2.2.2.1
theorem dX9_refuse_9 : decode cX9_refuse 9 = .ok (.iload_n 1, 1) := da9_dX9_refuse_0.2.2.2.2.2.1
theorem dX9_refuse_10 : decode cX9_refuse 10 = .ok (.bipush (-6), 2) := da9_dX9_refuse_0.2.2.2.2.2.2.1
theorem dX9_refuse_12 : decode cX9_refuse 12 = .ok (.if_icmp .lt 14, 3) := da9_dX9_refuse_0.2.2.2.2.2.2.2.1
theorem dX9_refuse_15 : decode cX9_refuse 15 = .ok (.aload_n 0, 1) := da9_dX9_refuse_0.2.2.2.2.2.2.2.2.1
theorem dX9_refuse_16 : decode cX9_refuse 16 = .ok (.getfield 105, 3) := da9_dX9_refuse_0.2.2.2.2.2.2.2.2.2.1
theorem dX9_refuse_19 : decode cX9_refuse 19 = .ok (.iload_n 1, 1) := da9_dX9_refuse_0.2.2.2.2.2.2.2.2.2.2.1
theorem dX9_refuse_20 : decode cX9_refuse 20 = .ok (.ineg, 1) := da9_dX9_refuse_0.2.2.2.2.2.2.2.2.2.2.2.1
theorem dX9_refuse_21 : decode cX9_refuse 21 = .ok (.dup2, 1) := da9_dX9_refuse_0.2.2.2.2.2.2.2.2.2.2.2.2.1
theorem dX9_refuse_22 : decode cX9_refuse 22 = .ok (.iaload, 1) := da9_dX9_refuse_0.2.2.2.2.2.2.2.2.2.2.2.2.2.1
theorem dX9_refuse_23 : decode cX9_refuse 23 = .ok (.iconst 1, 1) := da9_dX9_refuse_0.2.2.2.2.2.2.2.2.2.2.2.2.2.2.1
theorem dX9_refuse_24 : decode cX9_refuse 24 = .ok (.iadd, 1) := da9_dX9_refuse_0.2.2.2.2.2.2.2.2.2.2.2.2.2.2.2
theorem da9_dX9_refuse_25 : (decode cX9_refuse 25 = .ok (.iastore, 1)) ∧ (decode cX9_refuse 26 = .ok (.iload_n 1, 1)) ∧ (decode cX9_refuse 27 = .ok (.ireturn, 1)) := by decide +kernel
theorem dX9_refuse_25 : decode cX9_refuse 25 = .ok (.iastore, 1) := da9_dX9_refuse_25.1
theorem dX9_refuse_26 : decode cX9_refuse 26 = .ok (.iload_n 1, 1) := da9_dX9_refuse_25.2.1
theorem dX9_refuse_27 : decode cX9_refuse 27 = .ok (.ireturn, 1) := da9_dX9_refuse_25.2.2
theorem da9_dX9_accept_0 : (decode cX9_accept 0 = .ok (.aload_n 0, 1)) ∧ (decode cX9_accept 1 = .ok (.iconst 0, 1)) ∧ (decode cX9_accept 2 = .ok (.putfield 108, 3)) ∧ (decode cX9_accept 5 = .ok (.iload_n 1, 1)) ∧ (decode cX9_accept 6 = .ok (.ireturn, 1)) := by decide +kernel
theorem dX9_accept_0 : decode cX9_accept 0 = .ok (.aload_n 0, 1) := da9_dX9_accept_0.1
theorem dX9_accept_1 : decode cX9_accept 1 = .ok (.iconst 0, 1) := da9_dX9_accept_0.2.1
theorem dX9_accept_2 : decode cX9_accept 2 = .ok (.putfield 108, 3) := da9_dX9_accept_0.2.2.1
theorem dX9_accept_5 : decode cX9_accept 5 = .ok (.iload_n 1, 1) := da9_dX9_accept_0.2.2.2.1
theorem dX9_accept_6 : decode cX9_accept 6 = .ok (.ireturn, 1) := da9_dX9_accept_0.2.2.2.2
set_option maxRecDepth 20000 in
theorem ggX9_seated_X6_lawAt : GoodIn wsX9_seated wsX6_lawAt := goodIn_r _ [7, 8, 9, 10, 11, 6, 12, 13, 40, 41, 42, 43, 44, 45, 46, 47, 48, 49] rfl (by decide +kernel)
set_option maxRecDepth 20000 in
theorem gX9_seated_X6_lawAt : GoodIn wsX9_seated (wsV RX9 306 RX6 yX6_lawAt wsX6_lawAt) := goodIn_app (goodIn_of _ (by decide +kernel)) ggX9_seated_X6_lawAt
set_option maxRecDepth 20000 in
theorem ggX9_seated_X1_seat : GoodIn wsX9_seated wsX1_seat := goodIn_r _ [18, 19, 20, 50, 51, 52] rfl (by decide +kernel)
set_option maxRecDepth 20000 in
theorem gX9_seated_X1_seat : GoodIn wsX9_seated (wsV RX9 313 RX1 yX1_seat wsX1_seat) := goodIn_app (goodIn_of _ (by decide +kernel)) ggX9_seated_X1_seat
theorem da9_dX9_seated_0 : (decode cX9_seated 0 = .ok (.aload_n 0, 1)) ∧ (decode cX9_seated 1 = .ok (.getfield 50, 3)) ∧ (decode cX9_seated 4 = .ok (.aload_n 0, 1)) ∧ (decode cX9_seated 5 = .ok (.getfield 10, 3)) ∧ (decode cX9_seated 8 = .ok (.aload_n 0, 1)) ∧ (decode cX9_seated 9 = .ok (.getfield 10, 3)) ∧ (decode cX9_seated 12 = .ok (.getfield 208, 3)) ∧ (decode cX9_seated 15 = .ok (.invokevirtual 306, 3)) ∧ (decode cX9_seated 18 = .ok (.aload_n 0, 1)) ∧ (decode cX9_seated 19 = .ok (.getfield 10, 3)) ∧ (decode cX9_seated 22 = .ok (.getfield 310, 3)) ∧ (decode cX9_seated 25 = .ok (.invokevirtual 313, 3)) ∧ (decode cX9_seated 28 = .ok (.aload_n 0, 1)) ∧ (decode cX9_seated 29 = .ok (.getfield 50, 3)) ∧ (decode cX9_seated 32 = .ok (.areturn, 1)) := by decide +kernel
theorem dX9_seated_0 : decode cX9_seated 0 = .ok (.aload_n 0, 1) := da9_dX9_seated_0.1
theorem dX9_seated_1 : decode cX9_seated 1 = .ok (.getfield 50, 3) := da9_dX9_seated_0.2.1
theorem dX9_seated_4 : decode cX9_seated 4 = .ok (.aload_n 0, 1) := da9_dX9_seated_0.2.2.1
theorem dX9_seated_5 : decode cX9_seated 5 = .ok (.getfield 10, 3) := da9_dX9_seated_0.2.2.2.1
theorem dX9_seated_8 : decode cX9_seated 8 = .ok (.aload_n 0, 1) := da9_dX9_seated_0.2.2.2.2.1
theorem dX9_seated_9 : decode cX9_seated 9 = .ok (.getfield 10, 3) := da9_dX9_seated_0.2.2.2.2.2.1
theorem dX9_seated_12 : decode cX9_seated 12 = .ok (.getfield 208, 3) := da9_dX9_seated_0.2.2.2.2.2.2.1
theorem dX9_seated_15 : decode cX9_seated 15 = .ok (.invokevirtual 306, 3) := da9_dX9_seated_0.2.2.2.2.2.2.2.1
theorem dX9_seated_18 : decode cX9_seated 18 = .ok (.aload_n 0, 1) := da9_dX9_seated_0.2.2.2.2.2.2.2.2.1
theorem dX9_seated_19 : decode cX9_seated 19 = .ok (.getfield 10, 3) := da9_dX9_seated_0.2.2.2.2.2.2.2.2.2.1
theorem dX9_seated_22 : decode cX9_seated 22 = .ok (.getfield 310, 3) := da9_dX9_seated_0.2.2.2.2.2.2.2.2.2.2.1
theorem dX9_seated_25 : decode cX9_seated 25 = .ok (.invokevirtual 313, 3) := da9_dX9_seated_0.2.2.2.2.2.2.2.2.2.2.2.1
theorem dX9_seated_28 : decode cX9_seated 28 = .ok (.aload_n 0, 1) := da9_dX9_seated_0.2.2.2.2.2.2.2.2.2.2.2.2.1
theorem dX9_seated_29 : decode cX9_seated 29 = .ok (.getfield 50, 3) := da9_dX9_seated_0.2.2.2.2.2.2.2.2.2.2.2.2.2.1
theorem dX9_seated_32 : decode cX9_seated 32 = .ok (.areturn, 1) := da9_dX9_seated_0.2.2.2.2.2.2.2.2.2.2.2.2.2.2
theorem da9_dX9_isRank_0 : (decode cX9_isRank 0 = .ok (.iload_n 0, 1)) ∧ (decode cX9_isRank 1 = .ok (.ifCond .lt 13, 3)) ∧ (decode cX9_isRank 4 = .ok (.iload_n 0, 1)) ∧ (decode cX9_isRank 5 = .ok (.bipush 6, 2)) ∧ (decode cX9_isRank 7 = .ok (.if_icmp .ge 7, 3)) ∧ (decode cX9_isRank 10 = .ok (.iconst 1, 1)) ∧ (decode cX9_isRank 11 = .ok (.goto 4, 3)) ∧ (decode cX9_isRank 14 = .ok (.iconst 0, 1)) ∧ (decode cX9_isRank 15 = .ok (.ireturn, 1)) := by decide +kernel
theorem dX9_isRank_0 : decode cX9_isRank 0 = .ok (.iload_n 0, 1) := da9_dX9_isRank_0.1
theorem dX9_isRank_1 : decode cX9_isRank 1 = .ok (.ifCond .lt 13, 3) := da9_dX9_isRank_0.2.1
theorem dX9_isRank_4 : decode cX9_isRank 4 = .ok (.iload_n 0, 1) := da9_dX9_isRank_0.2.2.1
theorem dX9_isRank_5 : decode cX9_isRank 5 = .ok (.bipush 6, 2) := da9_dX9_isRank_0.2.2.2.1
theorem dX9_isRank_7 : decode cX9_isRank 7 = .ok (.if_icmp .ge 7, 3) := da9_dX9_isRank_0.2.2.2.2.1
theorem dX9_isRank_10 : decode cX9_isRank 10 = .ok (.iconst 1, 1) := da9_dX9_isRank_0.2.2.2.2.2.1
theorem dX9_isRank_11 : decode cX9_isRank 11 = .ok (.goto 4, 3) := da9_dX9_isRank_0.2.2.2.2.2.2.1
theorem dX9_isRank_14 : decode cX9_isRank 14 = .ok (.iconst 0, 1) := da9_dX9_isRank_0.2.2.2.2.2.2.2.1
theorem dX9_isRank_15 : decode cX9_isRank 15 = .ok (.ireturn, 1) := da9_dX9_isRank_0.2.2.2.2.2.2.2.2
theorem da9_dX9_isBit_0 : (decode cX9_isBit 0 = .ok (.iload_n 0, 1)) ∧ (decode cX9_isBit 1 = .ok (.ifCond .eq 8, 3)) ∧ (decode cX9_isBit 4 = .ok (.iload_n 0, 1)) ∧ (decode cX9_isBit 5 = .ok (.iconst 1, 1)) ∧ (decode cX9_isBit 6 = .ok (.if_icmp .ne 7, 3)) ∧ (decode cX9_isBit 9 = .ok (.iconst 1, 1)) ∧ (decode cX9_isBit 10 = .ok (.goto 4, 3)) ∧ (decode cX9_isBit 13 = .ok (.iconst 0, 1)) ∧ (decode cX9_isBit 14 = .ok (.ireturn, 1)) := by decide +kernel
theorem dX9_isBit_0 : decode cX9_isBit 0 = .ok (.iload_n 0, 1) := da9_dX9_isBit_0.1
theorem dX9_isBit_1 : decode cX9_isBit 1 = .ok (.ifCond .eq 8, 3) := da9_dX9_isBit_0.2.1
theorem dX9_isBit_4 : decode cX9_isBit 4 = .ok (.iload_n 0, 1) := da9_dX9_isBit_0.2.2.1
theorem dX9_isBit_5 : decode cX9_isBit 5 = .ok (.iconst 1, 1) := da9_dX9_isBit_0.2.2.2.1
theorem dX9_isBit_6 : decode cX9_isBit 6 = .ok (.if_icmp .ne 7, 3) := da9_dX9_isBit_0.2.2.2.2.1
theorem dX9_isBit_9 : decode cX9_isBit 9 = .ok (.iconst 1, 1) := da9_dX9_isBit_0.2.2.2.2.2.1
theorem dX9_isBit_10 : decode cX9_isBit 10 = .ok (.goto 4, 3) := da9_dX9_isBit_0.2.2.2.2.2.2.1
theorem dX9_isBit_13 : decode cX9_isBit 13 = .ok (.iconst 0, 1) := da9_dX9_isBit_0.2.2.2.2.2.2.2.1
theorem dX9_isBit_14 : decode cX9_isBit 14 = .ok (.ireturn, 1) := da9_dX9_isBit_0.2.2.2.2.2.2.2.2
