set_option maxRecDepth 20000 in
theorem ggX3_numberOfOrder_X9_bit : GoodIn wsX3_numberOfOrder wsX9_bit := goodIn_r _ [5] rfl (by decide +kernel)
set_option maxRecDepth 20000 in
theorem gX3_numberOfOrder_X9_bit_n133 : GoodIn wsX3_numberOfOrder (wsX9_bit) := ggX3_numberOfOrder_X9_bit
theorem da9_dX3_numberOfOrder_0 : (decode cX3_numberOfOrder 0 = .ok (.iconst 0, 1)) ∧ (decode cX3_numberOfOrder 1 = .ok (.istore_n 1, 1)) ∧ (decode cX3_numberOfOrder 2 = .ok (.iconst 0, 1)) ∧ (decode cX3_numberOfOrder 3 = .ok (.istore_n 2, 1)) ∧ (decode cX3_numberOfOrder 4 = .ok (.iload_n 2, 1)) ∧ (decode cX3_numberOfOrder 5 = .ok (.bipush 6, 2)) ∧ (decode cX3_numberOfOrder 7 = .ok (.if_icmp .ge 63, 3)) ∧ (decode cX3_numberOfOrder 10 = .ok (.iconst 0, 1)) ∧ (decode cX3_numberOfOrder 11 = .ok (.istore_n 3, 1)) ∧ (decode cX3_numberOfOrder 12 = .ok (.iconst 0, 1)) ∧ (decode cX3_numberOfOrder 13 = .ok (.istore 4, 2)) ∧ (decode cX3_numberOfOrder 15 = .ok (.iload 4, 2)) ∧ (decode cX3_numberOfOrder 17 = .ok (.iload_n 2, 1)) ∧ (decode cX3_numberOfOrder 18 = .ok (.if_icmp .ge 36, 3)) ∧ (decode cX3_numberOfOrder 21 = .ok (.iload_n 3, 1)) ∧ (decode cX3_numberOfOrder 22 = .ok (.aload_n 0, 1)) := by decide +kernel
theorem dX3_numberOfOrder_0 : decode cX3_numberOfOrder 0 = .ok (.iconst 0, 1) := da9_dX3_numberOfOrder_0.1
theorem dX3_numberOfOrder_1 : decode cX3_numberOfOrder 1 = .ok (.istore_n 1, 1) := da9_dX3_numberOfOrder_0.2.1
theorem dX3_numberOfOrder_2 : decode cX3_numberOfOrder 2 = .ok (.iconst 0, 1) := da9_dX3_numberOfOrder_0.2.2.1
theorem dX3_numberOfOrder_3 : decode cX3_numberOfOrder 3 = .ok (.istore_n 2, 1) := da9_dX3_numberOfOrder_0.2.2.2.1
theorem dX3_numberOfOrder_4 : decode cX3_numberOfOrder 4 = .ok (.iload_n 2, 1) := da9_dX3_numberOfOrder_0.2.2.2.2.1
theorem dX3_numberOfOrder_5 : decode cX3_numberOfOrder 5 = .ok (.bipush 6, 2) := da9_dX3_numberOfOrder_0.2.2.2.2.2.1
theorem dX3_numberOfOrder_7 : decode cX3_numberOfOrder 7 = .ok (.if_icmp .ge 63, 3) := da9_dX3_numberOfOrder_0.2.2.2.2.2.2.1
theorem dX3_numberOfOrder_10 : decode cX3_numberOfOrder 10 = .ok (.iconst 0, 1) := da9_dX3_numberOfOrder_0.2.2.2.2.2.2.2.1
theorem dX3_numberOfOrder_11 : decode cX3_numberOfOrder 11 = .ok (.istore_n 3, 1) := da9_dX3_numberOfOrder_0.2.2.2.2.2.2.2.2.1
theorem dX3_numberOfOrder_12 : decode cX3_numberOfOrder 12 = .ok (.iconst 0, 1) := da9_dX3_numberOfOrder_0.2.2.2.2.2.2.2.2.2.1
theorem dX3_numberOfOrder_13 : decode cX3_numberOfOrder 13 = .ok (.istore 4, 2) := da9_dX3_numberOfOrder_0.2.2.2.2.2.2.2.2.2.2.1
theorem dX3_numberOfOrder_15 : decode cX3_numberOfOrder 15 = .ok (.iload 4, 2) := da9_dX3_numberOfOrder_0.2.2.2.2.2.2.2.2.2.2.2.1
theorem dX3_numberOfOrder_17 : decode cX3_numberOfOrder 17 = .ok (.iload_n 2, 1) := da9_dX3_numberOfOrder_0.2.2.2.2.2.2.2.2.2.2.2.2.1
theorem dX3_numberOfOrder_18 : decode cX3_numberOfOrder 18 = .ok (.if_icmp .ge 36, 3) := da9_dX3_numberOfOrder_0.2.2.2.2.2.2.2.2.2.2.2.2.2.1
theorem dX3_numberOfOrder_21 : decode cX3_numberOfOrder 21 = .ok (.iload_n 3, 1) := da9_dX3_numberOfOrder_0.2.2.2.2.2.2.2.2.2.2.2.2.2.2.1
theorem dX3_numberOfOrder_22 : decode cX3_numberOfOrder 22 = .ok (.aload_n 0, 1) := da9_dX3_numberOfOrder_0.2.2.2.2.2.2.2.2.2.2.2.2.2.2.2
theorem da9_dX3_numberOfOrder_23 : (decode cX3_numberOfOrder 23 = .ok (.getfield 15, 3)) ∧ (decode cX3_numberOfOrder 26 = .ok (.iload 4, 2)) ∧ (decode cX3_numberOfOrder 28 = .ok (.iaload, 1)) ∧ (decode cX3_numberOfOrder 29 = .ok (.aload_n 0, 1)) ∧ (decode cX3_numberOfOrder 30 = .ok (.getfield 15, 3)) ∧ (decode cX3_numberOfOrder 33 = .ok (.iload_n 2, 1)) ∧ (decode cX3_numberOfOrder 34 = .ok (.iaload, 1)) ∧ (decode cX3_numberOfOrder 35 = .ok (.if_icmp .le 7, 3)) ∧ (decode cX3_numberOfOrder 38 = .ok (.iconst 1, 1)) ∧ (decode cX3_numberOfOrder 39 = .ok (.goto 4, 3)) ∧ (decode cX3_numberOfOrder 42 = .ok (.iconst 0, 1)) ∧ (decode cX3_numberOfOrder 43 = .ok (.invokestatic 133, 3)) ∧ (decode cX3_numberOfOrder 46 = .ok (.iadd, 1)) ∧ (decode cX3_numberOfOrder 47 = .ok (.istore_n 3, 1)) ∧ (decode cX3_numberOfOrder 48 = .ok (.iinc 4 1, 3)) ∧ (decode cX3_numberOfOrder 51 = .ok (.goto (-36), 3)) := by decide +kernel
theorem dX3_numberOfOrder_23 : decode cX3_numberOfOrder 23 = .ok (.getfield 15, 3) := da9_dX3_numberOfOrder_23.1
theorem dX3_numberOfOrder_26 : decode cX3_numberOfOrder 26 = .ok (.iload 4, 2) := da9_dX3_numberOfOrder_23.2.1
theorem dX3_numberOfOrder_28 : decode cX3_numberOfOrder 28 = .ok (.iaload, 1) := da9_dX3_numberOfOrder_23.2.2.1
theorem dX3_numberOfOrder_29 : decode cX3_numberOfOrder 29 = .ok (.aload_n 0, 1) := da9_dX3_numberOfOrder_23.2.2.2.1
theorem dX3_numberOfOrder_30 : decode cX3_numberOfOrder 30 = .ok (.getfield 15, 3) := da9_dX3_numberOfOrder_23.2.2.2.2.1
theorem dX3_numberOfOrder_33 : decode cX3_numberOfOrder 33 = .ok (.iload_n 2, 1) := da9_dX3_numberOfOrder_23.2.2.2.2.2.1
theorem dX3_numberOfOrder_34 : decode cX3_numberOfOrder 34 = .ok (.iaload, 1) := da9_dX3_numberOfOrder_23.2.2.2.2.2.2.1
theorem dX3_numberOfOrder_35 : decode cX3_numberOfOrder 35 = .ok (.if_icmp .le 7, 3) := da9_dX3_numberOfOrder_23.2.2.2.2.2.2.2.1
theorem dX3_numberOfOrder_38 : decode cX3_numberOfOrder 38 = .ok (.iconst 1, 1) := da9_dX3_numberOfOrder_23.2.2.2.2.2.2.2.2.1
theorem dX3_numberOfOrder_39 : decode cX3_numberOfOrder 39 = .ok (.goto 4, 3) := da9_dX3_numberOfOrder_23.2.2.2.2.2.2.2.2.2.1
theorem dX3_numberOfOrder_42 : decode cX3_numberOfOrder 42 = .ok (.iconst 0, 1) := da9_dX3_numberOfOrder_23.2.2.2.2.2.2.2.2.2.2.1
theorem dX3_numberOfOrder_43 : decode cX3_numberOfOrder 43 = .ok (.invokestatic 133, 3) := da9_dX3_numberOfOrder_23.2.2.2.2.2.2.2.2.2.2.2.1
theorem dX3_numberOfOrder_46 : decode cX3_numberOfOrder 46 = .ok (.iadd, 1) := da9_dX3_numberOfOrder_23.2.2.2.2.2.2.2.2.2.2.2.2.1
theorem dX3_numberOfOrder_47 : decode cX3_numberOfOrder 47 = .ok (.istore_n 3, 1) := da9_dX3_numberOfOrder_23.2.2.2.2.2.2.2.2.2.2.2.2.2.1
theorem dX3_numberOfOrder_48 : decode cX3_numberOfOrder 48 = .ok (.iinc 4 1, 3) := da9_dX3_numberOfOrder_23.2.2.2.2.2.2.2.2.2.2.2.2.2.2.1
theorem dX3_numberOfOrder_51 : decode cX3_numberOfOrder 51 = .ok (.goto (-36), 3) := da9_dX3_numberOfOrder_23.2.2.2.2.2.2.2.2.2.2.2.2.2.2.2
theorem da9_dX3_numberOfOrder_54 : (decode cX3_numberOfOrder 54 = .ok (.iload_n 1, 1)) ∧ (decode cX3_numberOfOrder 55 = .ok (.iload_n 3, 1)) ∧ (decode cX3_numberOfOrder 56 = .ok (.getstatic 76, 3)) ∧ (decode cX3_numberOfOrder 59 = .ok (.iload_n 2, 1)) ∧ (decode cX3_numberOfOrder 60 = .ok (.iaload, 1)) ∧ (decode cX3_numberOfOrder 61 = .ok (.imul, 1)) ∧ (decode cX3_numberOfOrder 62 = .ok (.iadd, 1)) ∧ (decode cX3_numberOfOrder 63 = .ok (.istore_n 1, 1)) ∧ (decode cX3_numberOfOrder 64 = .ok (.iinc 2 1, 3)) ∧ (decode cX3_numberOfOrder 67 = .ok (.goto (-63), 3)) ∧ (decode cX3_numberOfOrder 70 = .ok (.iload_n 1, 1)) ∧ (decode cX3_numberOfOrder 71 = .ok (.ireturn, 1)) := by decide +kernel
theorem dX3_numberOfOrder_54 : decode cX3_numberOfOrder 54 = .ok (.iload_n 1, 1) := da9_dX3_numberOfOrder_54.1
theorem dX3_numberOfOrder_55 : decode cX3_numberOfOrder 55 = .ok (.iload_n 3, 1) := da9_dX3_numberOfOrder_54.2.1
theorem dX3_numberOfOrder_56 : decode cX3_numberOfOrder 56 = .ok (.getstatic 76, 3) := da9_dX3_numberOfOrder_54.2.2.1
theorem dX3_numberOfOrder_59 : decode cX3_numberOfOrder 59 = .ok (.iload_n 2, 1) := da9_dX3_numberOfOrder_54.2.2.2.1
theorem dX3_numberOfOrder_60 : decode cX3_numberOfOrder 60 = .ok (.iaload, 1) := da9_dX3_numberOfOrder_54.2.2.2.2.1
theorem dX3_numberOfOrder_61 : decode cX3_numberOfOrder 61 = .ok (.imul, 1) := da9_dX3_numberOfOrder_54.2.2.2.2.2.1
theorem dX3_numberOfOrder_62 : decode cX3_numberOfOrder 62 = .ok (.iadd, 1) := da9_dX3_numberOfOrder_54.2.2.2.2.2.2.1
theorem dX3_numberOfOrder_63 : decode cX3_numberOfOrder 63 = .ok (.istore_n 1, 1) := da9_dX3_numberOfOrder_54.2.2.2.2.2.2.2.1
theorem dX3_numberOfOrder_64 : decode cX3_numberOfOrder 64 = .ok (.iinc 2 1, 3) := da9_dX3_numberOfOrder_54.2.2.2.2.2.2.2.2.1
theorem dX3_numberOfOrder_67 : decode cX3_numberOfOrder 67 = .ok (.goto (-63), 3) := da9_dX3_numberOfOrder_54.2.2.2.2.2.2.2.2.2.1
theorem dX3_numberOfOrder_70 : decode cX3_numberOfOrder 70 = .ok (.iload_n 1, 1) := da9_dX3_numberOfOrder_54.2.2.2.2.2.2.2.2.2.2.1
theorem dX3_numberOfOrder_71 : decode cX3_numberOfOrder 71 = .ok (.ireturn, 1) := da9_dX3_numberOfOrder_54.2.2.2.2.2.2.2.2.2.2.2
set_option maxRecDepth 20000 in
theorem ggX3_setDigits_X9_bit : GoodIn wsX3_setDigits wsX9_bit := goodIn_r _ [5] rfl (by decide +kernel)
set_option maxRecDepth 20000 in
theorem gX3_setDigits_X9_bit_n133 : GoodIn wsX3_setDigits (wsX9_bit) := ggX3_setDigits_X9_bit
theorem da9_dX3_setDigits_0 : (decode cX3_setDigits 0 = .ok (.iconst 0, 1)) ∧ (decode cX3_setDigits 1 = .ok (.istore_n 2, 1)) ∧ (decode cX3_setDigits 2 = .ok (.iload_n 2, 1)) ∧ (decode cX3_setDigits 3 = .ok (.bipush 6, 2)) ∧ (decode cX3_setDigits 5 = .ok (.if_icmp .ge 74, 3)) ∧ (decode cX3_setDigits 8 = .ok (.iload_n 2, 1)) ∧ (decode cX3_setDigits 9 = .ok (.iload_n 1, 1)) ∧ (decode cX3_setDigits 10 = .ok (.getstatic 76, 3)) ∧ (decode cX3_setDigits 13 = .ok (.iload_n 2, 1)) ∧ (decode cX3_setDigits 14 = .ok (.iaload, 1)) ∧ (decode cX3_setDigits 15 = .ok (.idiv, 1)) ∧ (decode cX3_setDigits 16 = .ok (.iload_n 2, 1)) ∧ (decode cX3_setDigits 17 = .ok (.iconst 1, 1)) ∧ (decode cX3_setDigits 18 = .ok (.iadd, 1)) ∧ (decode cX3_setDigits 19 = .ok (.irem, 1)) ∧ (decode cX3_setDigits 20 = .ok (.isub, 1)) := by decide +kernel
theorem dX3_setDigits_0 : decode cX3_setDigits 0 = .ok (.iconst 0, 1) := da9_dX3_setDigits_0.1
theorem dX3_setDigits_1 : decode cX3_setDigits 1 = .ok (.istore_n 2, 1) := da9_dX3_setDigits_0.2.1
theorem dX3_setDigits_2 : decode cX3_setDigits 2 = .ok (.iload_n 2, 1) := da9_dX3_setDigits_0.2.2.1
theorem dX3_setDigits_3 : decode cX3_setDigits 3 = .ok (.bipush 6, 2) := da9_dX3_setDigits_0.2.2.2.1
theorem dX3_setDigits_5 : decode cX3_setDigits 5 = .ok (.if_icmp .ge 74, 3) := da9_dX3_setDigits_0.2.2.2.2.1
theorem dX3_setDigits_8 : decode cX3_setDigits 8 = .ok (.iload_n 2, 1) := da9_dX3_setDigits_0.2.2.2.2.2.1
theorem dX3_setDigits_9 : decode cX3_setDigits 9 = .ok (.iload_n 1, 1) := da9_dX3_setDigits_0.2.2.2.2.2.2.1
theorem dX3_setDigits_10 : decode cX3_setDigits 10 = .ok (.getstatic 76, 3) := da9_dX3_setDigits_0.2.2.2.2.2.2.2.1
theorem dX3_setDigits_13 : decode cX3_setDigits 13 = .ok (.iload_n 2, 1) := da9_dX3_setDigits_0.2.2.2.2.2.2.2.2.1
theorem dX3_setDigits_14 : decode cX3_setDigits 14 = .ok (.iaload, 1) := da9_dX3_setDigits_0.2.2.2.2.2.2.2.2.2.1
theorem dX3_setDigits_15 : decode cX3_setDigits 15 = .ok (.idiv, 1) := da9_dX3_setDigits_0.2.2.2.2.2.2.2.2.2.2.1
theorem dX3_setDigits_16 : decode cX3_setDigits 16 = .ok (.iload_n 2, 1) := da9_dX3_setDigits_0.2.2.2.2.2.2.2.2.2.2.2.1
theorem dX3_setDigits_17 : decode cX3_setDigits 17 = .ok (.iconst 1, 1) := da9_dX3_setDigits_0.2.2.2.2.2.2.2.2.2.2.2.2.1
theorem dX3_setDigits_18 : decode cX3_setDigits 18 = .ok (.iadd, 1) := da9_dX3_setDigits_0.2.2.2.2.2.2.2.2.2.2.2.2.2.1
theorem dX3_setDigits_19 : decode cX3_setDigits 19 = .ok (.irem, 1) := da9_dX3_setDigits_0.2.2.2.2.2.2.2.2.2.2.2.2.2.2.1
theorem dX3_setDigits_20 : decode cX3_setDigits 20 = .ok (.isub, 1) := da9_dX3_setDigits_0.2.2.2.2.2.2.2.2.2.2.2.2.2.2.2
theorem da9_dX3_setDigits_21 : (decode cX3_setDigits 21 = .ok (.istore_n 3, 1)) ∧ (decode cX3_setDigits 22 = .ok (.iconst 0, 1)) ∧ (decode cX3_setDigits 23 = .ok (.istore 4, 2)) ∧ (decode cX3_setDigits 25 = .ok (.iload 4, 2)) ∧ (decode cX3_setDigits 27 = .ok (.iload_n 2, 1)) ∧ (decode cX3_setDigits 28 = .ok (.if_icmp .ge 38, 3)) ∧ (decode cX3_setDigits 31 = .ok (.aload_n 0, 1)) ∧ (decode cX3_setDigits 32 = .ok (.getfield 15, 3)) ∧ (decode cX3_setDigits 35 = .ok (.iload 4, 2)) ∧ (decode cX3_setDigits 37 = .ok (.dup2, 1)) ∧ (decode cX3_setDigits 38 = .ok (.iaload, 1)) ∧ (decode cX3_setDigits 39 = .ok (.aload_n 0, 1)) ∧ (decode cX3_setDigits 40 = .ok (.getfield 15, 3)) ∧ (decode cX3_setDigits 43 = .ok (.iload 4, 2)) ∧ (decode cX3_setDigits 45 = .ok (.iaload, 1)) ∧ (decode cX3_setDigits 46 = .ok (.iload_n 3, 1)) := by decide +kernel
theorem dX3_setDigits_21 : decode cX3_setDigits 21 = .ok (.istore_n 3, 1) := da9_dX3_setDigits_21.1
theorem dX3_setDigits_22 : decode cX3_setDigits 22 = .ok (.iconst 0, 1) := da9_dX3_setDigits_21.2.1
theorem dX3_setDigits_23 : decode cX3_setDigits 23 = .ok (.istore 4, 2) := da9_dX3_setDigits_21.2.2.1
theorem dX3_setDigits_25 : decode cX3_setDigits 25 = .ok (.iload 4, 2) := da9_dX3_setDigits_21.2.2.2.1
theorem dX3_setDigits_27 : decode cX3_setDigits 27 = .ok (.iload_n 2, 1) := da9_dX3_setDigits_21.2.2.2.2.1
theorem dX3_setDigits_28 : decode cX3_setDigits 28 = .ok (.if_icmp .ge 38, 3) := da9_dX3_setDigits_21.2.2.2.2.2.1
theorem dX3_setDigits_31 : decode cX3_setDigits 31 = .ok (.aload_n 0, 1) := da9_dX3_setDigits_21.2.2.2.2.2.2.1
theorem dX3_setDigits_32 : decode cX3_setDigits 32 = .ok (.getfield 15, 3) := da9_dX3_setDigits_21.2.2.2.2.2.2.2.1
theorem dX3_setDigits_35 : decode cX3_setDigits 35 = .ok (.iload 4, 2) := da9_dX3_setDigits_21.2.2.2.2.2.2.2.2.1
theorem dX3_setDigits_37 : decode cX3_setDigits 37 = .ok (.dup2, 1) := da9_dX3_setDigits_21.2.2.2.2.2.2.2.2.2.1
theorem dX3_setDigits_38 : decode cX3_setDigits 38 = .ok (.iaload, 1) := da9_dX3_setDigits_21.2.2.2.2.2.2.2.2.2.2.1
theorem dX3_setDigits_39 : decode cX3_setDigits 39 = .ok (.aload_n 0, 1) := da9_dX3_setDigits_21.2.2.2.2.2.2.2.2.2.2.2.1
theorem dX3_setDigits_40 : decode cX3_setDigits 40 = .ok (.getfield 15, 3) := da9_dX3_setDigits_21.2.2.2.2.2.2.2.2.2.2.2.2.1
theorem dX3_setDigits_43 : decode cX3_setDigits 43 = .ok (.iload 4, 2) := da9_dX3_setDigits_21.2.2.2.2.2.2.2.2.2.2.2.2.2.1
theorem dX3_setDigits_45 : decode cX3_setDigits 45 = .ok (.iaload, 1) := da9_dX3_setDigits_21.2.2.2.2.2.2.2.2.2.2.2.2.2.2.1
theorem dX3_setDigits_46 : decode cX3_setDigits 46 = .ok (.iload_n 3, 1) := da9_dX3_setDigits_21.2.2.2.2.2.2.2.2.2.2.2.2.2.2.2
theorem da9_dX3_setDigits_47 : (decode cX3_setDigits 47 = .ok (.if_icmp .lt 7, 3)) ∧ (decode cX3_setDigits 50 = .ok (.iconst 1, 1)) ∧ (decode cX3_setDigits 51 = .ok (.goto 4, 3)) ∧ (decode cX3_setDigits 54 = .ok (.iconst 0, 1)) ∧ (decode cX3_setDigits 55 = .ok (.invokestatic 133, 3)) ∧ (decode cX3_setDigits 58 = .ok (.iadd, 1)) ∧ (decode cX3_setDigits 59 = .ok (.iastore, 1)) ∧ (decode cX3_setDigits 60 = .ok (.iinc 4 1, 3)) ∧ (decode cX3_setDigits 63 = .ok (.goto (-38), 3)) ∧ (decode cX3_setDigits 66 = .ok (.aload_n 0, 1)) ∧ (decode cX3_setDigits 67 = .ok (.getfield 15, 3)) ∧ (decode cX3_setDigits 70 = .ok (.iload_n 2, 1)) ∧ (decode cX3_setDigits 71 = .ok (.iload_n 3, 1)) ∧ (decode cX3_setDigits 72 = .ok (.iastore, 1)) ∧ (decode cX3_setDigits 73 = .ok (.iinc 2 1, 3)) ∧ (decode cX3_setDigits 76 = .ok (.goto (-74), 3)) := by decide +kernel
theorem dX3_setDigits_47 : decode cX3_setDigits 47 = .ok (.if_icmp .lt 7, 3) := da9_dX3_setDigits_47.1
theorem dX3_setDigits_50 : decode cX3_setDigits 50 = .ok (.iconst 1, 1) := da9_dX3_setDigits_47.2.1
theorem dX3_setDigits_51 : decode cX3_setDigits 51 = .ok (.goto 4, 3) := da9_dX3_setDigits_47.2.2.1
theorem dX3_setDigits_54 : decode cX3_setDigits 54 = .ok (.iconst 0, 1) := da9_dX3_setDigits_47.2.2.2.1
theorem dX3_setDigits_55 : decode cX3_setDigits 55 = .ok (.invokestatic 133, 3) := da9_dX3_setDigits_47.2.2.2.2.1
theorem dX3_setDigits_58 : decode cX3_setDigits 58 = .ok (.iadd, 1) := da9_dX3_setDigits_47.2.2.2.2.2.1
theorem dX3_setDigits_59 : decode cX3_setDigits 59 = .ok (.iastore, 1) := da9_dX3_setDigits_47.2.2.2.2.2.2.1
theorem dX3_setDigits_60 : decode cX3_setDigits 60 = .ok (.iinc 4 1, 3) := da9_dX3_setDigits_47.2.2.2.2.2.2.2.1
theorem dX3_setDigits_63 : decode cX3_setDigits 63 = .ok (.goto (-38), 3) := da9_dX3_setDigits_47.2.2.2.2.2.2.2.2.1
theorem dX3_setDigits_66 : decode cX3_setDigits 66 = .ok (.aload_n 0, 1) := da9_dX3_setDigits_47.2.2.2.2.2.2.2.2.2.1
theorem dX3_setDigits_67 : decode cX3_setDigits 67 = .ok (.getfield 15, 3) := da9_dX3_setDigits_47.2.2.2.2.2.2.2.2.2.2.1
theorem dX3_setDigits_70 : decode cX3_setDigits 70 = .ok (.iload_n 2, 1) := da9_dX3_setDigits_47.2.2.2.2.2.2.2.2.2.2.2.1
theorem dX3_setDigits_71 : decode cX3_setDigits 71 = .ok (.iload_n 3, 1) := da9_dX3_setDigits_47.2.2.2.2.2.2.2.2.2.2.2.2.1
theorem dX3_setDigits_72 : decode cX3_setDigits 72 = .ok (.iastore, 1) := da9_dX3_setDigits_47.2.2.2.2.2.2.2.2.2.2.2.2.2.1
theorem dX3_setDigits_73 : decode cX3_setDigits 73 = .ok (.iinc 2 1, 3) := da9_dX3_setDigits_47.2.2.2.2.2.2.2.2.2.2.2.2.2.2.1
theorem dX3_setDigits_76 : decode cX3_setDigits 76 = .ok (.goto (-74), 3) := da9_dX3_setDigits_47.2.2.2.2.2.2.2.2.2.2.2.2.2.2.2
theorem dX3_setDigits_79 : decode cX3_setDigits 79 = .ok (.return_, 1) := by decide +kernel
set_option maxRecDepth 20000 in
theorem ggX3_listOrder_X3_setDigits : GoodIn wsX3_listOrder wsX3_setDigits := goodIn_r _ [9, 10, 2, 11, 12, 13, 18, 19, 20, 21, 22, 23, 24, 25, 26, 27, 28, 29, 30, 31, 32, 33, 34, 35, 36, 37] rfl (by decide +kernel)
set_option maxRecDepth 20000 in
theorem gX3_listOrder_X3_setDigits : GoodIn wsX3_listOrder (wsV RX3 197 RX3 yX3_setDigits wsX3_setDigits) := goodIn_app (goodIn_of _ (by decide +kernel)) ggX3_listOrder_X3_setDigits
set_option maxRecDepth 20000 in
theorem ggX3_listOrder_X3_numberOfOrder : GoodIn wsX3_listOrder wsX3_numberOfOrder := goodIn_r _ [17, 2, 10, 11, 12, 13, 18, 19, 20, 21, 22, 23, 24, 25, 26, 27, 28, 29, 30, 31, 32, 33, 34, 35, 36, 37] rfl (by decide +kernel)
set_option maxRecDepth 20000 in
theorem gX3_listOrder_X3_numberOfOrder : GoodIn wsX3_listOrder (wsV RX3 96 RX3 yX3_numberOfOrder wsX3_numberOfOrder) := goodIn_app (goodIn_of _ (by decide +kernel)) ggX3_listOrder_X3_numberOfOrder
theorem da9_dX3_listOrder_0 : (decode cX3_listOrder 0 = .ok (.aload_n 0, 1)) ∧ (decode cX3_listOrder 1 = .ok (.iload_n 1, 1)) ∧ (decode cX3_listOrder 2 = .ok (.invokevirtual 197, 3)) ∧ (decode cX3_listOrder 5 = .ok (.iconst 0, 1)) ∧ (decode cX3_listOrder 6 = .ok (.istore_n 2, 1)) ∧ (decode cX3_listOrder 7 = .ok (.iload_n 2, 1)) ∧ (decode cX3_listOrder 8 = .ok (.bipush 6, 2)) ∧ (decode cX3_listOrder 10 = .ok (.if_icmp .ge 28, 3)) ∧ (decode cX3_listOrder 13 = .ok (.aload_n 0, 1)) ∧ (decode cX3_listOrder 14 = .ok (.getfield 30, 3)) ∧ (decode cX3_listOrder 17 = .ok (.iload_n 1, 1)) ∧ (decode cX3_listOrder 18 = .ok (.dup2, 1)) ∧ (decode cX3_listOrder 19 = .ok (.iaload, 1)) ∧ (decode cX3_listOrder 20 = .ok (.aload_n 0, 1)) ∧ (decode cX3_listOrder 21 = .ok (.getfield 15, 3)) ∧ (decode cX3_listOrder 24 = .ok (.iload_n 2, 1)) := by decide +kernel
theorem dX3_listOrder_0 : decode cX3_listOrder 0 = .ok (.aload_n 0, 1) := da9_dX3_listOrder_0.1
theorem dX3_listOrder_1 : decode cX3_listOrder 1 = .ok (.iload_n 1, 1) := da9_dX3_listOrder_0.2.1
theorem dX3_listOrder_2 : decode cX3_listOrder 2 = .ok (.invokevirtual 197, 3) := da9_dX3_listOrder_0.2.2.1
theorem dX3_listOrder_5 : decode cX3_listOrder 5 = .ok (.iconst 0, 1) := da9_dX3_listOrder_0.2.2.2.1
theorem dX3_listOrder_6 : decode cX3_listOrder 6 = .ok (.istore_n 2, 1) := da9_dX3_listOrder_0.2.2.2.2.1
theorem dX3_listOrder_7 : decode cX3_listOrder 7 = .ok (.iload_n 2, 1) := da9_dX3_listOrder_0.2.2.2.2.2.1
theorem dX3_listOrder_8 : decode cX3_listOrder 8 = .ok (.bipush 6, 2) := da9_dX3_listOrder_0.2.2.2.2.2.2.1
theorem dX3_listOrder_10 : decode cX3_listOrder 10 = .ok (.if_icmp .ge 28, 3) := da9_dX3_listOrder_0.2.2.2.2.2.2.2.1
theorem dX3_listOrder_13 : decode cX3_listOrder 13 = .ok (.aload_n 0, 1) := da9_dX3_listOrder_0.2.2.2.2.2.2.2.2.1
theorem dX3_listOrder_14 : decode cX3_listOrder 14 = .ok (.getfield 30, 3) := da9_dX3_listOrder_0.2.2.2.2.2.2.2.2.2.1
theorem dX3_listOrder_17 : decode cX3_listOrder 17 = .ok (.iload_n 1, 1) := da9_dX3_listOrder_0.2.2.2.2.2.2.2.2.2.2.1
theorem dX3_listOrder_18 : decode cX3_listOrder 18 = .ok (.dup2, 1) := da9_dX3_listOrder_0.2.2.2.2.2.2.2.2.2.2.2.1
theorem dX3_listOrder_19 : decode cX3_listOrder 19 = .ok (.iaload, 1) := da9_dX3_listOrder_0.2.2.2.2.2.2.2.2.2.2.2.2.1
theorem dX3_listOrder_20 : decode cX3_listOrder 20 = .ok (.aload_n 0, 1) := da9_dX3_listOrder_0.2.2.2.2.2.2.2.2.2.2.2.2.2.1
theorem dX3_listOrder_21 : decode cX3_listOrder 21 = .ok (.getfield 15, 3) := da9_dX3_listOrder_0.2.2.2.2.2.2.2.2.2.2.2.2.2.2.1
theorem dX3_listOrder_24 : decode cX3_listOrder 24 = .ok (.iload_n 2, 1) := da9_dX3_listOrder_0.2.2.2.2.2.2.2.2.2.2.2.2.2.2.2
theorem da9_dX3_listOrder_25 : (decode cX3_listOrder 25 = .ok (.iaload, 1)) ∧ (decode cX3_listOrder 26 = .ok (.iconst 3, 1)) ∧ (decode cX3_listOrder 27 = .ok (.iload_n 2, 1)) ∧ (decode cX3_listOrder 28 = .ok (.imul, 1)) ∧ (decode cX3_listOrder 29 = .ok (.ishl, 1)) ∧ (decode cX3_listOrder 30 = .ok (.ior, 1)) ∧ (decode cX3_listOrder 31 = .ok (.iastore, 1)) ∧ (decode cX3_listOrder 32 = .ok (.iinc 2 1, 3)) ∧ (decode cX3_listOrder 35 = .ok (.goto (-28), 3)) ∧ (decode cX3_listOrder 38 = .ok (.iconst 1, 1)) ∧ (decode cX3_listOrder 39 = .ok (.istore_n 2, 1)) ∧ (decode cX3_listOrder 40 = .ok (.iload_n 2, 1)) ∧ (decode cX3_listOrder 41 = .ok (.aload_n 0, 1)) ∧ (decode cX3_listOrder 42 = .ok (.getfield 51, 3)) ∧ (decode cX3_listOrder 45 = .ok (.if_icmp .gt 83, 3)) ∧ (decode cX3_listOrder 48 = .ok (.aload_n 0, 1)) := by decide +kernel
theorem dX3_listOrder_25 : decode cX3_listOrder 25 = .ok (.iaload, 1) := da9_dX3_listOrder_25.1
theorem dX3_listOrder_26 : decode cX3_listOrder 26 = .ok (.iconst 3, 1) := da9_dX3_listOrder_25.2.1
theorem dX3_listOrder_27 : decode cX3_listOrder 27 = .ok (.iload_n 2, 1) := da9_dX3_listOrder_25.2.2.1
theorem dX3_listOrder_28 : decode cX3_listOrder 28 = .ok (.imul, 1) := da9_dX3_listOrder_25.2.2.2.1
theorem dX3_listOrder_29 : decode cX3_listOrder 29 = .ok (.ishl, 1) := da9_dX3_listOrder_25.2.2.2.2.1
theorem dX3_listOrder_30 : decode cX3_listOrder 30 = .ok (.ior, 1) := da9_dX3_listOrder_25.2.2.2.2.2.1
theorem dX3_listOrder_31 : decode cX3_listOrder 31 = .ok (.iastore, 1) := da9_dX3_listOrder_25.2.2.2.2.2.2.1
theorem dX3_listOrder_32 : decode cX3_listOrder 32 = .ok (.iinc 2 1, 3) := da9_dX3_listOrder_25.2.2.2.2.2.2.2.1
theorem dX3_listOrder_35 : decode cX3_listOrder 35 = .ok (.goto (-28), 3) := da9_dX3_listOrder_25.2.2.2.2.2.2.2.2.1
theorem dX3_listOrder_38 : decode cX3_listOrder 38 = .ok (.iconst 1, 1) := da9_dX3_listOrder_25.2.2.2.2.2.2.2.2.2.1
theorem dX3_listOrder_39 : decode cX3_listOrder 39 = .ok (.istore_n 2, 1) := da9_dX3_listOrder_25.2.2.2.2.2.2.2.2.2.2.1
theorem dX3_listOrder_40 : decode cX3_listOrder 40 = .ok (.iload_n 2, 1) := da9_dX3_listOrder_25.2.2.2.2.2.2.2.2.2.2.2.1
theorem dX3_listOrder_41 : decode cX3_listOrder 41 = .ok (.aload_n 0, 1) := da9_dX3_listOrder_25.2.2.2.2.2.2.2.2.2.2.2.2.1
theorem dX3_listOrder_42 : decode cX3_listOrder 42 = .ok (.getfield 51, 3) := da9_dX3_listOrder_25.2.2.2.2.2.2.2.2.2.2.2.2.2.1
theorem dX3_listOrder_45 : decode cX3_listOrder 45 = .ok (.if_icmp .gt 83, 3) := da9_dX3_listOrder_25.2.2.2.2.2.2.2.2.2.2.2.2.2.2.1
theorem dX3_listOrder_48 : decode cX3_listOrder 48 = .ok (.aload_n 0, 1) := da9_dX3_listOrder_25.2.2.2.2.2.2.2.2.2.2.2.2.2.2.2
theorem da9_dX3_listOrder_49 : (decode cX3_listOrder 49 = .ok (.iload_n 1, 1)) ∧ (decode cX3_listOrder 50 = .ok (.invokevirtual 197, 3)) ∧ (decode cX3_listOrder 53 = .ok (.iconst 0, 1)) ∧ (decode cX3_listOrder 54 = .ok (.istore_n 3, 1)) ∧ (decode cX3_listOrder 55 = .ok (.iload_n 2, 1)) ∧ (decode cX3_listOrder 56 = .ok (.iconst 1, 1)) ∧ (decode cX3_listOrder 57 = .ok (.isub, 1)) ∧ (decode cX3_listOrder 58 = .ok (.istore 4, 2)) ∧ (decode cX3_listOrder 60 = .ok (.iload_n 3, 1)) ∧ (decode cX3_listOrder 61 = .ok (.iload 4, 2)) ∧ (decode cX3_listOrder 63 = .ok (.if_icmp .ge 42, 3)) ∧ (decode cX3_listOrder 66 = .ok (.aload_n 0, 1)) ∧ (decode cX3_listOrder 67 = .ok (.getfield 15, 3)) ∧ (decode cX3_listOrder 70 = .ok (.iload_n 3, 1)) ∧ (decode cX3_listOrder 71 = .ok (.iaload, 1)) ∧ (decode cX3_listOrder 72 = .ok (.istore 5, 2)) := by decide +kernel
theorem dX3_listOrder_49 : decode cX3_listOrder 49 = .ok (.iload_n 1, 1) := da9_dX3_listOrder_49.1
theorem dX3_listOrder_50 : decode cX3_listOrder 50 = .ok (.invokevirtual 197, 3) := da9_dX3_listOrder_49.2.1
theorem dX3_listOrder_53 : decode cX3_listOrder 53 = .ok (.iconst 0, 1) := da9_dX3_listOrder_49.2.2.1
theorem dX3_listOrder_54 : decode cX3_listOrder 54 = .ok (.istore_n 3, 1) := da9_dX3_listOrder_49.2.2.2.1
theorem dX3_listOrder_55 : decode cX3_listOrder 55 = .ok (.iload_n 2, 1) := da9_dX3_listOrder_49.2.2.2.2.1
theorem dX3_listOrder_56 : decode cX3_listOrder 56 = .ok (.iconst 1, 1) := da9_dX3_listOrder_49.2.2.2.2.2.1
theorem dX3_listOrder_57 : decode cX3_listOrder 57 = .ok (.isub, 1) := da9_dX3_listOrder_49.2.2.2.2.2.2.1
theorem dX3_listOrder_58 : decode cX3_listOrder 58 = .ok (.istore 4, 2) := da9_dX3_listOrder_49.2.2.2.2.2.2.2.1
theorem dX3_listOrder_60 : decode cX3_listOrder 60 = .ok (.iload_n 3, 1) := da9_dX3_listOrder_49.2.2.2.2.2.2.2.2.1
theorem dX3_listOrder_61 : decode cX3_listOrder 61 = .ok (.iload 4, 2) := da9_dX3_listOrder_49.2.2.2.2.2.2.2.2.2.1
theorem dX3_listOrder_63 : decode cX3_listOrder 63 = .ok (.if_icmp .ge 42, 3) := da9_dX3_listOrder_49.2.2.2.2.2.2.2.2.2.2.1
theorem dX3_listOrder_66 : decode cX3_listOrder 66 = .ok (.aload_n 0, 1) := da9_dX3_listOrder_49.2.2.2.2.2.2.2.2.2.2.2.1
theorem dX3_listOrder_67 : decode cX3_listOrder 67 = .ok (.getfield 15, 3) := da9_dX3_listOrder_49.2.2.2.2.2.2.2.2.2.2.2.2.1
theorem dX3_listOrder_70 : decode cX3_listOrder 70 = .ok (.iload_n 3, 1) := da9_dX3_listOrder_49.2.2.2.2.2.2.2.2.2.2.2.2.2.1
theorem dX3_listOrder_71 : decode cX3_listOrder 71 = .ok (.iaload, 1) := da9_dX3_listOrder_49.2.2.2.2.2.2.2.2.2.2.2.2.2.2.1
theorem dX3_listOrder_72 : decode cX3_listOrder 72 = .ok (.istore 5, 2) := da9_dX3_listOrder_49.2.2.2.2.2.2.2.2.2.2.2.2.2.2.2
theorem da9_dX3_listOrder_74 : (decode cX3_listOrder 74 = .ok (.aload_n 0, 1)) ∧ (decode cX3_listOrder 75 = .ok (.getfield 15, 3)) ∧ (decode cX3_listOrder 78 = .ok (.iload_n 3, 1)) ∧ (decode cX3_listOrder 79 = .ok (.aload_n 0, 1)) ∧ (decode cX3_listOrder 80 = .ok (.getfield 15, 3)) ∧ (decode cX3_listOrder 83 = .ok (.iload 4, 2)) ∧ (decode cX3_listOrder 85 = .ok (.iaload, 1)) ∧ (decode cX3_listOrder 86 = .ok (.iastore, 1)) ∧ (decode cX3_listOrder 87 = .ok (.aload_n 0, 1)) ∧ (decode cX3_listOrder 88 = .ok (.getfield 15, 3)) ∧ (decode cX3_listOrder 91 = .ok (.iload 4, 2)) ∧ (decode cX3_listOrder 93 = .ok (.iload 5, 2)) ∧ (decode cX3_listOrder 95 = .ok (.iastore, 1)) ∧ (decode cX3_listOrder 96 = .ok (.iinc 3 1, 3)) ∧ (decode cX3_listOrder 99 = .ok (.iinc 4 (-1), 3)) ∧ (decode cX3_listOrder 102 = .ok (.goto (-42), 3)) := by decide +kernel
theorem dX3_listOrder_74 : decode cX3_listOrder 74 = .ok (.aload_n 0, 1) := da9_dX3_listOrder_74.1
theorem dX3_listOrder_75 : decode cX3_listOrder 75 = .ok (.getfield 15, 3) := da9_dX3_listOrder_74.2.1
theorem dX3_listOrder_78 : decode cX3_listOrder 78 = .ok (.iload_n 3, 1) := da9_dX3_listOrder_74.2.2.1
theorem dX3_listOrder_79 : decode cX3_listOrder 79 = .ok (.aload_n 0, 1) := da9_dX3_listOrder_74.2.2.2.1
theorem dX3_listOrder_80 : decode cX3_listOrder 80 = .ok (.getfield 15, 3) := da9_dX3_listOrder_74.2.2.2.2.1
theorem dX3_listOrder_83 : decode cX3_listOrder 83 = .ok (.iload 4, 2) := da9_dX3_listOrder_74.2.2.2.2.2.1
theorem dX3_listOrder_85 : decode cX3_listOrder 85 = .ok (.iaload, 1) := da9_dX3_listOrder_74.2.2.2.2.2.2.1
theorem dX3_listOrder_86 : decode cX3_listOrder 86 = .ok (.iastore, 1) := da9_dX3_listOrder_74.2.2.2.2.2.2.2.1
theorem dX3_listOrder_87 : decode cX3_listOrder 87 = .ok (.aload_n 0, 1) := da9_dX3_listOrder_74.2.2.2.2.2.2.2.2.1
theorem dX3_listOrder_88 : decode cX3_listOrder 88 = .ok (.getfield 15, 3) := da9_dX3_listOrder_74.2.2.2.2.2.2.2.2.2.1
theorem dX3_listOrder_91 : decode cX3_listOrder 91 = .ok (.iload 4, 2) := da9_dX3_listOrder_74.2.2.2.2.2.2.2.2.2.2.1
theorem dX3_listOrder_93 : decode cX3_listOrder 93 = .ok (.iload 5, 2) := da9_dX3_listOrder_74.2.2.2.2.2.2.2.2.2.2.2.1
theorem dX3_listOrder_95 : decode cX3_listOrder 95 = .ok (.iastore, 1) := da9_dX3_listOrder_74.2.2.2.2.2.2.2.2.2.2.2.2.1
theorem dX3_listOrder_96 : decode cX3_listOrder 96 = .ok (.iinc 3 1, 3) := da9_dX3_listOrder_74.2.2.2.2.2.2.2.2.2.2.2.2.2.1
theorem dX3_listOrder_99 : decode cX3_listOrder 99 = .ok (.iinc 4 (-1), 3) := da9_dX3_listOrder_74.2.2.2.2.2.2.2.2.2.2.2.2.2.2.1
theorem dX3_listOrder_102 : decode cX3_listOrder 102 = .ok (.goto (-42), 3) := da9_dX3_listOrder_74.2.2.2.2.2.2.2.2.2.2.2.2.2.2.2
theorem da9_dX3_listOrder_105 : (decode cX3_listOrder 105 = .ok (.aload_n 0, 1)) ∧ (decode cX3_listOrder 106 = .ok (.getfield 33, 3)) ∧ (decode cX3_listOrder 109 = .ok (.iload_n 1, 1)) ∧ (decode cX3_listOrder 110 = .ok (.bipush 6, 2)) ∧ (decode cX3_listOrder 112 = .ok (.imul, 1)) ∧ (decode cX3_listOrder 113 = .ok (.iload_n 2, 1)) ∧ (decode cX3_listOrder 114 = .ok (.iadd, 1)) ∧ (decode cX3_listOrder 115 = .ok (.iconst 1, 1)) ∧ (decode cX3_listOrder 116 = .ok (.isub, 1)) ∧ (decode cX3_listOrder 117 = .ok (.aload_n 0, 1)) ∧ (decode cX3_listOrder 118 = .ok (.invokevirtual 96, 3)) ∧ (decode cX3_listOrder 121 = .ok (.iastore, 1)) ∧ (decode cX3_listOrder 122 = .ok (.iinc 2 1, 3)) ∧ (decode cX3_listOrder 125 = .ok (.goto (-85), 3)) ∧ (decode cX3_listOrder 128 = .ok (.return_, 1)) := by decide +kernel
theorem dX3_listOrder_105 : decode cX3_listOrder 105 = .ok (.aload_n 0, 1) := da9_dX3_listOrder_105.1
theorem dX3_listOrder_106 : decode cX3_listOrder 106 = .ok (.getfield 33, 3) := da9_dX3_listOrder_105.2.1
theorem dX3_listOrder_109 : decode cX3_listOrder 109 = .ok (.iload_n 1, 1) := da9_dX3_listOrder_105.2.2.1
theorem dX3_listOrder_110 : decode cX3_listOrder 110 = .ok (.bipush 6, 2) := da9_dX3_listOrder_105.2.2.2.1
theorem dX3_listOrder_112 : decode cX3_listOrder 112 = .ok (.imul, 1) := da9_dX3_listOrder_105.2.2.2.2.1
theorem dX3_listOrder_113 : decode cX3_listOrder 113 = .ok (.iload_n 2, 1) := da9_dX3_listOrder_105.2.2.2.2.2.1
theorem dX3_listOrder_114 : decode cX3_listOrder 114 = .ok (.iadd, 1) := da9_dX3_listOrder_105.2.2.2.2.2.2.1
theorem dX3_listOrder_115 : decode cX3_listOrder 115 = .ok (.iconst 1, 1) := da9_dX3_listOrder_105.2.2.2.2.2.2.2.1
theorem dX3_listOrder_116 : decode cX3_listOrder 116 = .ok (.isub, 1) := da9_dX3_listOrder_105.2.2.2.2.2.2.2.2.1
theorem dX3_listOrder_117 : decode cX3_listOrder 117 = .ok (.aload_n 0, 1) := da9_dX3_listOrder_105.2.2.2.2.2.2.2.2.2.1
theorem dX3_listOrder_118 : decode cX3_listOrder 118 = .ok (.invokevirtual 96, 3) := da9_dX3_listOrder_105.2.2.2.2.2.2.2.2.2.2.1
theorem dX3_listOrder_121 : decode cX3_listOrder 121 = .ok (.iastore, 1) := da9_dX3_listOrder_105.2.2.2.2.2.2.2.2.2.2.2.1
theorem dX3_listOrder_122 : decode cX3_listOrder 122 = .ok (.iinc 2 1, 3) := da9_dX3_listOrder_105.2.2.2.2.2.2.2.2.2.2.2.2.1
theorem dX3_listOrder_125 : decode cX3_listOrder 125 = .ok (.goto (-85), 3) := da9_dX3_listOrder_105.2.2.2.2.2.2.2.2.2.2.2.2.2.1
theorem dX3_listOrder_128 : decode cX3_listOrder 128 = .ok (.return_, 1) := da9_dX3_listOrder_105.2.2.2.2.2.2.2.2.2.2.2.2.2.2
theorem da9_dX3_headsTurned_0 : (decode cX3_headsTurned 0 = .ok (.iconst 0, 1)) ∧ (decode cX3_headsTurned 1 = .ok (.istore_n 2, 1)) ∧ (decode cX3_headsTurned 2 = .ok (.iconst 0, 1)) ∧ (decode cX3_headsTurned 3 = .ok (.istore_n 3, 1)) ∧ (decode cX3_headsTurned 4 = .ok (.iload_n 3, 1)) ∧ (decode cX3_headsTurned 5 = .ok (.iload_n 1, 1)) ∧ (decode cX3_headsTurned 6 = .ok (.if_icmp .ge 25, 3)) ∧ (decode cX3_headsTurned 9 = .ok (.iload_n 2, 1)) ∧ (decode cX3_headsTurned 10 = .ok (.iconst 1, 1)) ∧ (decode cX3_headsTurned 11 = .ok (.iload_n 0, 1)) ∧ (decode cX3_headsTurned 12 = .ok (.iload_n 3, 1)) ∧ (decode cX3_headsTurned 13 = .ok (.ishr, 1)) ∧ (decode cX3_headsTurned 14 = .ok (.iconst 1, 1)) ∧ (decode cX3_headsTurned 15 = .ok (.iand, 1)) ∧ (decode cX3_headsTurned 16 = .ok (.isub, 1)) ∧ (decode cX3_headsTurned 17 = .ok (.iload_n 1, 1)) := by decide +kernel
theorem dX3_headsTurned_0 : decode cX3_headsTurned 0 = .ok (.iconst 0, 1) := da9_dX3_headsTurned_0.1
theorem dX3_headsTurned_1 : decode cX3_headsTurned 1 = .ok (.istore_n 2, 1) := da9_dX3_headsTurned_0.2.1
theorem dX3_headsTurned_2 : decode cX3_headsTurned 2 = .ok (.iconst 0, 1) := da9_dX3_headsTurned_0.2.2.1
theorem dX3_headsTurned_3 : decode cX3_headsTurned 3 = .ok (.istore_n 3, 1) := da9_dX3_headsTurned_0.2.2.2.1
theorem dX3_headsTurned_4 : decode cX3_headsTurned 4 = .ok (.iload_n 3, 1) := da9_dX3_headsTurned_0.2.2.2.2.1
theorem dX3_headsTurned_5 : decode cX3_headsTurned 5 = .ok (.iload_n 1, 1) := da9_dX3_headsTurned_0.2.2.2.2.2.1
theorem dX3_headsTurned_6 : decode cX3_headsTurned 6 = .ok (.if_icmp .ge 25, 3) := da9_dX3_headsTurned_0.2.2.2.2.2.2.1
theorem dX3_headsTurned_9 : decode cX3_headsTurned 9 = .ok (.iload_n 2, 1) := da9_dX3_headsTurned_0.2.2.2.2.2.2.2.1
theorem dX3_headsTurned_10 : decode cX3_headsTurned 10 = .ok (.iconst 1, 1) := da9_dX3_headsTurned_0.2.2.2.2.2.2.2.2.1
theorem dX3_headsTurned_11 : decode cX3_headsTurned 11 = .ok (.iload_n 0, 1) := da9_dX3_headsTurned_0.2.2.2.2.2.2.2.2.2.1
theorem dX3_headsTurned_12 : decode cX3_headsTurned 12 = .ok (.iload_n 3, 1) := da9_dX3_headsTurned_0.2.2.2.2.2.2.2.2.2.2.1
theorem dX3_headsTurned_13 : decode cX3_headsTurned 13 = .ok (.ishr, 1) := da9_dX3_headsTurned_0.2.2.2.2.2.2.2.2.2.2.2.1
theorem dX3_headsTurned_14 : decode cX3_headsTurned 14 = .ok (.iconst 1, 1) := da9_dX3_headsTurned_0.2.2.2.2.2.2.2.2.2.2.2.2.1
theorem dX3_headsTurned_15 : decode cX3_headsTurned 15 = .ok (.iand, 1) := da9_dX3_headsTurned_0.2.2.2.2.2.2.2.2.2.2.2.2.2.1
theorem dX3_headsTurned_16 : decode cX3_headsTurned 16 = .ok (.isub, 1) := da9_dX3_headsTurned_0.2.2.2.2.2.2.2.2.2.2.2.2.2.2.1
theorem dX3_headsTurned_17 : decode cX3_headsTurned 17 = .ok (.iload_n 1, 1) := da9_dX3_headsTurned_0.2.2.2.2.2.2.2.2.2.2.2.2.2.2.2
theorem da9_dX3_headsTurned_18 : (decode cX3_headsTurned 18 = .ok (.iconst 1, 1)) ∧ (decode cX3_headsTurned 19 = .ok (.isub, 1)) ∧ (decode cX3_headsTurned 20 = .ok (.iload_n 3, 1)) ∧ (decode cX3_headsTurned 21 = .ok (.isub, 1)) ∧ (decode cX3_headsTurned 22 = .ok (.ishl, 1)) ∧ (decode cX3_headsTurned 23 = .ok (.ior, 1)) ∧ (decode cX3_headsTurned 24 = .ok (.istore_n 2, 1)) ∧ (decode cX3_headsTurned 25 = .ok (.iinc 3 1, 3)) ∧ (decode cX3_headsTurned 28 = .ok (.goto (-24), 3)) ∧ (decode cX3_headsTurned 31 = .ok (.iload_n 0, 1)) ∧ (decode cX3_headsTurned 32 = .ok (.iload_n 1, 1)) ∧ (decode cX3_headsTurned 33 = .ok (.ishr, 1)) ∧ (decode cX3_headsTurned 34 = .ok (.iload_n 1, 1)) ∧ (decode cX3_headsTurned 35 = .ok (.ishl, 1)) ∧ (decode cX3_headsTurned 36 = .ok (.iload_n 2, 1)) ∧ (decode cX3_headsTurned 37 = .ok (.ior, 1)) := by decide +kernel
theorem dX3_headsTurned_18 : decode cX3_headsTurned 18 = .ok (.iconst 1, 1) := da9_dX3_headsTurned_18.1
theorem dX3_headsTurned_19 : decode cX3_headsTurned 19 = .ok (.isub, 1) := da9_dX3_headsTurned_18.2.1
theorem dX3_headsTurned_20 : decode cX3_headsTurned 20 = .ok (.iload_n 3, 1) := da9_dX3_headsTurned_18.2.2.1
theorem dX3_headsTurned_21 : decode cX3_headsTurned 21 = .ok (.isub, 1) := da9_dX3_headsTurned_18.2.2.2.1
theorem dX3_headsTurned_22 : decode cX3_headsTurned 22 = .ok (.ishl, 1) := da9_dX3_headsTurned_18.2.2.2.2.1
theorem dX3_headsTurned_23 : decode cX3_headsTurned 23 = .ok (.ior, 1) := da9_dX3_headsTurned_18.2.2.2.2.2.1
theorem dX3_headsTurned_24 : decode cX3_headsTurned 24 = .ok (.istore_n 2, 1) := da9_dX3_headsTurned_18.2.2.2.2.2.2.1
theorem dX3_headsTurned_25 : decode cX3_headsTurned 25 = .ok (.iinc 3 1, 3) := da9_dX3_headsTurned_18.2.2.2.2.2.2.2.1
theorem dX3_headsTurned_28 : decode cX3_headsTurned 28 = .ok (.goto (-24), 3) := da9_dX3_headsTurned_18.2.2.2.2.2.2.2.2.1
theorem dX3_headsTurned_31 : decode cX3_headsTurned 31 = .ok (.iload_n 0, 1) := da9_dX3_headsTurned_18.2.2.2.2.2.2.2.2.2.1
theorem dX3_headsTurned_32 : decode cX3_headsTurned 32 = .ok (.iload_n 1, 1) := da9_dX3_headsTurned_18.2.2.2.2.2.2.2.2.2.2.1
theorem dX3_headsTurned_33 : decode cX3_headsTurned 33 = .ok (.ishr, 1) := da9_dX3_headsTurned_18.2.2.2.2.2.2.2.2.2.2.2.1
theorem dX3_headsTurned_34 : decode cX3_headsTurned 34 = .ok (.iload_n 1, 1) := da9_dX3_headsTurned_18.2.2.2.2.2.2.2.2.2.2.2.2.1
theorem dX3_headsTurned_35 : decode cX3_headsTurned 35 = .ok (.ishl, 1) := da9_dX3_headsTurned_18.2.2.2.2.2.2.2.2.2.2.2.2.2.1
theorem dX3_headsTurned_36 : decode cX3_headsTurned 36 = .ok (.iload_n 2, 1) := da9_dX3_headsTurned_18.2.2.2.2.2.2.2.2.2.2.2.2.2.2.1
theorem dX3_headsTurned_37 : decode cX3_headsTurned 37 = .ok (.ior, 1) := da9_dX3_headsTurned_18.2.2.2.2.2.2.2.2.2.2.2.2.2.2.2
theorem dX3_headsTurned_38 : decode cX3_headsTurned 38 = .ok (.ireturn, 1) := by decide +kernel
set_option maxRecDepth 20000 in
theorem ggX9_pass_X9_move : GoodIn wsX9_pass wsX9_move := goodIn_r _ [5, 6, 7, 8, 9, 10, 11, 12, 13, 14, 15, 16, 17, 18, 19, 20, 4, 21, 22, 23, 24, 25, 26, 27, 28, 29, 30, 31, 32, 33, 34, 35, 36, 37, 38, 39, 40, 41, 42, 43, 44, 45, 46, 47, 48, 49, 50, 51, 52, 53, 54, 55, 56, 57, 58, 59, 60, 61, 62, 63, 64, 65, 66, 67, 68, 69, 70, 71, 72, 73, 74, 75, 76, 77, 78, 79, 80, 81, 82, 83, 84, 85, 86, 87, 88, 89, 90, 91, 92, 93, 94, 95, 96, 97, 98, 99, 100, 101, 102, 103, 104, 105, 106, 107, 108, 109, 110, 111, 112, 113, 114, 115, 116, 117, 118, 119, 120, 121, 122, 123, 124, 125, 126, 127, 128, 129, 130, 131, 132, 133, 134, 135, 136, 137, 138, 139, 140, 141, 142, 143, 144, 145, 146, 147, 148, 149, 150, 151, 152, 153, 154, 155, 156, 157, 158, 159, 160, 161, 162, 163, 164, 165, 166, 167, 168, 169, 170, 171, 172, 173, 174, 175, 176, 177, 178, 179, 180, 181, 182, 183, 184, 185, 186, 187, 188, 189, 190, 191, 192, 193, 194, 195, 196, 197, 198, 199, 200, 201, 202, 203, 204, 205, 206, 207, 208, 209, 210, 211, 212, 213, 214] rfl (by decide +kernel)
set_option maxRecDepth 20000 in
theorem gX9_pass_X9_move : GoodIn wsX9_pass (wsV RX9 211 RX9 yX9_move wsX9_move) := goodIn_app (goodIn_of _ (by decide +kernel)) ggX9_pass_X9_move
theorem da9_dX9_pass_0 : (decode cX9_pass 0 = .ok (.aload_n 0, 1)) ∧ (decode cX9_pass 1 = .ok (.iconst 3, 1)) ∧ (decode cX9_pass 2 = .ok (.iconst 0, 1)) ∧ (decode cX9_pass 3 = .ok (.invokevirtual 211, 3)) ∧ (decode cX9_pass 6 = .ok (.ireturn, 1)) := by decide +kernel
theorem dX9_pass_0 : decode cX9_pass 0 = .ok (.aload_n 0, 1) := da9_dX9_pass_0.1
theorem dX9_pass_1 : decode cX9_pass 1 = .ok (.iconst 3, 1) := da9_dX9_pass_0.2.1
theorem dX9_pass_2 : decode cX9_pass 2 = .ok (.iconst 0, 1) := da9_dX9_pass_0.2.2.1
theorem dX9_pass_3 : decode cX9_pass 3 = .ok (.invokevirtual 211, 3) := da9_dX9_pass_0.2.2.2.1
theorem dX9_pass_6 : decode cX9_pass 6 = .ok (.ireturn, 1) := da9_dX9_pass_0.2.2.2.2
set_option maxRecDepth 20000 in
theorem ggX9_undo_X9_refuse : GoodIn wsX9_undo wsX9_refuse := goodIn_r _ [7, 8, 9, 31, 32, 33, 34, 35, 36, 37, 38, 39, 40, 41, 42, 43, 44, 45, 46, 47, 48, 49] rfl (by decide +kernel)
set_option maxRecDepth 20000 in
theorem gX9_undo_X9_refuse : GoodIn wsX9_undo (wsV RX9 118 RX9 yX9_refuse wsX9_refuse) := goodIn_app (goodIn_of _ (by decide +kernel)) ggX9_undo_X9_refuse
set_option maxRecDepth 20000 in
theorem ggX9_undo_X8_unpack : GoodIn wsX9_undo wsX8_unpack := goodIn_r _ [14, 15, 16, 17, 18, 19, 20, 21, 22, 23, 24, 25, 26, 66, 67, 68, 69, 70] rfl (by decide +kernel)
set_option maxRecDepth 20000 in
theorem gX9_undo_X8_unpack : GoodIn wsX9_undo (wsV RX9 219 RX8 yX8_unpack wsX8_unpack) := goodIn_app (goodIn_of _ (by decide +kernel)) ggX9_undo_X8_unpack
set_option maxRecDepth 20000 in
theorem ggX9_undo_X9_accept : GoodIn wsX9_undo wsX9_accept := goodIn_r _ [30, 8, 31, 32, 33, 34, 35, 36, 37, 38, 39, 40, 41, 42, 43, 44, 45, 46, 47, 48, 49] rfl (by decide +kernel)
set_option maxRecDepth 20000 in
theorem gX9_undo_X9_accept : GoodIn wsX9_undo (wsV RX9 138 RX9 yX9_accept wsX9_accept) := goodIn_app (goodIn_of _ (by decide +kernel)) ggX9_undo_X9_accept
theorem da9_dX9_undo_0 : (decode cX9_undo 0 = .ok (.aload_n 0, 1)) ∧ (decode cX9_undo 1 = .ok (.getfield 27, 3)) ∧ (decode cX9_undo 4 = .ok (.getfield 214, 3)) ∧ (decode cX9_undo 7 = .ok (.ifCond .gt 10, 3)) ∧ (decode cX9_undo 10 = .ok (.aload_n 0, 1)) ∧ (decode cX9_undo 11 = .ok (.bipush (-3), 2)) ∧ (decode cX9_undo 13 = .ok (.invokevirtual 118, 3)) ∧ (decode cX9_undo 16 = .ok (.ireturn, 1)) ∧ (decode cX9_undo 17 = .ok (.aload_n 0, 1)) ∧ (decode cX9_undo 18 = .ok (.getfield 27, 3)) ∧ (decode cX9_undo 21 = .ok (.dup, 1)) ∧ (decode cX9_undo 22 = .ok (.getfield 214, 3)) ∧ (decode cX9_undo 25 = .ok (.iconst 1, 1)) ∧ (decode cX9_undo 26 = .ok (.isub, 1)) ∧ (decode cX9_undo 27 = .ok (.putfield 214, 3)) ∧ (decode cX9_undo 30 = .ok (.aload_n 0, 1)) := by decide +kernel
theorem dX9_undo_0 : decode cX9_undo 0 = .ok (.aload_n 0, 1) := da9_dX9_undo_0.1
theorem dX9_undo_1 : decode cX9_undo 1 = .ok (.getfield 27, 3) := da9_dX9_undo_0.2.1
theorem dX9_undo_4 : decode cX9_undo 4 = .ok (.getfield 214, 3) := da9_dX9_undo_0.2.2.1
theorem dX9_undo_7 : decode cX9_undo 7 = .ok (.ifCond .gt 10, 3) := da9_dX9_undo_0.2.2.2.1
theorem dX9_undo_10 : decode cX9_undo 10 = .ok (.aload_n 0, 1) := da9_dX9_undo_0.2.2.2.2.1
theorem dX9_undo_11 : decode cX9_undo 11 = .ok (.bipush (-3), 2) := da9_dX9_undo_0.2.2.2.2.2.1
theorem dX9_undo_13 : decode cX9_undo 13 = .ok (.invokevirtual 118, 3) := da9_dX9_undo_0.2.2.2.2.2.2.1
theorem dX9_undo_16 : decode cX9_undo 16 = .ok (.ireturn, 1) := da9_dX9_undo_0.2.2.2.2.2.2.2.1
theorem dX9_undo_17 : decode cX9_undo 17 = .ok (.aload_n 0, 1) := da9_dX9_undo_0.2.2.2.2.2.2.2.2.1
theorem dX9_undo_18 : decode cX9_undo 18 = .ok (.getfield 27, 3) := da9_dX9_undo_0.2.2.2.2.2.2.2.2.2.1
theorem dX9_undo_21 : decode cX9_undo 21 = .ok (.dup, 1) := da9_dX9_undo_0.2.2.2.2.2.2.2.2.2.2.1
theorem dX9_undo_22 : decode cX9_undo 22 = .ok (.getfield 214, 3) := da9_dX9_undo_0.2.2.2.2.2.2.2.2.2.2.2.1
theorem dX9_undo_25 : decode cX9_undo 25 = .ok (.iconst 1, 1) := da9_dX9_undo_0.2.2.2.2.2.2.2.2.2.2.2.2.1
theorem dX9_undo_26 : decode cX9_undo 26 = .ok (.isub, 1) := da9_dX9_undo_0.2.2.2.2.2.2.2.2.2.2.2.2.2.1
theorem dX9_undo_27 : decode cX9_undo 27 = .ok (.putfield 214, 3) := da9_dX9_undo_0.2.2.2.2.2.2.2.2.2.2.2.2.2.2.1
theorem dX9_undo_30 : decode cX9_undo 30 = .ok (.aload_n 0, 1) := da9_dX9_undo_0.2.2.2.2.2.2.2.2.2.2.2.2.2.2.2
theorem da9_dX9_undo_31 : (decode cX9_undo 31 = .ok (.getfield 10, 3)) ∧ (decode cX9_undo 34 = .ok (.getfield 122, 3)) ∧ (decode cX9_undo 37 = .ok (.aload_n 0, 1)) ∧ (decode cX9_undo 38 = .ok (.getfield 27, 3)) ∧ (decode cX9_undo 41 = .ok (.getfield 216, 3)) ∧ (decode cX9_undo 44 = .ok (.aload_n 0, 1)) ∧ (decode cX9_undo 45 = .ok (.getfield 27, 3)) ∧ (decode cX9_undo 48 = .ok (.getfield 214, 3)) ∧ (decode cX9_undo 51 = .ok (.laload, 1)) ∧ (decode cX9_undo 52 = .ok (.invokevirtual 219, 3)) ∧ (decode cX9_undo 55 = .ok (.aload_n 0, 1)) ∧ (decode cX9_undo 56 = .ok (.aload_n 0, 1)) ∧ (decode cX9_undo 57 = .ok (.getfield 27, 3)) ∧ (decode cX9_undo 60 = .ok (.getfield 223, 3)) ∧ (decode cX9_undo 63 = .ok (.aload_n 0, 1)) ∧ (decode cX9_undo 64 = .ok (.getfield 27, 3)) := by decide +kernel
theorem dX9_undo_31 : decode cX9_undo 31 = .ok (.getfield 10, 3) := da9_dX9_undo_31.1
theorem dX9_undo_34 : decode cX9_undo 34 = .ok (.getfield 122, 3) := da9_dX9_undo_31.2.1
theorem dX9_undo_37 : decode cX9_undo 37 = .ok (.aload_n 0, 1) := da9_dX9_undo_31.2.2.1
theorem dX9_undo_38 : decode cX9_undo 38 = .ok (.getfield 27, 3) := da9_dX9_undo_31.2.2.2.1
theorem dX9_undo_41 : decode cX9_undo 41 = .ok (.getfield 216, 3) := da9_dX9_undo_31.2.2.2.2.1
theorem dX9_undo_44 : decode cX9_undo 44 = .ok (.aload_n 0, 1) := da9_dX9_undo_31.2.2.2.2.2.1
theorem dX9_undo_45 : decode cX9_undo 45 = .ok (.getfield 27, 3) := da9_dX9_undo_31.2.2.2.2.2.2.1
theorem dX9_undo_48 : decode cX9_undo 48 = .ok (.getfield 214, 3) := da9_dX9_undo_31.2.2.2.2.2.2.2.1
theorem dX9_undo_51 : decode cX9_undo 51 = .ok (.laload, 1) := da9_dX9_undo_31.2.2.2.2.2.2.2.2.1
theorem dX9_undo_52 : decode cX9_undo 52 = .ok (.invokevirtual 219, 3) := da9_dX9_undo_31.2.2.2.2.2.2.2.2.2.1
theorem dX9_undo_55 : decode cX9_undo 55 = .ok (.aload_n 0, 1) := da9_dX9_undo_31.2.2.2.2.2.2.2.2.2.2.1
theorem dX9_undo_56 : decode cX9_undo 56 = .ok (.aload_n 0, 1) := da9_dX9_undo_31.2.2.2.2.2.2.2.2.2.2.2.1
theorem dX9_undo_57 : decode cX9_undo 57 = .ok (.getfield 27, 3) := da9_dX9_undo_31.2.2.2.2.2.2.2.2.2.2.2.2.1
theorem dX9_undo_60 : decode cX9_undo 60 = .ok (.getfield 223, 3) := da9_dX9_undo_31.2.2.2.2.2.2.2.2.2.2.2.2.2.1
theorem dX9_undo_63 : decode cX9_undo 63 = .ok (.aload_n 0, 1) := da9_dX9_undo_31.2.2.2.2.2.2.2.2.2.2.2.2.2.2.1
theorem dX9_undo_64 : decode cX9_undo 64 = .ok (.getfield 27, 3) := da9_dX9_undo_31.2.2.2.2.2.2.2.2.2.2.2.2.2.2.2
theorem da9_dX9_undo_67 : (decode cX9_undo 67 = .ok (.getfield 214, 3)) ∧ (decode cX9_undo 70 = .ok (.iaload, 1)) ∧ (decode cX9_undo 71 = .ok (.invokevirtual 138, 3)) ∧ (decode cX9_undo 74 = .ok (.ireturn, 1)) := by decide +kernel
theorem dX9_undo_67 : decode cX9_undo 67 = .ok (.getfield 214, 3) := da9_dX9_undo_67.1
theorem dX9_undo_70 : decode cX9_undo 70 = .ok (.iaload, 1) := da9_dX9_undo_67.2.1
theorem dX9_undo_71 : decode cX9_undo 71 = .ok (.invokevirtual 138, 3) := da9_dX9_undo_67.2.2.1
theorem dX9_undo_74 : decode cX9_undo 74 = .ok (.ireturn, 1) := da9_dX9_undo_67.2.2.2
