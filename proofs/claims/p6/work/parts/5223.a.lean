set_option maxRecDepth 20000 in
theorem ggX6_agrees_X8_rankBehindTurn : GoodIn wsX6_agrees wsX8_rankBehindTurn := goodIn_r _ [9, 10, 11, 12, 13, 8, 14, 15, 26, 27, 28, 29, 30] rfl (by decide +kernel)
set_option maxRecDepth 20000 in
theorem gX6_agrees_X8_rankBehindTurn : GoodIn wsX6_agrees (wsV RX6 65 RX8 yX8_rankBehindTurn wsX8_rankBehindTurn) := goodIn_app (goodIn_of _ (by decide +kernel)) ggX6_agrees_X8_rankBehindTurn
theorem da9_dX6_agrees_0 : (decode cX6_agrees 0 = .ok (.iconst 0, 1)) ∧ (decode cX6_agrees 1 = .ok (.istore_n 2, 1)) ∧ (decode cX6_agrees 2 = .ok (.iload_n 2, 1)) ∧ (decode cX6_agrees 3 = .ok (.aload_n 0, 1)) ∧ (decode cX6_agrees 4 = .ok (.getfield 35, 3)) ∧ (decode cX6_agrees 7 = .ok (.if_icmp .ge 34, 3)) ∧ (decode cX6_agrees 10 = .ok (.aload_n 0, 1)) ∧ (decode cX6_agrees 11 = .ok (.getfield 12, 3)) ∧ (decode cX6_agrees 14 = .ok (.iload_n 1, 1)) ∧ (decode cX6_agrees 15 = .ok (.aload_n 0, 1)) ∧ (decode cX6_agrees 16 = .ok (.getfield 28, 3)) ∧ (decode cX6_agrees 19 = .ok (.iload_n 2, 1)) ∧ (decode cX6_agrees 20 = .ok (.iaload, 1)) ∧ (decode cX6_agrees 21 = .ok (.invokevirtual 65, 3)) ∧ (decode cX6_agrees 24 = .ok (.aload_n 0, 1)) ∧ (decode cX6_agrees 25 = .ok (.getfield 32, 3)) := by decide +kernel
theorem dX6_agrees_0 : decode cX6_agrees 0 = .ok (.iconst 0, 1) := da9_dX6_agrees_0.1
theorem dX6_agrees_1 : decode cX6_agrees 1 = .ok (.istore_n 2, 1) := da9_dX6_agrees_0.2.1
theorem dX6_agrees_2 : decode cX6_agrees 2 = .ok (.iload_n 2, 1) := da9_dX6_agrees_0.2.2.1
theorem dX6_agrees_3 : decode cX6_agrees 3 = .ok (.aload_n 0, 1) := da9_dX6_agrees_0.2.2.2.1
theorem dX6_agrees_4 : decode cX6_agrees 4 = .ok (.getfield 35, 3) := da9_dX6_agrees_0.2.2.2.2.1
theorem dX6_agrees_7 : decode cX6_agrees 7 = .ok (.if_icmp .ge 34, 3) := da9_dX6_agrees_0.2.2.2.2.2.1
theorem dX6_agrees_10 : decode cX6_agrees 10 = .ok (.aload_n 0, 1) := da9_dX6_agrees_0.2.2.2.2.2.2.1
theorem dX6_agrees_11 : decode cX6_agrees 11 = .ok (.getfield 12, 3) := da9_dX6_agrees_0.2.2.2.2.2.2.2.1
theorem dX6_agrees_14 : decode cX6_agrees 14 = .ok (.iload_n 1, 1) := da9_dX6_agrees_0.2.2.2.2.2.2.2.2.1
theorem dX6_agrees_15 : decode cX6_agrees 15 = .ok (.aload_n 0, 1) := da9_dX6_agrees_0.2.2.2.2.2.2.2.2.2.1
theorem dX6_agrees_16 : decode cX6_agrees 16 = .ok (.getfield 28, 3) := da9_dX6_agrees_0.2.2.2.2.2.2.2.2.2.2.1
theorem dX6_agrees_19 : decode cX6_agrees 19 = .ok (.iload_n 2, 1) := da9_dX6_agrees_0.2.2.2.2.2.2.2.2.2.2.2.1
theorem dX6_agrees_20 : decode cX6_agrees 20 = .ok (.iaload, 1) := da9_dX6_agrees_0.2.2.2.2.2.2.2.2.2.2.2.2.1
theorem dX6_agrees_21 : decode cX6_agrees 21 = .ok (.invokevirtual 65, 3) := da9_dX6_agrees_0.2.2.2.2.2.2.2.2.2.2.2.2.2.1
theorem dX6_agrees_24 : decode cX6_agrees 24 = .ok (.aload_n 0, 1) := da9_dX6_agrees_0.2.2.2.2.2.2.2.2.2.2.2.2.2.2.1
theorem dX6_agrees_25 : decode cX6_agrees 25 = .ok (.getfield 32, 3) := da9_dX6_agrees_0.2.2.2.2.2.2.2.2.2.2.2.2.2.2.2
theorem da9_dX6_agrees_28 : (decode cX6_agrees 28 = .ok (.iload_n 2, 1)) ∧ (decode cX6_agrees 29 = .ok (.iaload, 1)) ∧ (decode cX6_agrees 30 = .ok (.if_icmp .eq 5, 3)) ∧ (decode cX6_agrees 33 = .ok (.iconst 0, 1)) ∧ (decode cX6_agrees 34 = .ok (.ireturn, 1)) ∧ (decode cX6_agrees 35 = .ok (.iinc 2 1, 3)) ∧ (decode cX6_agrees 38 = .ok (.goto (-36), 3)) ∧ (decode cX6_agrees 41 = .ok (.iconst 1, 1)) ∧ (decode cX6_agrees 42 = .ok (.ireturn, 1)) := by decide +kernel
theorem dX6_agrees_28 : decode cX6_agrees 28 = .ok (.iload_n 2, 1) := da9_dX6_agrees_28.1
theorem dX6_agrees_29 : decode cX6_agrees 29 = .ok (.iaload, 1) := da9_dX6_agrees_28.2.1
theorem dX6_agrees_30 : decode cX6_agrees 30 = .ok (.if_icmp .eq 5, 3) := da9_dX6_agrees_28.2.2.1
theorem dX6_agrees_33 : decode cX6_agrees 33 = .ok (.iconst 0, 1) := da9_dX6_agrees_28.2.2.2.1
theorem dX6_agrees_34 : decode cX6_agrees 34 = .ok (.ireturn, 1) := da9_dX6_agrees_28.2.2.2.2.1
theorem dX6_agrees_35 : decode cX6_agrees 35 = .ok (.iinc 2 1, 3) := da9_dX6_agrees_28.2.2.2.2.2.1
theorem dX6_agrees_38 : decode cX6_agrees 38 = .ok (.goto (-36), 3) := da9_dX6_agrees_28.2.2.2.2.2.2.1
theorem dX6_agrees_41 : decode cX6_agrees 41 = .ok (.iconst 1, 1) := da9_dX6_agrees_28.2.2.2.2.2.2.2.1
theorem dX6_agrees_42 : decode cX6_agrees 42 = .ok (.ireturn, 1) := da9_dX6_agrees_28.2.2.2.2.2.2.2.2
theorem da9_dX8_rises_0 : (decode cX8_rises 0 = .ok (.iconst (-1), 1)) ∧ (decode cX8_rises 1 = .ok (.istore_n 3, 1)) ∧ (decode cX8_rises 2 = .ok (.iconst 0, 1)) ∧ (decode cX8_rises 3 = .ok (.istore 4, 2)) ∧ (decode cX8_rises 5 = .ok (.iload 4, 2)) ∧ (decode cX8_rises 7 = .ok (.aload_n 0, 1)) ∧ (decode cX8_rises 8 = .ok (.getfield 18, 3)) ∧ (decode cX8_rises 11 = .ok (.if_icmp .ge 56, 3)) ∧ (decode cX8_rises 14 = .ok (.iload_n 1, 1)) ∧ (decode cX8_rises 15 = .ok (.iload 4, 2)) ∧ (decode cX8_rises 17 = .ok (.ishr, 1)) ∧ (decode cX8_rises 18 = .ok (.iconst 1, 1)) ∧ (decode cX8_rises 19 = .ok (.iand, 1)) ∧ (decode cX8_rises 20 = .ok (.iconst 1, 1)) ∧ (decode cX8_rises 21 = .ok (.if_icmp .ne 40, 3)) ∧ (decode cX8_rises 24 = .ok (.aload_n 0, 1)) := by decide +kernel
theorem dX8_rises_0 : decode cX8_rises 0 = .ok (.iconst (-1), 1) := da9_dX8_rises_0.1
theorem dX8_rises_1 : decode cX8_rises 1 = .ok (.istore_n 3, 1) := da9_dX8_rises_0.2.1
theorem dX8_rises_2 : decode cX8_rises 2 = .ok (.iconst 0, 1) := da9_dX8_rises_0.2.2.1
theorem dX8_rises_3 : decode cX8_rises 3 = .ok (.istore 4, 2) := da9_dX8_rises_0.2.2.2.1
theorem dX8_rises_5 : decode cX8_rises 5 = .ok (.iload 4, 2) := da9_dX8_rises_0.2.2.2.2.1
theorem dX8_rises_7 : decode cX8_rises 7 = .ok (.aload_n 0, 1) := da9_dX8_rises_0.2.2.2.2.2.1
theorem dX8_rises_8 : decode cX8_rises 8 = .ok (.getfield 18, 3) := da9_dX8_rises_0.2.2.2.2.2.2.1
theorem dX8_rises_11 : decode cX8_rises 11 = .ok (.if_icmp .ge 56, 3) := da9_dX8_rises_0.2.2.2.2.2.2.2.1
theorem dX8_rises_14 : decode cX8_rises 14 = .ok (.iload_n 1, 1) := da9_dX8_rises_0.2.2.2.2.2.2.2.2.1
theorem dX8_rises_15 : decode cX8_rises 15 = .ok (.iload 4, 2) := da9_dX8_rises_0.2.2.2.2.2.2.2.2.2.1
theorem dX8_rises_17 : decode cX8_rises 17 = .ok (.ishr, 1) := da9_dX8_rises_0.2.2.2.2.2.2.2.2.2.2.1
theorem dX8_rises_18 : decode cX8_rises 18 = .ok (.iconst 1, 1) := da9_dX8_rises_0.2.2.2.2.2.2.2.2.2.2.2.1
theorem dX8_rises_19 : decode cX8_rises 19 = .ok (.iand, 1) := da9_dX8_rises_0.2.2.2.2.2.2.2.2.2.2.2.2.1
theorem dX8_rises_20 : decode cX8_rises 20 = .ok (.iconst 1, 1) := da9_dX8_rises_0.2.2.2.2.2.2.2.2.2.2.2.2.2.1
theorem dX8_rises_21 : decode cX8_rises 21 = .ok (.if_icmp .ne 40, 3) := da9_dX8_rises_0.2.2.2.2.2.2.2.2.2.2.2.2.2.2.1
theorem dX8_rises_24 : decode cX8_rises 24 = .ok (.aload_n 0, 1) := da9_dX8_rises_0.2.2.2.2.2.2.2.2.2.2.2.2.2.2.2
theorem da9_dX8_rises_25 : (decode cX8_rises 25 = .ok (.getfield 9, 3)) ∧ (decode cX8_rises 28 = .ok (.iload 4, 2)) ∧ (decode cX8_rises 30 = .ok (.iaload, 1)) ∧ (decode cX8_rises 31 = .ok (.iload_n 3, 1)) ∧ (decode cX8_rises 32 = .ok (.if_icmp .lt 19, 3)) ∧ (decode cX8_rises 35 = .ok (.iload_n 2, 1)) ∧ (decode cX8_rises 36 = .ok (.iconst 1, 1)) ∧ (decode cX8_rises 37 = .ok (.if_icmp .ne 16, 3)) ∧ (decode cX8_rises 40 = .ok (.aload_n 0, 1)) ∧ (decode cX8_rises 41 = .ok (.getfield 15, 3)) ∧ (decode cX8_rises 44 = .ok (.iload 4, 2)) ∧ (decode cX8_rises 46 = .ok (.iaload, 1)) ∧ (decode cX8_rises 47 = .ok (.iconst 1, 1)) ∧ (decode cX8_rises 48 = .ok (.if_icmp .ne 5, 3)) ∧ (decode cX8_rises 51 = .ok (.iconst 0, 1)) ∧ (decode cX8_rises 52 = .ok (.ireturn, 1)) := by decide +kernel
theorem dX8_rises_25 : decode cX8_rises 25 = .ok (.getfield 9, 3) := da9_dX8_rises_25.1
theorem dX8_rises_28 : decode cX8_rises 28 = .ok (.iload 4, 2) := da9_dX8_rises_25.2.1
theorem dX8_rises_30 : decode cX8_rises 30 = .ok (.iaload, 1) := da9_dX8_rises_25.2.2.1
theorem dX8_rises_31 : decode cX8_rises 31 = .ok (.iload_n 3, 1) := da9_dX8_rises_25.2.2.2.1
theorem dX8_rises_32 : decode cX8_rises 32 = .ok (.if_icmp .lt 19, 3) := da9_dX8_rises_25.2.2.2.2.1
theorem dX8_rises_35 : decode cX8_rises 35 = .ok (.iload_n 2, 1) := da9_dX8_rises_25.2.2.2.2.2.1
theorem dX8_rises_36 : decode cX8_rises 36 = .ok (.iconst 1, 1) := da9_dX8_rises_25.2.2.2.2.2.2.1
theorem dX8_rises_37 : decode cX8_rises 37 = .ok (.if_icmp .ne 16, 3) := da9_dX8_rises_25.2.2.2.2.2.2.2.1
theorem dX8_rises_40 : decode cX8_rises 40 = .ok (.aload_n 0, 1) := da9_dX8_rises_25.2.2.2.2.2.2.2.2.1
theorem dX8_rises_41 : decode cX8_rises 41 = .ok (.getfield 15, 3) := da9_dX8_rises_25.2.2.2.2.2.2.2.2.2.1
theorem dX8_rises_44 : decode cX8_rises 44 = .ok (.iload 4, 2) := da9_dX8_rises_25.2.2.2.2.2.2.2.2.2.2.1
theorem dX8_rises_46 : decode cX8_rises 46 = .ok (.iaload, 1) := da9_dX8_rises_25.2.2.2.2.2.2.2.2.2.2.2.1
theorem dX8_rises_47 : decode cX8_rises 47 = .ok (.iconst 1, 1) := da9_dX8_rises_25.2.2.2.2.2.2.2.2.2.2.2.2.1
theorem dX8_rises_48 : decode cX8_rises 48 = .ok (.if_icmp .ne 5, 3) := da9_dX8_rises_25.2.2.2.2.2.2.2.2.2.2.2.2.2.1
theorem dX8_rises_51 : decode cX8_rises 51 = .ok (.iconst 0, 1) := da9_dX8_rises_25.2.2.2.2.2.2.2.2.2.2.2.2.2.2.1
theorem dX8_rises_52 : decode cX8_rises 52 = .ok (.ireturn, 1) := da9_dX8_rises_25.2.2.2.2.2.2.2.2.2.2.2.2.2.2.2
theorem da9_dX8_rises_53 : (decode cX8_rises 53 = .ok (.aload_n 0, 1)) ∧ (decode cX8_rises 54 = .ok (.getfield 9, 3)) ∧ (decode cX8_rises 57 = .ok (.iload 4, 2)) ∧ (decode cX8_rises 59 = .ok (.iaload, 1)) ∧ (decode cX8_rises 60 = .ok (.istore_n 3, 1)) ∧ (decode cX8_rises 61 = .ok (.iinc 4 1, 3)) ∧ (decode cX8_rises 64 = .ok (.goto (-59), 3)) ∧ (decode cX8_rises 67 = .ok (.iconst 1, 1)) ∧ (decode cX8_rises 68 = .ok (.ireturn, 1)) := by decide +kernel
theorem dX8_rises_53 : decode cX8_rises 53 = .ok (.aload_n 0, 1) := da9_dX8_rises_53.1
theorem dX8_rises_54 : decode cX8_rises 54 = .ok (.getfield 9, 3) := da9_dX8_rises_53.2.1
theorem dX8_rises_57 : decode cX8_rises 57 = .ok (.iload 4, 2) := da9_dX8_rises_53.2.2.1
theorem dX8_rises_59 : decode cX8_rises 59 = .ok (.iaload, 1) := da9_dX8_rises_53.2.2.2.1
theorem dX8_rises_60 : decode cX8_rises 60 = .ok (.istore_n 3, 1) := da9_dX8_rises_53.2.2.2.2.1
theorem dX8_rises_61 : decode cX8_rises 61 = .ok (.iinc 4 1, 3) := da9_dX8_rises_53.2.2.2.2.2.1
theorem dX8_rises_64 : decode cX8_rises 64 = .ok (.goto (-59), 3) := da9_dX8_rises_53.2.2.2.2.2.2.1
theorem dX8_rises_67 : decode cX8_rises 67 = .ok (.iconst 1, 1) := da9_dX8_rises_53.2.2.2.2.2.2.2.1
theorem dX8_rises_68 : decode cX8_rises 68 = .ok (.ireturn, 1) := da9_dX8_rises_53.2.2.2.2.2.2.2.2
set_option maxRecDepth 20000 in
theorem ggX8_rankBehindTurn_X8_isFloor : GoodIn wsX8_rankBehindTurn wsX8_isFloor := goodIn_r _ [6, 7, 8, 9, 10, 11, 12] rfl (by decide +kernel)
set_option maxRecDepth 20000 in
theorem gX8_rankBehindTurn_X8_isFloor : GoodIn wsX8_rankBehindTurn (wsV RX8 28 RX8 yX8_isFloor wsX8_isFloor) := goodIn_app (goodIn_of _ (by decide +kernel)) ggX8_rankBehindTurn_X8_isFloor
theorem da9_dX8_rankBehindTurn_0 : (decode cX8_rankBehindTurn 0 = .ok (.iload_n 2, 1)) ∧ (decode cX8_rankBehindTurn 1 = .ok (.iload_n 1, 1)) ∧ (decode cX8_rankBehindTurn 2 = .ok (.if_icmp .ge 11, 3)) ∧ (decode cX8_rankBehindTurn 5 = .ok (.iload_n 1, 1)) ∧ (decode cX8_rankBehindTurn 6 = .ok (.iconst 1, 1)) ∧ (decode cX8_rankBehindTurn 7 = .ok (.isub, 1)) ∧ (decode cX8_rankBehindTurn 8 = .ok (.iload_n 2, 1)) ∧ (decode cX8_rankBehindTurn 9 = .ok (.isub, 1)) ∧ (decode cX8_rankBehindTurn 10 = .ok (.goto 4, 3)) ∧ (decode cX8_rankBehindTurn 13 = .ok (.iload_n 2, 1)) ∧ (decode cX8_rankBehindTurn 14 = .ok (.istore_n 3, 1)) ∧ (decode cX8_rankBehindTurn 15 = .ok (.aload_n 0, 1)) ∧ (decode cX8_rankBehindTurn 16 = .ok (.iload_n 3, 1)) ∧ (decode cX8_rankBehindTurn 17 = .ok (.invokevirtual 28, 3)) ∧ (decode cX8_rankBehindTurn 20 = .ok (.ifCond .eq 12, 3)) ∧ (decode cX8_rankBehindTurn 23 = .ok (.aload_n 0, 1)) := by decide +kernel
theorem dX8_rankBehindTurn_0 : decode cX8_rankBehindTurn 0 = .ok (.iload_n 2, 1) := da9_dX8_rankBehindTurn_0.1
theorem dX8_rankBehindTurn_1 : decode cX8_rankBehindTurn 1 = .ok (.iload_n 1, 1) := da9_dX8_rankBehindTurn_0.2.1
theorem dX8_rankBehindTurn_2 : decode cX8_rankBehindTurn 2 = .ok (.if_icmp .ge 11, 3) := da9_dX8_rankBehindTurn_0.2.2.1
theorem dX8_rankBehindTurn_5 : decode cX8_rankBehindTurn 5 = .ok (.iload_n 1, 1) := da9_dX8_rankBehindTurn_0.2.2.2.1
theorem dX8_rankBehindTurn_6 : decode cX8_rankBehindTurn 6 = .ok (.iconst 1, 1) := da9_dX8_rankBehindTurn_0.2.2.2.2.1
theorem dX8_rankBehindTurn_7 : decode cX8_rankBehindTurn 7 = .ok (.isub, 1) := da9_dX8_rankBehindTurn_0.2.2.2.2.2.1
theorem dX8_rankBehindTurn_8 : decode cX8_rankBehindTurn 8 = .ok (.iload_n 2, 1) := da9_dX8_rankBehindTurn_0.2.2.2.2.2.2.1
theorem dX8_rankBehindTurn_9 : decode cX8_rankBehindTurn 9 = .ok (.isub, 1) := da9_dX8_rankBehindTurn_0.2.2.2.2.2.2.2.1
theorem dX8_rankBehindTurn_10 : decode cX8_rankBehindTurn 10 = .ok (.goto 4, 3) := da9_dX8_rankBehindTurn_0.2.2.2.2.2.2.2.2.1
theorem dX8_rankBehindTurn_13 : decode cX8_rankBehindTurn 13 = .ok (.iload_n 2, 1) := da9_dX8_rankBehindTurn_0.2.2.2.2.2.2.2.2.2.1
theorem dX8_rankBehindTurn_14 : decode cX8_rankBehindTurn 14 = .ok (.istore_n 3, 1) := da9_dX8_rankBehindTurn_0.2.2.2.2.2.2.2.2.2.2.1
theorem dX8_rankBehindTurn_15 : decode cX8_rankBehindTurn 15 = .ok (.aload_n 0, 1) := da9_dX8_rankBehindTurn_0.2.2.2.2.2.2.2.2.2.2.2.1
theorem dX8_rankBehindTurn_16 : decode cX8_rankBehindTurn 16 = .ok (.iload_n 3, 1) := da9_dX8_rankBehindTurn_0.2.2.2.2.2.2.2.2.2.2.2.2.1
theorem dX8_rankBehindTurn_17 : decode cX8_rankBehindTurn 17 = .ok (.invokevirtual 28, 3) := da9_dX8_rankBehindTurn_0.2.2.2.2.2.2.2.2.2.2.2.2.2.1
theorem dX8_rankBehindTurn_20 : decode cX8_rankBehindTurn 20 = .ok (.ifCond .eq 12, 3) := da9_dX8_rankBehindTurn_0.2.2.2.2.2.2.2.2.2.2.2.2.2.2.1
theorem dX8_rankBehindTurn_23 : decode cX8_rankBehindTurn 23 = .ok (.aload_n 0, 1) := da9_dX8_rankBehindTurn_0.2.2.2.2.2.2.2.2.2.2.2.2.2.2.2
theorem da9_dX8_rankBehindTurn_24 : (decode cX8_rankBehindTurn 24 = .ok (.getfield 9, 3)) ∧ (decode cX8_rankBehindTurn 27 = .ok (.iload_n 3, 1)) ∧ (decode cX8_rankBehindTurn 28 = .ok (.iaload, 1)) ∧ (decode cX8_rankBehindTurn 29 = .ok (.goto 4, 3)) ∧ (decode cX8_rankBehindTurn 32 = .ok (.iconst (-1), 1)) ∧ (decode cX8_rankBehindTurn 33 = .ok (.ireturn, 1)) := by decide +kernel
theorem dX8_rankBehindTurn_24 : decode cX8_rankBehindTurn 24 = .ok (.getfield 9, 3) := da9_dX8_rankBehindTurn_24.1
theorem dX8_rankBehindTurn_27 : decode cX8_rankBehindTurn 27 = .ok (.iload_n 3, 1) := da9_dX8_rankBehindTurn_24.2.1
theorem dX8_rankBehindTurn_28 : decode cX8_rankBehindTurn 28 = .ok (.iaload, 1) := da9_dX8_rankBehindTurn_24.2.2.1
theorem dX8_rankBehindTurn_29 : decode cX8_rankBehindTurn 29 = .ok (.goto 4, 3) := da9_dX8_rankBehindTurn_24.2.2.2.1
theorem dX8_rankBehindTurn_32 : decode cX8_rankBehindTurn 32 = .ok (.iconst (-1), 1) := da9_dX8_rankBehindTurn_24.2.2.2.2.1
theorem dX8_rankBehindTurn_33 : decode cX8_rankBehindTurn 33 = .ok (.ireturn, 1) := da9_dX8_rankBehindTurn_24.2.2.2.2.2
set_option maxRecDepth 20000 in
theorem ggX9_stays_X9_isBit : GoodIn wsX9_stays wsX9_isBit := goodIn_r _ [5] rfl (by decide +kernel)
set_option maxRecDepth 20000 in
theorem gX9_stays_X9_isBit : GoodIn wsX9_stays (va_wsS RX9 115 yX9_isBit wsX9_isBit) := goodIn_app (goodIn_of _ (by decide +kernel)) ggX9_stays_X9_isBit
set_option maxRecDepth 20000 in
theorem ggX9_stays_J6_bitCount_0f7a4 : GoodIn wsX9_stays wsJ6_bitCount_0f7a4 := goodIn_r _ [9, 10, 11, 12] rfl (by decide +kernel)
set_option maxRecDepth 20000 in
theorem gX9_stays_J6_bitCount_0f7a4 : GoodIn wsX9_stays (va_wsS RX9 262 yJ6_bitCount_0f7a4 wsJ6_bitCount_0f7a4) := goodIn_app (goodIn_of _ (by decide +kernel)) ggX9_stays_J6_bitCount_0f7a4
set_option maxRecDepth 20000 in
theorem ggX9_stays_X8_rises : GoodIn wsX9_stays wsX8_rises := goodIn_r _ [17, 18, 19, 20, 50, 51, 52, 53, 54] rfl (by decide +kernel)
set_option maxRecDepth 20000 in
theorem gX9_stays_X8_rises : GoodIn wsX9_stays (wsV RX9 270 RX8 yX8_rises wsX8_rises) := goodIn_app (goodIn_of _ (by decide +kernel)) ggX9_stays_X8_rises
theorem da9_dX9_stays_0 : (decode cX9_stays 0 = .ok (.iload_n 1, 1)) ∧ (decode cX9_stays 1 = .ok (.invokestatic 115, 3)) ∧ (decode cX9_stays 4 = .ok (.ifCond .ne 5, 3)) ∧ (decode cX9_stays 7 = .ok (.iconst (-1), 1)) ∧ (decode cX9_stays 8 = .ok (.ireturn, 1)) ∧ (decode cX9_stays 9 = .ok (.iconst 0, 1)) ∧ (decode cX9_stays 10 = .ok (.istore_n 2, 1)) ∧ (decode cX9_stays 11 = .ok (.iconst 1, 1)) ∧ (decode cX9_stays 12 = .ok (.istore_n 3, 1)) ∧ (decode cX9_stays 13 = .ok (.iload_n 3, 1)) ∧ (decode cX9_stays 14 = .ok (.iconst 1, 1)) ∧ (decode cX9_stays 15 = .ok (.aload_n 0, 1)) ∧ (decode cX9_stays 16 = .ok (.getfield 10, 3)) ∧ (decode cX9_stays 19 = .ok (.getfield 122, 3)) ∧ (decode cX9_stays 22 = .ok (.getfield 135, 3)) ∧ (decode cX9_stays 25 = .ok (.ishl, 1)) := by decide +kernel
theorem dX9_stays_0 : decode cX9_stays 0 = .ok (.iload_n 1, 1) := da9_dX9_stays_0.1
theorem dX9_stays_1 : decode cX9_stays 1 = .ok (.invokestatic 115, 3) := da9_dX9_stays_0.2.1
theorem dX9_stays_4 : decode cX9_stays 4 = .ok (.ifCond .ne 5, 3) := da9_dX9_stays_0.2.2.1
theorem dX9_stays_7 : decode cX9_stays 7 = .ok (.iconst (-1), 1) := da9_dX9_stays_0.2.2.2.1
theorem dX9_stays_8 : decode cX9_stays 8 = .ok (.ireturn, 1) := da9_dX9_stays_0.2.2.2.2.1
theorem dX9_stays_9 : decode cX9_stays 9 = .ok (.iconst 0, 1) := da9_dX9_stays_0.2.2.2.2.2.1
theorem dX9_stays_10 : decode cX9_stays 10 = .ok (.istore_n 2, 1) := da9_dX9_stays_0.2.2.2.2.2.2.1
theorem dX9_stays_11 : decode cX9_stays 11 = .ok (.iconst 1, 1) := da9_dX9_stays_0.2.2.2.2.2.2.2.1
theorem dX9_stays_12 : decode cX9_stays 12 = .ok (.istore_n 3, 1) := da9_dX9_stays_0.2.2.2.2.2.2.2.2.1
theorem dX9_stays_13 : decode cX9_stays 13 = .ok (.iload_n 3, 1) := da9_dX9_stays_0.2.2.2.2.2.2.2.2.2.1
theorem dX9_stays_14 : decode cX9_stays 14 = .ok (.iconst 1, 1) := da9_dX9_stays_0.2.2.2.2.2.2.2.2.2.2.1
theorem dX9_stays_15 : decode cX9_stays 15 = .ok (.aload_n 0, 1) := da9_dX9_stays_0.2.2.2.2.2.2.2.2.2.2.2.1
theorem dX9_stays_16 : decode cX9_stays 16 = .ok (.getfield 10, 3) := da9_dX9_stays_0.2.2.2.2.2.2.2.2.2.2.2.2.1
theorem dX9_stays_19 : decode cX9_stays 19 = .ok (.getfield 122, 3) := da9_dX9_stays_0.2.2.2.2.2.2.2.2.2.2.2.2.2.1
theorem dX9_stays_22 : decode cX9_stays 22 = .ok (.getfield 135, 3) := da9_dX9_stays_0.2.2.2.2.2.2.2.2.2.2.2.2.2.2.1
theorem dX9_stays_25 : decode cX9_stays 25 = .ok (.ishl, 1) := da9_dX9_stays_0.2.2.2.2.2.2.2.2.2.2.2.2.2.2.2
theorem da9_dX9_stays_26 : (decode cX9_stays 26 = .ok (.if_icmp .ge 43, 3)) ∧ (decode cX9_stays 29 = .ok (.iload_n 3, 1)) ∧ (decode cX9_stays 30 = .ok (.invokestatic 262, 3)) ∧ (decode cX9_stays 33 = .ok (.iload_n 2, 1)) ∧ (decode cX9_stays 34 = .ok (.invokestatic 262, 3)) ∧ (decode cX9_stays 37 = .ok (.if_icmp .le 26, 3)) ∧ (decode cX9_stays 40 = .ok (.aload_n 0, 1)) ∧ (decode cX9_stays 41 = .ok (.getfield 10, 3)) ∧ (decode cX9_stays 44 = .ok (.getfield 122, 3)) ∧ (decode cX9_stays 47 = .ok (.iload_n 3, 1)) ∧ (decode cX9_stays 48 = .ok (.aload_n 0, 1)) ∧ (decode cX9_stays 49 = .ok (.getfield 10, 3)) ∧ (decode cX9_stays 52 = .ok (.getfield 267, 3)) ∧ (decode cX9_stays 55 = .ok (.invokevirtual 270, 3)) ∧ (decode cX9_stays 58 = .ok (.ifCond .eq 5, 3)) ∧ (decode cX9_stays 61 = .ok (.iload_n 3, 1)) := by decide +kernel
theorem dX9_stays_26 : decode cX9_stays 26 = .ok (.if_icmp .ge 43, 3) := da9_dX9_stays_26.1
theorem dX9_stays_29 : decode cX9_stays 29 = .ok (.iload_n 3, 1) := da9_dX9_stays_26.2.1
theorem dX9_stays_30 : decode cX9_stays 30 = .ok (.invokestatic 262, 3) := da9_dX9_stays_26.2.2.1
theorem dX9_stays_33 : decode cX9_stays 33 = .ok (.iload_n 2, 1) := da9_dX9_stays_26.2.2.2.1
theorem dX9_stays_34 : decode cX9_stays 34 = .ok (.invokestatic 262, 3) := da9_dX9_stays_26.2.2.2.2.1
theorem dX9_stays_37 : decode cX9_stays 37 = .ok (.if_icmp .le 26, 3) := da9_dX9_stays_26.2.2.2.2.2.1
theorem dX9_stays_40 : decode cX9_stays 40 = .ok (.aload_n 0, 1) := da9_dX9_stays_26.2.2.2.2.2.2.1
theorem dX9_stays_41 : decode cX9_stays 41 = .ok (.getfield 10, 3) := da9_dX9_stays_26.2.2.2.2.2.2.2.1
theorem dX9_stays_44 : decode cX9_stays 44 = .ok (.getfield 122, 3) := da9_dX9_stays_26.2.2.2.2.2.2.2.2.1
theorem dX9_stays_47 : decode cX9_stays 47 = .ok (.iload_n 3, 1) := da9_dX9_stays_26.2.2.2.2.2.2.2.2.2.1
theorem dX9_stays_48 : decode cX9_stays 48 = .ok (.aload_n 0, 1) := da9_dX9_stays_26.2.2.2.2.2.2.2.2.2.2.1
theorem dX9_stays_49 : decode cX9_stays 49 = .ok (.getfield 10, 3) := da9_dX9_stays_26.2.2.2.2.2.2.2.2.2.2.2.1
theorem dX9_stays_52 : decode cX9_stays 52 = .ok (.getfield 267, 3) := da9_dX9_stays_26.2.2.2.2.2.2.2.2.2.2.2.2.1
theorem dX9_stays_55 : decode cX9_stays 55 = .ok (.invokevirtual 270, 3) := da9_dX9_stays_26.2.2.2.2.2.2.2.2.2.2.2.2.2.1
theorem dX9_stays_58 : decode cX9_stays 58 = .ok (.ifCond .eq 5, 3) := da9_dX9_stays_26.2.2.2.2.2.2.2.2.2.2.2.2.2.2.1
theorem dX9_stays_61 : decode cX9_stays 61 = .ok (.iload_n 3, 1) := da9_dX9_stays_26.2.2.2.2.2.2.2.2.2.2.2.2.2.2.2
theorem da9_dX9_stays_62 : (decode cX9_stays 62 = .ok (.istore_n 2, 1)) ∧ (decode cX9_stays 63 = .ok (.iinc 3 1, 3)) ∧ (decode cX9_stays 66 = .ok (.goto (-53), 3)) ∧ (decode cX9_stays 69 = .ok (.iload_n 1, 1)) ∧ (decode cX9_stays 70 = .ok (.ifCond .ne 10, 3)) ∧ (decode cX9_stays 73 = .ok (.iload_n 2, 1)) ∧ (decode cX9_stays 74 = .ok (.invokestatic 262, 3)) ∧ (decode cX9_stays 77 = .ok (.goto 4, 3)) ∧ (decode cX9_stays 80 = .ok (.iload_n 2, 1)) ∧ (decode cX9_stays 81 = .ok (.ireturn, 1)) := by decide +kernel
theorem dX9_stays_62 : decode cX9_stays 62 = .ok (.istore_n 2, 1) := da9_dX9_stays_62.1
theorem dX9_stays_63 : decode cX9_stays 63 = .ok (.iinc 3 1, 3) := da9_dX9_stays_62.2.1
theorem dX9_stays_66 : decode cX9_stays 66 = .ok (.goto (-53), 3) := da9_dX9_stays_62.2.2.1
theorem dX9_stays_69 : decode cX9_stays 69 = .ok (.iload_n 1, 1) := da9_dX9_stays_62.2.2.2.1
theorem dX9_stays_70 : decode cX9_stays 70 = .ok (.ifCond .ne 10, 3) := da9_dX9_stays_62.2.2.2.2.1
theorem dX9_stays_73 : decode cX9_stays 73 = .ok (.iload_n 2, 1) := da9_dX9_stays_62.2.2.2.2.2.1
theorem dX9_stays_74 : decode cX9_stays 74 = .ok (.invokestatic 262, 3) := da9_dX9_stays_62.2.2.2.2.2.2.1
theorem dX9_stays_77 : decode cX9_stays 77 = .ok (.goto 4, 3) := da9_dX9_stays_62.2.2.2.2.2.2.2.1
theorem dX9_stays_80 : decode cX9_stays 80 = .ok (.iload_n 2, 1) := da9_dX9_stays_62.2.2.2.2.2.2.2.2.1
theorem dX9_stays_81 : decode cX9_stays 81 = .ok (.ireturn, 1) := da9_dX9_stays_62.2.2.2.2.2.2.2.2.2
set_option maxRecDepth 20000 in
theorem ggX9_seen_X9_isRank : GoodIn wsX9_seen wsX9_isRank := goodIn_r _ [5] rfl (by decide +kernel)
set_option maxRecDepth 20000 in
theorem gX9_seen_X9_isRank : GoodIn wsX9_seen (va_wsS RX9 111 yX9_isRank wsX9_isRank) := goodIn_app (goodIn_of _ (by decide +kernel)) ggX9_seen_X9_isRank
set_option maxRecDepth 20000 in
theorem ggX9_seen_X9_refuse : GoodIn wsX9_seen wsX9_refuse := goodIn_r _ [9, 10, 11, 16, 17, 18, 19, 20, 21, 22, 23, 24, 25, 26, 27, 28, 29, 30, 31, 32, 33, 34] rfl (by decide +kernel)
set_option maxRecDepth 20000 in
theorem gX9_seen_X9_refuse : GoodIn wsX9_seen (wsV RX9 118 RX9 yX9_refuse wsX9_refuse) := goodIn_app (goodIn_of _ (by decide +kernel)) ggX9_seen_X9_refuse
set_option maxRecDepth 20000 in
theorem ggX9_seen_X9_accept : GoodIn wsX9_seen wsX9_accept := goodIn_r _ [15, 10, 16, 17, 18, 19, 20, 21, 22, 23, 24, 25, 26, 27, 28, 29, 30, 31, 32, 33, 34] rfl (by decide +kernel)
set_option maxRecDepth 20000 in
theorem gX9_seen_X9_accept : GoodIn wsX9_seen (wsV RX9 138 RX9 yX9_accept wsX9_accept) := goodIn_app (goodIn_of _ (by decide +kernel)) ggX9_seen_X9_accept
theorem da9_dX9_seen_0 : (decode cX9_seen 0 = .ok (.iload_n 1, 1)) ∧ (decode cX9_seen 1 = .ok (.ifCond .lt 16, 3)) ∧ (decode cX9_seen 4 = .ok (.iload_n 1, 1)) ∧ (decode cX9_seen 5 = .ok (.bipush 6, 2)) ∧ (decode cX9_seen 7 = .ok (.if_icmp .ge 10, 3)) ∧ (decode cX9_seen 10 = .ok (.iload_n 2, 1)) ∧ (decode cX9_seen 11 = .ok (.invokestatic 111, 3)) ∧ (decode cX9_seen 14 = .ok (.ifCond .ne 9, 3)) ∧ (decode cX9_seen 17 = .ok (.aload_n 0, 1)) ∧ (decode cX9_seen 18 = .ok (.iconst (-1), 1)) ∧ (decode cX9_seen 19 = .ok (.invokevirtual 118, 3)) ∧ (decode cX9_seen 22 = .ok (.ireturn, 1)) ∧ (decode cX9_seen 23 = .ok (.aload_n 0, 1)) ∧ (decode cX9_seen 24 = .ok (.getfield 10, 3)) ∧ (decode cX9_seen 27 = .ok (.getfield 273, 3)) ∧ (decode cX9_seen 30 = .ok (.bipush 6, 2)) := by decide +kernel
theorem dX9_seen_0 : decode cX9_seen 0 = .ok (.iload_n 1, 1) := da9_dX9_seen_0.1
theorem dX9_seen_1 : decode cX9_seen 1 = .ok (.ifCond .lt 16, 3) := da9_dX9_seen_0.2.1
theorem dX9_seen_4 : decode cX9_seen 4 = .ok (.iload_n 1, 1) := da9_dX9_seen_0.2.2.1
theorem dX9_seen_5 : decode cX9_seen 5 = .ok (.bipush 6, 2) := da9_dX9_seen_0.2.2.2.1
theorem dX9_seen_7 : decode cX9_seen 7 = .ok (.if_icmp .ge 10, 3) := da9_dX9_seen_0.2.2.2.2.1
theorem dX9_seen_10 : decode cX9_seen 10 = .ok (.iload_n 2, 1) := da9_dX9_seen_0.2.2.2.2.2.1
theorem dX9_seen_11 : decode cX9_seen 11 = .ok (.invokestatic 111, 3) := da9_dX9_seen_0.2.2.2.2.2.2.1
theorem dX9_seen_14 : decode cX9_seen 14 = .ok (.ifCond .ne 9, 3) := da9_dX9_seen_0.2.2.2.2.2.2.2.1
theorem dX9_seen_17 : decode cX9_seen 17 = .ok (.aload_n 0, 1) := da9_dX9_seen_0.2.2.2.2.2.2.2.2.1
theorem dX9_seen_18 : decode cX9_seen 18 = .ok (.iconst (-1), 1) := da9_dX9_seen_0.2.2.2.2.2.2.2.2.2.1
theorem dX9_seen_19 : decode cX9_seen 19 = .ok (.invokevirtual 118, 3) := da9_dX9_seen_0.2.2.2.2.2.2.2.2.2.2.1
theorem dX9_seen_22 : decode cX9_seen 22 = .ok (.ireturn, 1) := da9_dX9_seen_0.2.2.2.2.2.2.2.2.2.2.2.1
theorem dX9_seen_23 : decode cX9_seen 23 = .ok (.aload_n 0, 1) := da9_dX9_seen_0.2.2.2.2.2.2.2.2.2.2.2.2.1
theorem dX9_seen_24 : decode cX9_seen 24 = .ok (.getfield 10, 3) := da9_dX9_seen_0.2.2.2.2.2.2.2.2.2.2.2.2.2.1
theorem dX9_seen_27 : decode cX9_seen 27 = .ok (.getfield 273, 3) := da9_dX9_seen_0.2.2.2.2.2.2.2.2.2.2.2.2.2.2.1
theorem dX9_seen_30 : decode cX9_seen 30 = .ok (.bipush 6, 2) := da9_dX9_seen_0.2.2.2.2.2.2.2.2.2.2.2.2.2.2.2
theorem da9_dX9_seen_32 : (decode cX9_seen 32 = .ok (.if_icmp .lt 10, 3)) ∧ (decode cX9_seen 35 = .ok (.aload_n 0, 1)) ∧ (decode cX9_seen 36 = .ok (.bipush (-5), 2)) ∧ (decode cX9_seen 38 = .ok (.invokevirtual 118, 3)) ∧ (decode cX9_seen 41 = .ok (.ireturn, 1)) ∧ (decode cX9_seen 42 = .ok (.aload_n 0, 1)) ∧ (decode cX9_seen 43 = .ok (.getfield 10, 3)) ∧ (decode cX9_seen 46 = .ok (.getfield 276, 3)) ∧ (decode cX9_seen 49 = .ok (.aload_n 0, 1)) ∧ (decode cX9_seen 50 = .ok (.getfield 10, 3)) ∧ (decode cX9_seen 53 = .ok (.getfield 273, 3)) ∧ (decode cX9_seen 56 = .ok (.iload_n 1, 1)) ∧ (decode cX9_seen 57 = .ok (.iastore, 1)) ∧ (decode cX9_seen 58 = .ok (.aload_n 0, 1)) ∧ (decode cX9_seen 59 = .ok (.getfield 10, 3)) ∧ (decode cX9_seen 62 = .ok (.getfield 279, 3)) := by decide +kernel
theorem dX9_seen_32 : decode cX9_seen 32 = .ok (.if_icmp .lt 10, 3) := da9_dX9_seen_32.1
theorem dX9_seen_35 : decode cX9_seen 35 = .ok (.aload_n 0, 1) := da9_dX9_seen_32.2.1
theorem dX9_seen_36 : decode cX9_seen 36 = .ok (.bipush (-5), 2) := da9_dX9_seen_32.2.2.1
theorem dX9_seen_38 : decode cX9_seen 38 = .ok (.invokevirtual 118, 3) := da9_dX9_seen_32.2.2.2.1
theorem dX9_seen_41 : decode cX9_seen 41 = .ok (.ireturn, 1) := da9_dX9_seen_32.2.2.2.2.1
theorem dX9_seen_42 : decode cX9_seen 42 = .ok (.aload_n 0, 1) := da9_dX9_seen_32.2.2.2.2.2.1
theorem dX9_seen_43 : decode cX9_seen 43 = .ok (.getfield 10, 3) := da9_dX9_seen_32.2.2.2.2.2.2.1
theorem dX9_seen_46 : decode cX9_seen 46 = .ok (.getfield 276, 3) := da9_dX9_seen_32.2.2.2.2.2.2.2.1
theorem dX9_seen_49 : decode cX9_seen 49 = .ok (.aload_n 0, 1) := da9_dX9_seen_32.2.2.2.2.2.2.2.2.1
theorem dX9_seen_50 : decode cX9_seen 50 = .ok (.getfield 10, 3) := da9_dX9_seen_32.2.2.2.2.2.2.2.2.2.1
theorem dX9_seen_53 : decode cX9_seen 53 = .ok (.getfield 273, 3) := da9_dX9_seen_32.2.2.2.2.2.2.2.2.2.2.1
theorem dX9_seen_56 : decode cX9_seen 56 = .ok (.iload_n 1, 1) := da9_dX9_seen_32.2.2.2.2.2.2.2.2.2.2.2.1
theorem dX9_seen_57 : decode cX9_seen 57 = .ok (.iastore, 1) := da9_dX9_seen_32.2.2.2.2.2.2.2.2.2.2.2.2.1
theorem dX9_seen_58 : decode cX9_seen 58 = .ok (.aload_n 0, 1) := da9_dX9_seen_32.2.2.2.2.2.2.2.2.2.2.2.2.2.1
theorem dX9_seen_59 : decode cX9_seen 59 = .ok (.getfield 10, 3) := da9_dX9_seen_32.2.2.2.2.2.2.2.2.2.2.2.2.2.2.1
theorem dX9_seen_62 : decode cX9_seen 62 = .ok (.getfield 279, 3) := da9_dX9_seen_32.2.2.2.2.2.2.2.2.2.2.2.2.2.2.2
theorem da9_dX9_seen_65 : (decode cX9_seen 65 = .ok (.aload_n 0, 1)) ∧ (decode cX9_seen 66 = .ok (.getfield 10, 3)) ∧ (decode cX9_seen 69 = .ok (.getfield 273, 3)) ∧ (decode cX9_seen 72 = .ok (.iload_n 2, 1)) ∧ (decode cX9_seen 73 = .ok (.iastore, 1)) ∧ (decode cX9_seen 74 = .ok (.aload_n 0, 1)) ∧ (decode cX9_seen 75 = .ok (.getfield 10, 3)) ∧ (decode cX9_seen 78 = .ok (.dup, 1)) ∧ (decode cX9_seen 79 = .ok (.getfield 273, 3)) ∧ (decode cX9_seen 82 = .ok (.iconst 1, 1)) ∧ (decode cX9_seen 83 = .ok (.iadd, 1)) ∧ (decode cX9_seen 84 = .ok (.putfield 273, 3)) ∧ (decode cX9_seen 87 = .ok (.aload_n 0, 1)) ∧ (decode cX9_seen 88 = .ok (.aload_n 0, 1)) ∧ (decode cX9_seen 89 = .ok (.getfield 10, 3)) ∧ (decode cX9_seen 92 = .ok (.getfield 273, 3)) := by decide +kernel
theorem dX9_seen_65 : decode cX9_seen 65 = .ok (.aload_n 0, 1) := da9_dX9_seen_65.1
theorem dX9_seen_66 : decode cX9_seen 66 = .ok (.getfield 10, 3) := da9_dX9_seen_65.2.1
theorem dX9_seen_69 : decode cX9_seen 69 = .ok (.getfield 273, 3) := da9_dX9_seen_65.2.2.1
theorem dX9_seen_72 : decode cX9_seen 72 = .ok (.iload_n 2, 1) := da9_dX9_seen_65.2.2.2.1
theorem dX9_seen_73 : decode cX9_seen 73 = .ok (.iastore, 1) := da9_dX9_seen_65.2.2.2.2.1
theorem dX9_seen_74 : decode cX9_seen 74 = .ok (.aload_n 0, 1) := da9_dX9_seen_65.2.2.2.2.2.1
theorem dX9_seen_75 : decode cX9_seen 75 = .ok (.getfield 10, 3) := da9_dX9_seen_65.2.2.2.2.2.2.1
theorem dX9_seen_78 : decode cX9_seen 78 = .ok (.dup, 1) := da9_dX9_seen_65.2.2.2.2.2.2.2.1
theorem dX9_seen_79 : decode cX9_seen 79 = .ok (.getfield 273, 3) := da9_dX9_seen_65.2.2.2.2.2.2.2.2.1
theorem dX9_seen_82 : decode cX9_seen 82 = .ok (.iconst 1, 1) := da9_dX9_seen_65.2.2.2.2.2.2.2.2.2.1
theorem dX9_seen_83 : decode cX9_seen 83 = .ok (.iadd, 1) := da9_dX9_seen_65.2.2.2.2.2.2.2.2.2.2.1
theorem dX9_seen_84 : decode cX9_seen 84 = .ok (.putfield 273, 3) := da9_dX9_seen_65.2.2.2.2.2.2.2.2.2.2.2.1
theorem dX9_seen_87 : decode cX9_seen 87 = .ok (.aload_n 0, 1) := da9_dX9_seen_65.2.2.2.2.2.2.2.2.2.2.2.2.1
theorem dX9_seen_88 : decode cX9_seen 88 = .ok (.aload_n 0, 1) := da9_dX9_seen_65.2.2.2.2.2.2.2.2.2.2.2.2.2.1
theorem dX9_seen_89 : decode cX9_seen 89 = .ok (.getfield 10, 3) := da9_dX9_seen_65.2.2.2.2.2.2.2.2.2.2.2.2.2.2.1
theorem dX9_seen_92 : decode cX9_seen 92 = .ok (.getfield 273, 3) := da9_dX9_seen_65.2.2.2.2.2.2.2.2.2.2.2.2.2.2.2
theorem da9_dX9_seen_95 : (decode cX9_seen 95 = .ok (.invokevirtual 138, 3)) ∧ (decode cX9_seen 98 = .ok (.ireturn, 1)) := by decide +kernel
theorem dX9_seen_95 : decode cX9_seen 95 = .ok (.invokevirtual 138, 3) := da9_dX9_seen_95.1
theorem dX9_seen_98 : decode cX9_seen 98 = .ok (.ireturn, 1) := da9_dX9_seen_95.2
theorem da9_dX9_forget_0 : (decode cX9_forget 0 = .ok (.aload_n 0, 1)) ∧ (decode cX9_forget 1 = .ok (.getfield 10, 3)) ∧ (decode cX9_forget 4 = .ok (.getfield 273, 3)) ∧ (decode cX9_forget 7 = .ok (.istore_n 1, 1)) ∧ (decode cX9_forget 8 = .ok (.aload_n 0, 1)) ∧ (decode cX9_forget 9 = .ok (.getfield 10, 3)) ∧ (decode cX9_forget 12 = .ok (.iconst 0, 1)) ∧ (decode cX9_forget 13 = .ok (.putfield 273, 3)) ∧ (decode cX9_forget 16 = .ok (.iload_n 1, 1)) ∧ (decode cX9_forget 17 = .ok (.ireturn, 1)) := by decide +kernel
theorem dX9_forget_0 : decode cX9_forget 0 = .ok (.aload_n 0, 1) := da9_dX9_forget_0.1
theorem dX9_forget_1 : decode cX9_forget 1 = .ok (.getfield 10, 3) := da9_dX9_forget_0.2.1
theorem dX9_forget_4 : decode cX9_forget 4 = .ok (.getfield 273, 3) := da9_dX9_forget_0.2.2.1
theorem dX9_forget_7 : decode cX9_forget 7 = .ok (.istore_n 1, 1) := da9_dX9_forget_0.2.2.2.1
theorem dX9_forget_8 : decode cX9_forget 8 = .ok (.aload_n 0, 1) := da9_dX9_forget_0.2.2.2.2.1
theorem dX9_forget_9 : decode cX9_forget 9 = .ok (.getfield 10, 3) := da9_dX9_forget_0.2.2.2.2.2.1
theorem dX9_forget_12 : decode cX9_forget 12 = .ok (.iconst 0, 1) := da9_dX9_forget_0.2.2.2.2.2.2.1
theorem dX9_forget_13 : decode cX9_forget 13 = .ok (.putfield 273, 3) := da9_dX9_forget_0.2.2.2.2.2.2.2.1
theorem dX9_forget_16 : decode cX9_forget 16 = .ok (.iload_n 1, 1) := da9_dX9_forget_0.2.2.2.2.2.2.2.2.1
theorem dX9_forget_17 : decode cX9_forget 17 = .ok (.ireturn, 1) := da9_dX9_forget_0.2.2.2.2.2.2.2.2.2
set_option maxRecDepth 20000 in
theorem ggX9_was_X9_seated : GoodIn wsX9_was wsX9_seated := goodIn_r _ [6, 7, 1, 8, 9, 10, 11, 12, 13, 14, 15, 16, 17, 18, 19, 20, 21, 22, 23, 24, 25, 90, 91, 92, 93, 94, 95, 96, 97, 98, 99, 100, 101, 102, 103, 104, 105, 106, 107, 108, 109, 110, 111, 112, 113, 114, 115, 116, 117, 118, 124, 125, 126] rfl (by decide +kernel)
set_option maxRecDepth 20000 in
theorem gX9_was_X9_seated : GoodIn wsX9_was (wsV RX9 144 RX9 yX9_seated wsX9_seated) := goodIn_app (goodIn_of _ (by decide +kernel)) ggX9_was_X9_seated
set_option maxRecDepth 20000 in
theorem ggX9_was_X1_bars : GoodIn wsX9_was wsX1_bars := goodIn_r _ [29, 30, 31, 32, 22, 33, 34, 35, 36, 37, 25, 38, 39, 40, 41, 42, 43, 44, 45, 46, 47, 48, 49, 50, 5, 51, 52, 53, 54, 55, 56, 57, 58, 59, 24, 60, 61, 62, 63, 64, 65, 66, 67, 68, 69, 70, 71, 72, 73, 74, 75, 76, 77, 119, 120, 121, 122, 123, 124, 125, 126, 127, 128, 129, 130, 131, 132, 133, 134, 135, 136] rfl (by decide +kernel)
set_option maxRecDepth 20000 in
theorem gX9_was_X1_bars : GoodIn wsX9_was (wsV RX9 164 RX1 yX1_bars wsX1_bars) := goodIn_app (goodIn_of _ (by decide +kernel)) ggX9_was_X1_bars
set_option maxRecDepth 20000 in
theorem ggX9_was_X6_agrees : GoodIn wsX9_was wsX6_agrees := goodIn_r _ [81, 82, 83, 84, 85, 86, 87, 88, 41, 89, 43, 45, 46, 47, 48, 49, 109, 110, 111, 112, 113, 114, 115, 116, 117, 118, 119, 120, 121, 122, 123] rfl (by decide +kernel)
set_option maxRecDepth 20000 in
theorem gX9_was_X6_agrees : GoodIn wsX9_was (wsV RX9 282 RX6 yX6_agrees wsX6_agrees) := goodIn_app (goodIn_of _ (by decide +kernel)) ggX9_was_X6_agrees
theorem da9_dX9_was_0 : (decode cX9_was 0 = .ok (.aload_n 0, 1)) ∧ (decode cX9_was 1 = .ok (.invokevirtual 144, 3)) ∧ (decode cX9_was 4 = .ok (.astore_n 1, 1)) ∧ (decode cX9_was 5 = .ok (.iconst 0, 1)) ∧ (decode cX9_was 6 = .ok (.istore_n 2, 1)) ∧ (decode cX9_was 7 = .ok (.iconst 1, 1)) ∧ (decode cX9_was 8 = .ok (.istore_n 3, 1)) ∧ (decode cX9_was 9 = .ok (.iload_n 3, 1)) ∧ (decode cX9_was 10 = .ok (.aload_n 0, 1)) ∧ (decode cX9_was 11 = .ok (.getfield 10, 3)) ∧ (decode cX9_was 14 = .ok (.getfield 122, 3)) ∧ (decode cX9_was 17 = .ok (.getfield 135, 3)) ∧ (decode cX9_was 20 = .ok (.if_icmp .gt 41, 3)) ∧ (decode cX9_was 23 = .ok (.aload_n 1, 1)) ∧ (decode cX9_was 24 = .ok (.aload_n 0, 1)) ∧ (decode cX9_was 25 = .ok (.getfield 10, 3)) := by decide +kernel
theorem dX9_was_0 : decode cX9_was 0 = .ok (.aload_n 0, 1) := da9_dX9_was_0.1
theorem dX9_was_1 : decode cX9_was 1 = .ok (.invokevirtual 144, 3) := da9_dX9_was_0.2.1
theorem dX9_was_4 : decode cX9_was 4 = .ok (.astore_n 1, 1) := da9_dX9_was_0.2.2.1
theorem dX9_was_5 : decode cX9_was 5 = .ok (.iconst 0, 1) := da9_dX9_was_0.2.2.2.1
theorem dX9_was_6 : decode cX9_was 6 = .ok (.istore_n 2, 1) := da9_dX9_was_0.2.2.2.2.1
theorem dX9_was_7 : decode cX9_was 7 = .ok (.iconst 1, 1) := da9_dX9_was_0.2.2.2.2.2.1
theorem dX9_was_8 : decode cX9_was 8 = .ok (.istore_n 3, 1) := da9_dX9_was_0.2.2.2.2.2.2.1
theorem dX9_was_9 : decode cX9_was 9 = .ok (.iload_n 3, 1) := da9_dX9_was_0.2.2.2.2.2.2.2.1
theorem dX9_was_10 : decode cX9_was 10 = .ok (.aload_n 0, 1) := da9_dX9_was_0.2.2.2.2.2.2.2.2.1
theorem dX9_was_11 : decode cX9_was 11 = .ok (.getfield 10, 3) := da9_dX9_was_0.2.2.2.2.2.2.2.2.2.1
theorem dX9_was_14 : decode cX9_was 14 = .ok (.getfield 122, 3) := da9_dX9_was_0.2.2.2.2.2.2.2.2.2.2.1
theorem dX9_was_17 : decode cX9_was 17 = .ok (.getfield 135, 3) := da9_dX9_was_0.2.2.2.2.2.2.2.2.2.2.2.1
theorem dX9_was_20 : decode cX9_was 20 = .ok (.if_icmp .gt 41, 3) := da9_dX9_was_0.2.2.2.2.2.2.2.2.2.2.2.2.1
theorem dX9_was_23 : decode cX9_was 23 = .ok (.aload_n 1, 1) := da9_dX9_was_0.2.2.2.2.2.2.2.2.2.2.2.2.2.1
theorem dX9_was_24 : decode cX9_was 24 = .ok (.aload_n 0, 1) := da9_dX9_was_0.2.2.2.2.2.2.2.2.2.2.2.2.2.2.1
theorem dX9_was_25 : decode cX9_was 25 = .ok (.getfield 10, 3) := da9_dX9_was_0.2.2.2.2.2.2.2.2.2.2.2.2.2.2.2
theorem da9_dX9_was_28 : (decode cX9_was 28 = .ok (.getfield 122, 3)) ∧ (decode cX9_was 31 = .ok (.iload_n 3, 1)) ∧ (decode cX9_was 32 = .ok (.invokevirtual 164, 3)) ∧ (decode cX9_was 35 = .ok (.ifCond .ne 20, 3)) ∧ (decode cX9_was 38 = .ok (.aload_n 0, 1)) ∧ (decode cX9_was 39 = .ok (.getfield 10, 3)) ∧ (decode cX9_was 42 = .ok (.iload_n 3, 1)) ∧ (decode cX9_was 43 = .ok (.invokevirtual 282, 3)) ∧ (decode cX9_was 46 = .ok (.ifCond .eq 9, 3)) ∧ (decode cX9_was 49 = .ok (.iload_n 2, 1)) ∧ (decode cX9_was 50 = .ok (.iconst 1, 1)) ∧ (decode cX9_was 51 = .ok (.iload_n 3, 1)) ∧ (decode cX9_was 52 = .ok (.ishl, 1)) ∧ (decode cX9_was 53 = .ok (.ior, 1)) ∧ (decode cX9_was 54 = .ok (.istore_n 2, 1)) ∧ (decode cX9_was 55 = .ok (.iinc 3 1, 3)) := by decide +kernel
theorem dX9_was_28 : decode cX9_was 28 = .ok (.getfield 122, 3) := da9_dX9_was_28.1
theorem dX9_was_31 : decode cX9_was 31 = .ok (.iload_n 3, 1) := da9_dX9_was_28.2.1
theorem dX9_was_32 : decode cX9_was 32 = .ok (.invokevirtual 164, 3) := da9_dX9_was_28.2.2.1
theorem dX9_was_35 : decode cX9_was 35 = .ok (.ifCond .ne 20, 3) := da9_dX9_was_28.2.2.2.1
theorem dX9_was_38 : decode cX9_was 38 = .ok (.aload_n 0, 1) := da9_dX9_was_28.2.2.2.2.1
theorem dX9_was_39 : decode cX9_was 39 = .ok (.getfield 10, 3) := da9_dX9_was_28.2.2.2.2.2.1
theorem dX9_was_42 : decode cX9_was 42 = .ok (.iload_n 3, 1) := da9_dX9_was_28.2.2.2.2.2.2.1
theorem dX9_was_43 : decode cX9_was 43 = .ok (.invokevirtual 282, 3) := da9_dX9_was_28.2.2.2.2.2.2.2.1
theorem dX9_was_46 : decode cX9_was 46 = .ok (.ifCond .eq 9, 3) := da9_dX9_was_28.2.2.2.2.2.2.2.2.1
theorem dX9_was_49 : decode cX9_was 49 = .ok (.iload_n 2, 1) := da9_dX9_was_28.2.2.2.2.2.2.2.2.2.1
theorem dX9_was_50 : decode cX9_was 50 = .ok (.iconst 1, 1) := da9_dX9_was_28.2.2.2.2.2.2.2.2.2.2.1
theorem dX9_was_51 : decode cX9_was 51 = .ok (.iload_n 3, 1) := da9_dX9_was_28.2.2.2.2.2.2.2.2.2.2.2.1
theorem dX9_was_52 : decode cX9_was 52 = .ok (.ishl, 1) := da9_dX9_was_28.2.2.2.2.2.2.2.2.2.2.2.2.1
theorem dX9_was_53 : decode cX9_was 53 = .ok (.ior, 1) := da9_dX9_was_28.2.2.2.2.2.2.2.2.2.2.2.2.2.1
theorem dX9_was_54 : decode cX9_was 54 = .ok (.istore_n 2, 1) := da9_dX9_was_28.2.2.2.2.2.2.2.2.2.2.2.2.2.2.1
theorem dX9_was_55 : decode cX9_was 55 = .ok (.iinc 3 1, 3) := da9_dX9_was_28.2.2.2.2.2.2.2.2.2.2.2.2.2.2.2
theorem da9_dX9_was_58 : (decode cX9_was 58 = .ok (.goto (-49), 3)) ∧ (decode cX9_was 61 = .ok (.iload_n 2, 1)) ∧ (decode cX9_was 62 = .ok (.ireturn, 1)) := by decide +kernel
theorem dX9_was_58 : decode cX9_was 58 = .ok (.goto (-49), 3) := da9_dX9_was_58.1
theorem dX9_was_61 : decode cX9_was 61 = .ok (.iload_n 2, 1) := da9_dX9_was_58.2.1
theorem dX9_was_62 : decode cX9_was 62 = .ok (.ireturn, 1) := da9_dX9_was_58.2.2
