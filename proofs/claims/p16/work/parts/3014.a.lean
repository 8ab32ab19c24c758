section
set_option maxRecDepth 20000 in
theorem ggX10_look_X10_lies : GoodIn wsX10_look wsX10_lies := wd_c vW10_ok mvW10_6
set_option maxRecDepth 20000 in
theorem gX10_look_X10_lies : GoodIn wsX10_look (va_wsS RX10 18 yX10_lies wsX10_lies) := goodIn_app (wd_l vW10_ok _ pvW10_141) ggX10_look_X10_lies
set_option maxRecDepth 20000 in
theorem ggX10_look_X10_was : GoodIn wsX10_look wsX10_was := wd_c vW10_ok mvW10_429
set_option maxRecDepth 20000 in
theorem gX10_look_X10_was : GoodIn wsX10_look (wsV RX10 460 RX10 yX10_was wsX10_was) := goodIn_app (wd_l vW10_ok _ pvW10_231) ggX10_look_X10_was
set_option maxRecDepth 20000 in
theorem ggX10_look_X10_size : GoodIn wsX10_look wsX10_size := wd_c vW10_ok mvW10_24
set_option maxRecDepth 20000 in
theorem gX10_look_X10_size : GoodIn wsX10_look (wsV RX10 125 RX10 yX10_size wsX10_size) := goodIn_app (wd_l vW10_ok _ pvW10_144) ggX10_look_X10_size
set_option maxRecDepth 20000 in
theorem ggX10_look_X10_mostAlike : GoodIn wsX10_look wsX10_mostAlike := wd_c vW10_ok mvW10_433
set_option maxRecDepth 20000 in
theorem gX10_look_X10_mostAlike : GoodIn wsX10_look (wsV RX10 463 RX10 yX10_mostAlike wsX10_mostAlike) := goodIn_app (wd_l vW10_ok _ pvW10_232) ggX10_look_X10_mostAlike
theorem da9_dX10_look_0 : (decode cX10_look 0 = .ok (.iload_n 1, 1)) ∧ (decode cX10_look 1 = .ok (.iconst 0, 1)) ∧ (decode cX10_look 2 = .ok (.iconst 1, 1)) ∧ (decode cX10_look 3 = .ok (.invokestatic 18, 3)) ∧ (decode cX10_look 6 = .ok (.ifCond .ne 5, 3)) ∧ (decode cX10_look 9 = .ok (.iconst (-1), 1)) ∧ (decode cX10_look 10 = .ok (.ireturn, 1)) ∧ (decode cX10_look 11 = .ok (.aload_n 0, 1)) ∧ (decode cX10_look 12 = .ok (.invokevirtual 460, 3)) ∧ (decode cX10_look 15 = .ok (.istore_n 2, 1)) ∧ (decode cX10_look 16 = .ok (.iconst (-1), 1)) ∧ (decode cX10_look 17 = .ok (.istore_n 3, 1)) ∧ (decode cX10_look 18 = .ok (.ldc 188, 2)) ∧ (decode cX10_look 20 = .ok (.istore 4, 2)) ∧ (decode cX10_look 22 = .ok (.iconst 0, 1)) ∧ (decode cX10_look 23 = .ok (.istore 5, 2)) := by decide +kernel
theorem dX10_look_0 : decode cX10_look 0 = .ok (.iload_n 1, 1) := da9_dX10_look_0.1
theorem dX10_look_1 : decode cX10_look 1 = .ok (.iconst 0, 1) := da9_dX10_look_0.2.1
theorem dX10_look_2 : decode cX10_look 2 = .ok (.iconst 1, 1) := da9_dX10_look_0.2.2.1
theorem dX10_look_3 : decode cX10_look 3 = .ok (.invokestatic 18, 3) := da9_dX10_look_0.2.2.2.1
theorem dX10_look_6 : decode cX10_look 6 = .ok (.ifCond .ne 5, 3) := da9_dX10_look_0.2.2.2.2.1
theorem dX10_look_9 : decode cX10_look 9 = .ok (.iconst (-1), 1) := da9_dX10_look_0.2.2.2.2.2.1
theorem dX10_look_10 : decode cX10_look 10 = .ok (.ireturn, 1) := da9_dX10_look_0.2.2.2.2.2.2.1
theorem dX10_look_11 : decode cX10_look 11 = .ok (.aload_n 0, 1) := da9_dX10_look_0.2.2.2.2.2.2.2.1
theorem dX10_look_12 : decode cX10_look 12 = .ok (.invokevirtual 460, 3) := da9_dX10_look_0.2.2.2.2.2.2.2.2.1
theorem dX10_look_15 : decode cX10_look 15 = .ok (.istore_n 2, 1) := da9_dX10_look_0.2.2.2.2.2.2.2.2.2.1
theorem dX10_look_16 : decode cX10_look 16 = .ok (.iconst (-1), 1) := da9_dX10_look_0.2.2.2.2.2.2.2.2.2.2.1
theorem dX10_look_17 : decode cX10_look 17 = .ok (.istore_n 3, 1) := da9_dX10_look_0.2.2.2.2.2.2.2.2.2.2.2.1
theorem dX10_look_18 : decode cX10_look 18 = .ok (.ldc 188, 2) := da9_dX10_look_0.2.2.2.2.2.2.2.2.2.2.2.2.1
theorem dX10_look_20 : decode cX10_look 20 = .ok (.istore 4, 2) := da9_dX10_look_0.2.2.2.2.2.2.2.2.2.2.2.2.2.1
theorem dX10_look_22 : decode cX10_look 22 = .ok (.iconst 0, 1) := da9_dX10_look_0.2.2.2.2.2.2.2.2.2.2.2.2.2.2.1
theorem dX10_look_23 : decode cX10_look 23 = .ok (.istore 5, 2) := da9_dX10_look_0.2.2.2.2.2.2.2.2.2.2.2.2.2.2.2
theorem da9_dX10_look_25 : (decode cX10_look 25 = .ok (.iload 5, 2)) ∧ (decode cX10_look 27 = .ok (.aload_n 0, 1)) ∧ (decode cX10_look 28 = .ok (.invokevirtual 125, 3)) ∧ (decode cX10_look 31 = .ok (.if_icmp .ge 39, 3)) ∧ (decode cX10_look 34 = .ok (.iload_n 2, 1)) ∧ (decode cX10_look 35 = .ok (.ifCond .eq 35, 3)) ∧ (decode cX10_look 38 = .ok (.aload_n 0, 1)) ∧ (decode cX10_look 39 = .ok (.iload_n 2, 1)) ∧ (decode cX10_look 40 = .ok (.iload 5, 2)) ∧ (decode cX10_look 42 = .ok (.invokevirtual 463, 3)) ∧ (decode cX10_look 45 = .ok (.istore 6, 2)) ∧ (decode cX10_look 47 = .ok (.iload 6, 2)) ∧ (decode cX10_look 49 = .ok (.iload 4, 2)) ∧ (decode cX10_look 51 = .ok (.if_icmp .lt 6, 3)) ∧ (decode cX10_look 54 = .ok (.goto 10, 3)) ∧ (decode cX10_look 57 = .ok (.iload 6, 2)) := by decide +kernel
theorem dX10_look_25 : decode cX10_look 25 = .ok (.iload 5, 2) := da9_dX10_look_25.1
theorem dX10_look_27 : decode cX10_look 27 = .ok (.aload_n 0, 1) := da9_dX10_look_25.2.1
theorem dX10_look_28 : decode cX10_look 28 = .ok (.invokevirtual 125, 3) := da9_dX10_look_25.2.2.1
theorem dX10_look_31 : decode cX10_look 31 = .ok (.if_icmp .ge 39, 3) := da9_dX10_look_25.2.2.2.1
theorem dX10_look_34 : decode cX10_look 34 = .ok (.iload_n 2, 1) := da9_dX10_look_25.2.2.2.2.1
theorem dX10_look_35 : decode cX10_look 35 = .ok (.ifCond .eq 35, 3) := da9_dX10_look_25.2.2.2.2.2.1
theorem dX10_look_38 : decode cX10_look 38 = .ok (.aload_n 0, 1) := da9_dX10_look_25.2.2.2.2.2.2.1
theorem dX10_look_39 : decode cX10_look 39 = .ok (.iload_n 2, 1) := da9_dX10_look_25.2.2.2.2.2.2.2.1
theorem dX10_look_40 : decode cX10_look 40 = .ok (.iload 5, 2) := da9_dX10_look_25.2.2.2.2.2.2.2.2.1
theorem dX10_look_42 : decode cX10_look 42 = .ok (.invokevirtual 463, 3) := da9_dX10_look_25.2.2.2.2.2.2.2.2.2.1
theorem dX10_look_45 : decode cX10_look 45 = .ok (.istore 6, 2) := da9_dX10_look_25.2.2.2.2.2.2.2.2.2.2.1
theorem dX10_look_47 : decode cX10_look 47 = .ok (.iload 6, 2) := da9_dX10_look_25.2.2.2.2.2.2.2.2.2.2.2.1
theorem dX10_look_49 : decode cX10_look 49 = .ok (.iload 4, 2) := da9_dX10_look_25.2.2.2.2.2.2.2.2.2.2.2.2.1
theorem dX10_look_51 : decode cX10_look 51 = .ok (.if_icmp .lt 6, 3) := da9_dX10_look_25.2.2.2.2.2.2.2.2.2.2.2.2.2.1
theorem dX10_look_54 : decode cX10_look 54 = .ok (.goto 10, 3) := da9_dX10_look_25.2.2.2.2.2.2.2.2.2.2.2.2.2.2.1
theorem dX10_look_57 : decode cX10_look 57 = .ok (.iload 6, 2) := da9_dX10_look_25.2.2.2.2.2.2.2.2.2.2.2.2.2.2.2
theorem da9_dX10_look_59 : (decode cX10_look 59 = .ok (.istore 4, 2)) ∧ (decode cX10_look 61 = .ok (.iload 5, 2)) ∧ (decode cX10_look 63 = .ok (.istore_n 3, 1)) ∧ (decode cX10_look 64 = .ok (.iinc 5 1, 3)) ∧ (decode cX10_look 67 = .ok (.goto (-42), 3)) ∧ (decode cX10_look 70 = .ok (.iload_n 3, 1)) ∧ (decode cX10_look 71 = .ok (.iconst (-1), 1)) ∧ (decode cX10_look 72 = .ok (.if_icmp .eq 7, 3)) ∧ (decode cX10_look 75 = .ok (.iload_n 1, 1)) ∧ (decode cX10_look 76 = .ok (.ifCond .ne 7, 3)) ∧ (decode cX10_look 79 = .ok (.iload_n 3, 1)) ∧ (decode cX10_look 80 = .ok (.goto 5, 3)) ∧ (decode cX10_look 83 = .ok (.iload 4, 2)) ∧ (decode cX10_look 85 = .ok (.ireturn, 1)) := by decide +kernel
theorem dX10_look_59 : decode cX10_look 59 = .ok (.istore 4, 2) := da9_dX10_look_59.1
theorem dX10_look_61 : decode cX10_look 61 = .ok (.iload 5, 2) := da9_dX10_look_59.2.1
theorem dX10_look_63 : decode cX10_look 63 = .ok (.istore_n 3, 1) := da9_dX10_look_59.2.2.1
theorem dX10_look_64 : decode cX10_look 64 = .ok (.iinc 5 1, 3) := da9_dX10_look_59.2.2.2.1
theorem dX10_look_67 : decode cX10_look 67 = .ok (.goto (-42), 3) := da9_dX10_look_59.2.2.2.2.1
theorem dX10_look_70 : decode cX10_look 70 = .ok (.iload_n 3, 1) := da9_dX10_look_59.2.2.2.2.2.1
theorem dX10_look_71 : decode cX10_look 71 = .ok (.iconst (-1), 1) := da9_dX10_look_59.2.2.2.2.2.2.1
theorem dX10_look_72 : decode cX10_look 72 = .ok (.if_icmp .eq 7, 3) := da9_dX10_look_59.2.2.2.2.2.2.2.1
theorem dX10_look_75 : decode cX10_look 75 = .ok (.iload_n 1, 1) := da9_dX10_look_59.2.2.2.2.2.2.2.2.1
theorem dX10_look_76 : decode cX10_look 76 = .ok (.ifCond .ne 7, 3) := da9_dX10_look_59.2.2.2.2.2.2.2.2.2.1
theorem dX10_look_79 : decode cX10_look 79 = .ok (.iload_n 3, 1) := da9_dX10_look_59.2.2.2.2.2.2.2.2.2.2.1
theorem dX10_look_80 : decode cX10_look 80 = .ok (.goto 5, 3) := da9_dX10_look_59.2.2.2.2.2.2.2.2.2.2.2.1
theorem dX10_look_83 : decode cX10_look 83 = .ok (.iload 4, 2) := da9_dX10_look_59.2.2.2.2.2.2.2.2.2.2.2.2.1
theorem dX10_look_85 : decode cX10_look 85 = .ok (.ireturn, 1) := da9_dX10_look_59.2.2.2.2.2.2.2.2.2.2.2.2.2
set_option maxRecDepth 20000 in
theorem ggX10_few_X10_lies : GoodIn wsX10_few wsX10_lies := wd_c vW10_ok mvW10_6
set_option maxRecDepth 20000 in
theorem gX10_few_X10_lies : GoodIn wsX10_few (va_wsS RX10 18 yX10_lies wsX10_lies) := goodIn_app (wd_l vW10_ok _ pvW10_141) ggX10_few_X10_lies
theorem da9_dX10_few_0 : (decode cX10_few 0 = .ok (.iload_n 1, 1)) ∧ (decode cX10_few 1 = .ok (.iconst 1, 1)) ∧ (decode cX10_few 2 = .ok (.bipush 20, 2)) ∧ (decode cX10_few 4 = .ok (.invokestatic 18, 3)) ∧ (decode cX10_few 7 = .ok (.ifCond .eq 13, 3)) ∧ (decode cX10_few 10 = .ok (.iload_n 2, 1)) ∧ (decode cX10_few 11 = .ok (.iconst 0, 1)) ∧ (decode cX10_few 12 = .ok (.bipush 99, 2)) ∧ (decode cX10_few 14 = .ok (.invokestatic 18, 3)) ∧ (decode cX10_few 17 = .ok (.ifCond .ne 7, 3)) ∧ (decode cX10_few 20 = .ok (.ldc2_w 466, 3)) ∧ (decode cX10_few 23 = .ok (.lreturn, 1)) ∧ (decode cX10_few 24 = .ok (.iconst 0, 1)) ∧ (decode cX10_few 25 = .ok (.istore_n 3, 1)) ∧ (decode cX10_few 26 = .ok (.iload_n 3, 1)) ∧ (decode cX10_few 27 = .ok (.bipush 20, 2)) := by decide +kernel
theorem dX10_few_0 : decode cX10_few 0 = .ok (.iload_n 1, 1) := da9_dX10_few_0.1
theorem dX10_few_1 : decode cX10_few 1 = .ok (.iconst 1, 1) := da9_dX10_few_0.2.1
theorem dX10_few_2 : decode cX10_few 2 = .ok (.bipush 20, 2) := da9_dX10_few_0.2.2.1
theorem dX10_few_4 : decode cX10_few 4 = .ok (.invokestatic 18, 3) := da9_dX10_few_0.2.2.2.1
theorem dX10_few_7 : decode cX10_few 7 = .ok (.ifCond .eq 13, 3) := da9_dX10_few_0.2.2.2.2.1
theorem dX10_few_10 : decode cX10_few 10 = .ok (.iload_n 2, 1) := da9_dX10_few_0.2.2.2.2.2.1
theorem dX10_few_11 : decode cX10_few 11 = .ok (.iconst 0, 1) := da9_dX10_few_0.2.2.2.2.2.2.1
theorem dX10_few_12 : decode cX10_few 12 = .ok (.bipush 99, 2) := da9_dX10_few_0.2.2.2.2.2.2.2.1
theorem dX10_few_14 : decode cX10_few 14 = .ok (.invokestatic 18, 3) := da9_dX10_few_0.2.2.2.2.2.2.2.2.1
theorem dX10_few_17 : decode cX10_few 17 = .ok (.ifCond .ne 7, 3) := da9_dX10_few_0.2.2.2.2.2.2.2.2.2.1
theorem dX10_few_20 : decode cX10_few 20 = .ok (.ldc2_w 466, 3) := da9_dX10_few_0.2.2.2.2.2.2.2.2.2.2.1
theorem dX10_few_23 : decode cX10_few 23 = .ok (.lreturn, 1) := da9_dX10_few_0.2.2.2.2.2.2.2.2.2.2.2.1
theorem dX10_few_24 : decode cX10_few 24 = .ok (.iconst 0, 1) := da9_dX10_few_0.2.2.2.2.2.2.2.2.2.2.2.2.1
theorem dX10_few_25 : decode cX10_few 25 = .ok (.istore_n 3, 1) := da9_dX10_few_0.2.2.2.2.2.2.2.2.2.2.2.2.2.1
theorem dX10_few_26 : decode cX10_few 26 = .ok (.iload_n 3, 1) := da9_dX10_few_0.2.2.2.2.2.2.2.2.2.2.2.2.2.2.1
theorem dX10_few_27 : decode cX10_few 27 = .ok (.bipush 20, 2) := da9_dX10_few_0.2.2.2.2.2.2.2.2.2.2.2.2.2.2.2
theorem da9_dX10_few_29 : (decode cX10_few 29 = .ok (.if_icmp .gt 26, 3)) ∧ (decode cX10_few 32 = .ok (.aload_n 0, 1)) ∧ (decode cX10_few 33 = .ok (.getfield 106, 3)) ∧ (decode cX10_few 36 = .ok (.iload_n 3, 1)) ∧ (decode cX10_few 37 = .ok (.iload_n 3, 1)) ∧ (decode cX10_few 38 = .ok (.ifCond .ne 9, 3)) ∧ (decode cX10_few 41 = .ok (.ldc2_w 468, 3)) ∧ (decode cX10_few 44 = .ok (.goto 4, 3)) ∧ (decode cX10_few 47 = .ok (.lconst 0, 1)) ∧ (decode cX10_few 48 = .ok (.lastore, 1)) ∧ (decode cX10_few 49 = .ok (.iinc 3 1, 3)) ∧ (decode cX10_few 52 = .ok (.goto (-26), 3)) ∧ (decode cX10_few 55 = .ok (.iconst 0, 1)) ∧ (decode cX10_few 56 = .ok (.istore_n 3, 1)) ∧ (decode cX10_few 57 = .ok (.iload_n 3, 1)) ∧ (decode cX10_few 58 = .ok (.iload_n 2, 1)) := by decide +kernel
theorem dX10_few_29 : decode cX10_few 29 = .ok (.if_icmp .gt 26, 3) := da9_dX10_few_29.1
theorem dX10_few_32 : decode cX10_few 32 = .ok (.aload_n 0, 1) := da9_dX10_few_29.2.1
theorem dX10_few_33 : decode cX10_few 33 = .ok (.getfield 106, 3) := da9_dX10_few_29.2.2.1
theorem dX10_few_36 : decode cX10_few 36 = .ok (.iload_n 3, 1) := da9_dX10_few_29.2.2.2.1
theorem dX10_few_37 : decode cX10_few 37 = .ok (.iload_n 3, 1) := da9_dX10_few_29.2.2.2.2.1
theorem dX10_few_38 : decode cX10_few 38 = .ok (.ifCond .ne 9, 3) := da9_dX10_few_29.2.2.2.2.2.1
theorem dX10_few_41 : decode cX10_few 41 = .ok (.ldc2_w 468, 3) := da9_dX10_few_29.2.2.2.2.2.2.1
theorem dX10_few_44 : decode cX10_few 44 = .ok (.goto 4, 3) := da9_dX10_few_29.2.2.2.2.2.2.2.1
theorem dX10_few_47 : decode cX10_few 47 = .ok (.lconst 0, 1) := da9_dX10_few_29.2.2.2.2.2.2.2.2.1
theorem dX10_few_48 : decode cX10_few 48 = .ok (.lastore, 1) := da9_dX10_few_29.2.2.2.2.2.2.2.2.2.1
theorem dX10_few_49 : decode cX10_few 49 = .ok (.iinc 3 1, 3) := da9_dX10_few_29.2.2.2.2.2.2.2.2.2.2.1
theorem dX10_few_52 : decode cX10_few 52 = .ok (.goto (-26), 3) := da9_dX10_few_29.2.2.2.2.2.2.2.2.2.2.2.1
theorem dX10_few_55 : decode cX10_few 55 = .ok (.iconst 0, 1) := da9_dX10_few_29.2.2.2.2.2.2.2.2.2.2.2.2.1
theorem dX10_few_56 : decode cX10_few 56 = .ok (.istore_n 3, 1) := da9_dX10_few_29.2.2.2.2.2.2.2.2.2.2.2.2.2.1
theorem dX10_few_57 : decode cX10_few 57 = .ok (.iload_n 3, 1) := da9_dX10_few_29.2.2.2.2.2.2.2.2.2.2.2.2.2.2.1
theorem dX10_few_58 : decode cX10_few 58 = .ok (.iload_n 2, 1) := da9_dX10_few_29.2.2.2.2.2.2.2.2.2.2.2.2.2.2.2
theorem da9_dX10_few_59 : (decode cX10_few 59 = .ok (.if_icmp .ge 87, 3)) ∧ (decode cX10_few 62 = .ok (.iload_n 1, 1)) ∧ (decode cX10_few 63 = .ok (.iconst 1, 1)) ∧ (decode cX10_few 64 = .ok (.isub, 1)) ∧ (decode cX10_few 65 = .ok (.istore 4, 2)) ∧ (decode cX10_few 67 = .ok (.iload 4, 2)) ∧ (decode cX10_few 69 = .ok (.ifCond .lt 71, 3)) ∧ (decode cX10_few 72 = .ok (.aload_n 0, 1)) ∧ (decode cX10_few 73 = .ok (.getfield 106, 3)) ∧ (decode cX10_few 76 = .ok (.iload 4, 2)) ∧ (decode cX10_few 78 = .ok (.iconst 1, 1)) ∧ (decode cX10_few 79 = .ok (.iadd, 1)) ∧ (decode cX10_few 80 = .ok (.dup2, 1)) ∧ (decode cX10_few 81 = .ok (.laload, 1)) ∧ (decode cX10_few 82 = .ok (.aload_n 0, 1)) ∧ (decode cX10_few 83 = .ok (.getfield 106, 3)) := by decide +kernel
theorem dX10_few_59 : decode cX10_few 59 = .ok (.if_icmp .ge 87, 3) := da9_dX10_few_59.1
theorem dX10_few_62 : decode cX10_few 62 = .ok (.iload_n 1, 1) := da9_dX10_few_59.2.1
theorem dX10_few_63 : decode cX10_few 63 = .ok (.iconst 1, 1) := da9_dX10_few_59.2.2.1
theorem dX10_few_64 : decode cX10_few 64 = .ok (.isub, 1) := da9_dX10_few_59.2.2.2.1
theorem dX10_few_65 : decode cX10_few 65 = .ok (.istore 4, 2) := da9_dX10_few_59.2.2.2.2.1
theorem dX10_few_67 : decode cX10_few 67 = .ok (.iload 4, 2) := da9_dX10_few_59.2.2.2.2.2.1
theorem dX10_few_69 : decode cX10_few 69 = .ok (.ifCond .lt 71, 3) := da9_dX10_few_59.2.2.2.2.2.2.1
theorem dX10_few_72 : decode cX10_few 72 = .ok (.aload_n 0, 1) := da9_dX10_few_59.2.2.2.2.2.2.2.1
theorem dX10_few_73 : decode cX10_few 73 = .ok (.getfield 106, 3) := da9_dX10_few_59.2.2.2.2.2.2.2.2.1
theorem dX10_few_76 : decode cX10_few 76 = .ok (.iload 4, 2) := da9_dX10_few_59.2.2.2.2.2.2.2.2.2.1
theorem dX10_few_78 : decode cX10_few 78 = .ok (.iconst 1, 1) := da9_dX10_few_59.2.2.2.2.2.2.2.2.2.2.1
theorem dX10_few_79 : decode cX10_few 79 = .ok (.iadd, 1) := da9_dX10_few_59.2.2.2.2.2.2.2.2.2.2.2.1
theorem dX10_few_80 : decode cX10_few 80 = .ok (.dup2, 1) := da9_dX10_few_59.2.2.2.2.2.2.2.2.2.2.2.2.1
theorem dX10_few_81 : decode cX10_few 81 = .ok (.laload, 1) := da9_dX10_few_59.2.2.2.2.2.2.2.2.2.2.2.2.2.1
theorem dX10_few_82 : decode cX10_few 82 = .ok (.aload_n 0, 1) := da9_dX10_few_59.2.2.2.2.2.2.2.2.2.2.2.2.2.2.1
theorem dX10_few_83 : decode cX10_few 83 = .ok (.getfield 106, 3) := da9_dX10_few_59.2.2.2.2.2.2.2.2.2.2.2.2.2.2.2
theorem da9_dX10_few_86 : (decode cX10_few 86 = .ok (.iload 4, 2)) ∧ (decode cX10_few 88 = .ok (.laload, 1)) ∧ (decode cX10_few 89 = .ok (.aload_n 0, 1)) ∧ (decode cX10_few 90 = .ok (.getfield 28, 3)) ∧ (decode cX10_few 93 = .ok (.bipush 26, 2)) ∧ (decode cX10_few 95 = .ok (.iaload, 1)) ∧ (decode cX10_few 96 = .ok (.i2l, 1)) ∧ (decode cX10_few 97 = .ok (.lmul, 1)) ∧ (decode cX10_few 98 = .ok (.ldc2_w 470, 3)) ∧ (decode cX10_few 101 = .ok (.ldiv, 1)) ∧ (decode cX10_few 102 = .ok (.ladd, 1)) ∧ (decode cX10_few 103 = .ok (.lastore, 1)) ∧ (decode cX10_few 104 = .ok (.aload_n 0, 1)) ∧ (decode cX10_few 105 = .ok (.getfield 106, 3)) ∧ (decode cX10_few 108 = .ok (.iload 4, 2)) ∧ (decode cX10_few 110 = .ok (.aload_n 0, 1)) := by decide +kernel
theorem dX10_few_86 : decode cX10_few 86 = .ok (.iload 4, 2) := da9_dX10_few_86.1
theorem dX10_few_88 : decode cX10_few 88 = .ok (.laload, 1) := da9_dX10_few_86.2.1
theorem dX10_few_89 : decode cX10_few 89 = .ok (.aload_n 0, 1) := da9_dX10_few_86.2.2.1
theorem dX10_few_90 : decode cX10_few 90 = .ok (.getfield 28, 3) := da9_dX10_few_86.2.2.2.1
theorem dX10_few_93 : decode cX10_few 93 = .ok (.bipush 26, 2) := da9_dX10_few_86.2.2.2.2.1
theorem dX10_few_95 : decode cX10_few 95 = .ok (.iaload, 1) := da9_dX10_few_86.2.2.2.2.2.1
theorem dX10_few_96 : decode cX10_few 96 = .ok (.i2l, 1) := da9_dX10_few_86.2.2.2.2.2.2.1
theorem dX10_few_97 : decode cX10_few 97 = .ok (.lmul, 1) := da9_dX10_few_86.2.2.2.2.2.2.2.1
theorem dX10_few_98 : decode cX10_few 98 = .ok (.ldc2_w 470, 3) := da9_dX10_few_86.2.2.2.2.2.2.2.2.1
theorem dX10_few_101 : decode cX10_few 101 = .ok (.ldiv, 1) := da9_dX10_few_86.2.2.2.2.2.2.2.2.2.1
theorem dX10_few_102 : decode cX10_few 102 = .ok (.ladd, 1) := da9_dX10_few_86.2.2.2.2.2.2.2.2.2.2.1
theorem dX10_few_103 : decode cX10_few 103 = .ok (.lastore, 1) := da9_dX10_few_86.2.2.2.2.2.2.2.2.2.2.2.1
theorem dX10_few_104 : decode cX10_few 104 = .ok (.aload_n 0, 1) := da9_dX10_few_86.2.2.2.2.2.2.2.2.2.2.2.2.1
theorem dX10_few_105 : decode cX10_few 105 = .ok (.getfield 106, 3) := da9_dX10_few_86.2.2.2.2.2.2.2.2.2.2.2.2.2.1
theorem dX10_few_108 : decode cX10_few 108 = .ok (.iload 4, 2) := da9_dX10_few_86.2.2.2.2.2.2.2.2.2.2.2.2.2.2.1
theorem dX10_few_110 : decode cX10_few 110 = .ok (.aload_n 0, 1) := da9_dX10_few_86.2.2.2.2.2.2.2.2.2.2.2.2.2.2.2
theorem da9_dX10_few_111 : (decode cX10_few 111 = .ok (.getfield 106, 3)) ∧ (decode cX10_few 114 = .ok (.iload 4, 2)) ∧ (decode cX10_few 116 = .ok (.laload, 1)) ∧ (decode cX10_few 117 = .ok (.bipush 10, 2)) ∧ (decode cX10_few 119 = .ok (.aload_n 0, 1)) ∧ (decode cX10_few 120 = .ok (.getfield 28, 3)) ∧ (decode cX10_few 123 = .ok (.bipush 26, 2)) ∧ (decode cX10_few 125 = .ok (.iaload, 1)) ∧ (decode cX10_few 126 = .ok (.isub, 1)) ∧ (decode cX10_few 127 = .ok (.i2l, 1)) ∧ (decode cX10_few 128 = .ok (.lmul, 1)) ∧ (decode cX10_few 129 = .ok (.ldc2_w 470, 3)) ∧ (decode cX10_few 132 = .ok (.ldiv, 1)) ∧ (decode cX10_few 133 = .ok (.lastore, 1)) ∧ (decode cX10_few 134 = .ok (.iinc 4 (-1), 3)) ∧ (decode cX10_few 137 = .ok (.goto (-70), 3)) := by decide +kernel
theorem dX10_few_111 : decode cX10_few 111 = .ok (.getfield 106, 3) := da9_dX10_few_111.1
theorem dX10_few_114 : decode cX10_few 114 = .ok (.iload 4, 2) := da9_dX10_few_111.2.1
theorem dX10_few_116 : decode cX10_few 116 = .ok (.laload, 1) := da9_dX10_few_111.2.2.1
theorem dX10_few_117 : decode cX10_few 117 = .ok (.bipush 10, 2) := da9_dX10_few_111.2.2.2.1
theorem dX10_few_119 : decode cX10_few 119 = .ok (.aload_n 0, 1) := da9_dX10_few_111.2.2.2.2.1
theorem dX10_few_120 : decode cX10_few 120 = .ok (.getfield 28, 3) := da9_dX10_few_111.2.2.2.2.2.1
theorem dX10_few_123 : decode cX10_few 123 = .ok (.bipush 26, 2) := da9_dX10_few_111.2.2.2.2.2.2.1
theorem dX10_few_125 : decode cX10_few 125 = .ok (.iaload, 1) := da9_dX10_few_111.2.2.2.2.2.2.2.1
theorem dX10_few_126 : decode cX10_few 126 = .ok (.isub, 1) := da9_dX10_few_111.2.2.2.2.2.2.2.2.1
theorem dX10_few_127 : decode cX10_few 127 = .ok (.i2l, 1) := da9_dX10_few_111.2.2.2.2.2.2.2.2.2.1
theorem dX10_few_128 : decode cX10_few 128 = .ok (.lmul, 1) := da9_dX10_few_111.2.2.2.2.2.2.2.2.2.2.1
theorem dX10_few_129 : decode cX10_few 129 = .ok (.ldc2_w 470, 3) := da9_dX10_few_111.2.2.2.2.2.2.2.2.2.2.2.1
theorem dX10_few_132 : decode cX10_few 132 = .ok (.ldiv, 1) := da9_dX10_few_111.2.2.2.2.2.2.2.2.2.2.2.2.1
theorem dX10_few_133 : decode cX10_few 133 = .ok (.lastore, 1) := da9_dX10_few_111.2.2.2.2.2.2.2.2.2.2.2.2.2.1
theorem dX10_few_134 : decode cX10_few 134 = .ok (.iinc 4 (-1), 3) := da9_dX10_few_111.2.2.2.2.2.2.2.2.2.2.2.2.2.2.1
theorem dX10_few_137 : decode cX10_few 137 = .ok (.goto (-70), 3) := da9_dX10_few_111.2.2.2.2.2.2.2.2.2.2.2.2.2.2.2
theorem da9_dX10_few_140 : (decode cX10_few 140 = .ok (.iinc 3 1, 3)) ∧ (decode cX10_few 143 = .ok (.goto (-86), 3)) ∧ (decode cX10_few 146 = .ok (.lconst 0, 1)) ∧ (decode cX10_few 147 = .ok (.lstore_n 3, 1)) ∧ (decode cX10_few 148 = .ok (.iconst 0, 1)) ∧ (decode cX10_few 149 = .ok (.istore 5, 2)) ∧ (decode cX10_few 151 = .ok (.iload 5, 2)) ∧ (decode cX10_few 153 = .ok (.iload_n 1, 1)) ∧ (decode cX10_few 154 = .ok (.if_icmp .ge 19, 3)) ∧ (decode cX10_few 157 = .ok (.lload_n 3, 1)) ∧ (decode cX10_few 158 = .ok (.aload_n 0, 1)) ∧ (decode cX10_few 159 = .ok (.getfield 106, 3)) ∧ (decode cX10_few 162 = .ok (.iload 5, 2)) ∧ (decode cX10_few 164 = .ok (.laload, 1)) ∧ (decode cX10_few 165 = .ok (.ladd, 1)) ∧ (decode cX10_few 166 = .ok (.lstore_n 3, 1)) := by decide +kernel
theorem dX10_few_140 : decode cX10_few 140 = .ok (.iinc 3 1, 3) := da9_dX10_few_140.1
theorem dX10_few_143 : decode cX10_few 143 = .ok (.goto (-86), 3) := da9_dX10_few_140.2.1
theorem dX10_few_146 : decode cX10_few 146 = .ok (.lconst 0, 1) := da9_dX10_few_140.2.2.1
theorem dX10_few_147 : decode cX10_few 147 = .ok (.lstore_n 3, 1) := da9_dX10_few_140.2.2.2.1
theorem dX10_few_148 : decode cX10_few 148 = .ok (.iconst 0, 1) := da9_dX10_few_140.2.2.2.2.1
theorem dX10_few_149 : decode cX10_few 149 = .ok (.istore 5, 2) := da9_dX10_few_140.2.2.2.2.2.1
theorem dX10_few_151 : decode cX10_few 151 = .ok (.iload 5, 2) := da9_dX10_few_140.2.2.2.2.2.2.1
theorem dX10_few_153 : decode cX10_few 153 = .ok (.iload_n 1, 1) := da9_dX10_few_140.2.2.2.2.2.2.2.1
theorem dX10_few_154 : decode cX10_few 154 = .ok (.if_icmp .ge 19, 3) := da9_dX10_few_140.2.2.2.2.2.2.2.2.1
theorem dX10_few_157 : decode cX10_few 157 = .ok (.lload_n 3, 1) := da9_dX10_few_140.2.2.2.2.2.2.2.2.2.1
theorem dX10_few_158 : decode cX10_few 158 = .ok (.aload_n 0, 1) := da9_dX10_few_140.2.2.2.2.2.2.2.2.2.2.1
theorem dX10_few_159 : decode cX10_few 159 = .ok (.getfield 106, 3) := da9_dX10_few_140.2.2.2.2.2.2.2.2.2.2.2.1
theorem dX10_few_162 : decode cX10_few 162 = .ok (.iload 5, 2) := da9_dX10_few_140.2.2.2.2.2.2.2.2.2.2.2.2.1
theorem dX10_few_164 : decode cX10_few 164 = .ok (.laload, 1) := da9_dX10_few_140.2.2.2.2.2.2.2.2.2.2.2.2.2.1
theorem dX10_few_165 : decode cX10_few 165 = .ok (.ladd, 1) := da9_dX10_few_140.2.2.2.2.2.2.2.2.2.2.2.2.2.2.1
theorem dX10_few_166 : decode cX10_few 166 = .ok (.lstore_n 3, 1) := da9_dX10_few_140.2.2.2.2.2.2.2.2.2.2.2.2.2.2.2
theorem da9_dX10_few_167 : (decode cX10_few 167 = .ok (.iinc 5 1, 3)) ∧ (decode cX10_few 170 = .ok (.goto (-19), 3)) ∧ (decode cX10_few 173 = .ok (.lload_n 3, 1)) ∧ (decode cX10_few 174 = .ok (.lreturn, 1)) := by decide +kernel
theorem dX10_few_167 : decode cX10_few 167 = .ok (.iinc 5 1, 3) := da9_dX10_few_167.1
theorem dX10_few_170 : decode cX10_few 170 = .ok (.goto (-19), 3) := da9_dX10_few_167.2.1
theorem dX10_few_173 : decode cX10_few 173 = .ok (.lload_n 3, 1) := da9_dX10_few_167.2.2.1
theorem dX10_few_174 : decode cX10_few 174 = .ok (.lreturn, 1) := da9_dX10_few_167.2.2.2
theorem da9_dX10_stopped_0 : (decode cX10_stopped 0 = .ok (.aload_n 0, 1)) ∧ (decode cX10_stopped 1 = .ok (.getfield 110, 3)) ∧ (decode cX10_stopped 4 = .ok (.ireturn, 1)) := by decide +kernel
theorem dX10_stopped_0 : decode cX10_stopped 0 = .ok (.aload_n 0, 1) := da9_dX10_stopped_0.1
theorem dX10_stopped_1 : decode cX10_stopped 1 = .ok (.getfield 110, 3) := da9_dX10_stopped_0.2.1
theorem dX10_stopped_4 : decode cX10_stopped 4 = .ok (.ireturn, 1) := da9_dX10_stopped_0.2.2
set_option maxRecDepth 20000 in
theorem ggX10_goesAlong_X10_codeAt : GoodIn wsX10_goesAlong wsX10_codeAt := wd_c vW10_ok mvW10_71
set_option maxRecDepth 20000 in
theorem gX10_goesAlong_X10_codeAt : GoodIn wsX10_goesAlong (wsV RX10 281 RX10 yX10_codeAt wsX10_codeAt) := goodIn_app (wd_l vW10_ok _ pvW10_181) ggX10_goesAlong_X10_codeAt
set_option maxRecDepth 20000 in
theorem ggX10_goesAlong_X10_sumOf : GoodIn wsX10_goesAlong wsX10_sumOf := wd_c vW10_ok mvW10_75
set_option maxRecDepth 20000 in
theorem gX10_goesAlong_X10_sumOf : GoodIn wsX10_goesAlong (wsV RX10 305 RX10 yX10_sumOf wsX10_sumOf) := goodIn_app (wd_l vW10_ok _ pvW10_186) ggX10_goesAlong_X10_sumOf
set_option maxRecDepth 20000 in
theorem ggX10_goesAlong_X10_passes0 : GoodIn wsX10_goesAlong wsX10_passes0 := wd_c vW10_ok mvW10_92
set_option maxRecDepth 20000 in
theorem gX10_goesAlong_X10_passes0 : GoodIn wsX10_goesAlong (wsV RX10 302 RX10 yX10_passes0 wsX10_passes0) := goodIn_app (wd_l vW10_ok _ pvW10_185) ggX10_goesAlong_X10_passes0
set_option maxRecDepth 20000 in
theorem ggX10_goesAlong_X10_testOf : GoodIn wsX10_goesAlong wsX10_testOf := wd_c vW10_ok mvW10_114
set_option maxRecDepth 20000 in
theorem gX10_goesAlong_X10_testOf : GoodIn wsX10_goesAlong (wsV RX10 332 RX10 yX10_testOf wsX10_testOf) := goodIn_app (wd_l vW10_ok _ pvW10_192) ggX10_goesAlong_X10_testOf
theorem da9_dX10_goesAlong_0 : (decode cX10_goesAlong 0 = .ok (.aload_n 0, 1)) ∧ (decode cX10_goesAlong 1 = .ok (.iconst 1, 1)) ∧ (decode cX10_goesAlong 2 = .ok (.putfield 308, 3)) ∧ (decode cX10_goesAlong 5 = .ok (.aload_n 0, 1)) ∧ (decode cX10_goesAlong 6 = .ok (.iload_n 1, 1)) ∧ (decode cX10_goesAlong 7 = .ok (.putfield 275, 3)) ∧ (decode cX10_goesAlong 10 = .ok (.aload_n 0, 1)) ∧ (decode cX10_goesAlong 11 = .ok (.aload_n 0, 1)) ∧ (decode cX10_goesAlong 12 = .ok (.getfield 475, 3)) ∧ (decode cX10_goesAlong 15 = .ok (.putfield 278, 3)) ∧ (decode cX10_goesAlong 18 = .ok (.aload_n 0, 1)) ∧ (decode cX10_goesAlong 19 = .ok (.aload_n 0, 1)) ∧ (decode cX10_goesAlong 20 = .ok (.aload_n 0, 1)) ∧ (decode cX10_goesAlong 21 = .ok (.getfield 278, 3)) ∧ (decode cX10_goesAlong 24 = .ok (.invokevirtual 281, 3)) ∧ (decode cX10_goesAlong 27 = .ok (.putfield 484, 3)) := by decide +kernel
theorem dX10_goesAlong_0 : decode cX10_goesAlong 0 = .ok (.aload_n 0, 1) := da9_dX10_goesAlong_0.1
theorem dX10_goesAlong_1 : decode cX10_goesAlong 1 = .ok (.iconst 1, 1) := da9_dX10_goesAlong_0.2.1
theorem dX10_goesAlong_2 : decode cX10_goesAlong 2 = .ok (.putfield 308, 3) := da9_dX10_goesAlong_0.2.2.1
theorem dX10_goesAlong_5 : decode cX10_goesAlong 5 = .ok (.aload_n 0, 1) := da9_dX10_goesAlong_0.2.2.2.1
theorem dX10_goesAlong_6 : decode cX10_goesAlong 6 = .ok (.iload_n 1, 1) := da9_dX10_goesAlong_0.2.2.2.2.1
theorem dX10_goesAlong_7 : decode cX10_goesAlong 7 = .ok (.putfield 275, 3) := da9_dX10_goesAlong_0.2.2.2.2.2.1
theorem dX10_goesAlong_10 : decode cX10_goesAlong 10 = .ok (.aload_n 0, 1) := da9_dX10_goesAlong_0.2.2.2.2.2.2.1
theorem dX10_goesAlong_11 : decode cX10_goesAlong 11 = .ok (.aload_n 0, 1) := da9_dX10_goesAlong_0.2.2.2.2.2.2.2.1
theorem dX10_goesAlong_12 : decode cX10_goesAlong 12 = .ok (.getfield 475, 3) := da9_dX10_goesAlong_0.2.2.2.2.2.2.2.2.1
theorem dX10_goesAlong_15 : decode cX10_goesAlong 15 = .ok (.putfield 278, 3) := da9_dX10_goesAlong_0.2.2.2.2.2.2.2.2.2.1
theorem dX10_goesAlong_18 : decode cX10_goesAlong 18 = .ok (.aload_n 0, 1) := da9_dX10_goesAlong_0.2.2.2.2.2.2.2.2.2.2.1
theorem dX10_goesAlong_19 : decode cX10_goesAlong 19 = .ok (.aload_n 0, 1) := da9_dX10_goesAlong_0.2.2.2.2.2.2.2.2.2.2.2.1
theorem dX10_goesAlong_20 : decode cX10_goesAlong 20 = .ok (.aload_n 0, 1) := da9_dX10_goesAlong_0.2.2.2.2.2.2.2.2.2.2.2.2.1
theorem dX10_goesAlong_21 : decode cX10_goesAlong 21 = .ok (.getfield 278, 3) := da9_dX10_goesAlong_0.2.2.2.2.2.2.2.2.2.2.2.2.2.1
theorem dX10_goesAlong_24 : decode cX10_goesAlong 24 = .ok (.invokevirtual 281, 3) := da9_dX10_goesAlong_0.2.2.2.2.2.2.2.2.2.2.2.2.2.2.1
theorem dX10_goesAlong_27 : decode cX10_goesAlong 27 = .ok (.putfield 484, 3) := da9_dX10_goesAlong_0.2.2.2.2.2.2.2.2.2.2.2.2.2.2.2
theorem da9_dX10_goesAlong_30 : (decode cX10_goesAlong 30 = .ok (.aload_n 0, 1)) ∧ (decode cX10_goesAlong 31 = .ok (.dup, 1)) ∧ (decode cX10_goesAlong 32 = .ok (.getfield 278, 3)) ∧ (decode cX10_goesAlong 35 = .ok (.iconst 1, 1)) ∧ (decode cX10_goesAlong 36 = .ok (.iadd, 1)) ∧ (decode cX10_goesAlong 37 = .ok (.putfield 278, 3)) ∧ (decode cX10_goesAlong 40 = .ok (.aload_n 0, 1)) ∧ (decode cX10_goesAlong 41 = .ok (.iconst 0, 1)) ∧ (decode cX10_goesAlong 42 = .ok (.putfield 288, 3)) ∧ (decode cX10_goesAlong 45 = .ok (.aload_n 0, 1)) ∧ (decode cX10_goesAlong 46 = .ok (.aload_n 0, 1)) ∧ (decode cX10_goesAlong 47 = .ok (.getfield 484, 3)) ∧ (decode cX10_goesAlong 50 = .ok (.bipush 25, 2)) ∧ (decode cX10_goesAlong 52 = .ok (.if_icmp .ne 7, 3)) ∧ (decode cX10_goesAlong 55 = .ok (.lconst 0, 1)) ∧ (decode cX10_goesAlong 56 = .ok (.goto 8, 3)) := by decide +kernel
theorem dX10_goesAlong_30 : decode cX10_goesAlong 30 = .ok (.aload_n 0, 1) := da9_dX10_goesAlong_30.1
theorem dX10_goesAlong_31 : decode cX10_goesAlong 31 = .ok (.dup, 1) := da9_dX10_goesAlong_30.2.1
theorem dX10_goesAlong_32 : decode cX10_goesAlong 32 = .ok (.getfield 278, 3) := da9_dX10_goesAlong_30.2.2.1
theorem dX10_goesAlong_35 : decode cX10_goesAlong 35 = .ok (.iconst 1, 1) := da9_dX10_goesAlong_30.2.2.2.1
theorem dX10_goesAlong_36 : decode cX10_goesAlong 36 = .ok (.iadd, 1) := da9_dX10_goesAlong_30.2.2.2.2.1
theorem dX10_goesAlong_37 : decode cX10_goesAlong 37 = .ok (.putfield 278, 3) := da9_dX10_goesAlong_30.2.2.2.2.2.1
theorem dX10_goesAlong_40 : decode cX10_goesAlong 40 = .ok (.aload_n 0, 1) := da9_dX10_goesAlong_30.2.2.2.2.2.2.1
theorem dX10_goesAlong_41 : decode cX10_goesAlong 41 = .ok (.iconst 0, 1) := da9_dX10_goesAlong_30.2.2.2.2.2.2.2.1
theorem dX10_goesAlong_42 : decode cX10_goesAlong 42 = .ok (.putfield 288, 3) := da9_dX10_goesAlong_30.2.2.2.2.2.2.2.2.1
theorem dX10_goesAlong_45 : decode cX10_goesAlong 45 = .ok (.aload_n 0, 1) := da9_dX10_goesAlong_30.2.2.2.2.2.2.2.2.2.1
theorem dX10_goesAlong_46 : decode cX10_goesAlong 46 = .ok (.aload_n 0, 1) := da9_dX10_goesAlong_30.2.2.2.2.2.2.2.2.2.2.1
theorem dX10_goesAlong_47 : decode cX10_goesAlong 47 = .ok (.getfield 484, 3) := da9_dX10_goesAlong_30.2.2.2.2.2.2.2.2.2.2.2.1
theorem dX10_goesAlong_50 : decode cX10_goesAlong 50 = .ok (.bipush 25, 2) := da9_dX10_goesAlong_30.2.2.2.2.2.2.2.2.2.2.2.2.1
theorem dX10_goesAlong_52 : decode cX10_goesAlong 52 = .ok (.if_icmp .ne 7, 3) := da9_dX10_goesAlong_30.2.2.2.2.2.2.2.2.2.2.2.2.2.1
theorem dX10_goesAlong_55 : decode cX10_goesAlong 55 = .ok (.lconst 0, 1) := da9_dX10_goesAlong_30.2.2.2.2.2.2.2.2.2.2.2.2.2.2.1
theorem dX10_goesAlong_56 : decode cX10_goesAlong 56 = .ok (.goto 8, 3) := da9_dX10_goesAlong_30.2.2.2.2.2.2.2.2.2.2.2.2.2.2.2
theorem da9_dX10_goesAlong_59 : (decode cX10_goesAlong 59 = .ok (.aload_n 0, 1)) ∧ (decode cX10_goesAlong 60 = .ok (.iload_n 2, 1)) ∧ (decode cX10_goesAlong 61 = .ok (.invokevirtual 305, 3)) ∧ (decode cX10_goesAlong 64 = .ok (.putfield 487, 3)) ∧ (decode cX10_goesAlong 67 = .ok (.aload_n 0, 1)) ∧ (decode cX10_goesAlong 68 = .ok (.aload_n 0, 1)) ∧ (decode cX10_goesAlong 69 = .ok (.getfield 288, 3)) ∧ (decode cX10_goesAlong 72 = .ok (.ifCond .ne 7, 3)) ∧ (decode cX10_goesAlong 75 = .ok (.iconst 1, 1)) ∧ (decode cX10_goesAlong 76 = .ok (.goto 4, 3)) ∧ (decode cX10_goesAlong 79 = .ok (.iconst 0, 1)) ∧ (decode cX10_goesAlong 80 = .ok (.putfield 491, 3)) ∧ (decode cX10_goesAlong 83 = .ok (.aload_n 0, 1)) ∧ (decode cX10_goesAlong 84 = .ok (.iconst 1, 1)) ∧ (decode cX10_goesAlong 85 = .ok (.putfield 494, 3)) ∧ (decode cX10_goesAlong 88 = .ok (.aload_n 0, 1)) := by decide +kernel
theorem dX10_goesAlong_59 : decode cX10_goesAlong 59 = .ok (.aload_n 0, 1) := da9_dX10_goesAlong_59.1
theorem dX10_goesAlong_60 : decode cX10_goesAlong 60 = .ok (.iload_n 2, 1) := da9_dX10_goesAlong_59.2.1
theorem dX10_goesAlong_61 : decode cX10_goesAlong 61 = .ok (.invokevirtual 305, 3) := da9_dX10_goesAlong_59.2.2.1
theorem dX10_goesAlong_64 : decode cX10_goesAlong 64 = .ok (.putfield 487, 3) := da9_dX10_goesAlong_59.2.2.2.1
theorem dX10_goesAlong_67 : decode cX10_goesAlong 67 = .ok (.aload_n 0, 1) := da9_dX10_goesAlong_59.2.2.2.2.1
theorem dX10_goesAlong_68 : decode cX10_goesAlong 68 = .ok (.aload_n 0, 1) := da9_dX10_goesAlong_59.2.2.2.2.2.1
theorem dX10_goesAlong_69 : decode cX10_goesAlong 69 = .ok (.getfield 288, 3) := da9_dX10_goesAlong_59.2.2.2.2.2.2.1
theorem dX10_goesAlong_72 : decode cX10_goesAlong 72 = .ok (.ifCond .ne 7, 3) := da9_dX10_goesAlong_59.2.2.2.2.2.2.2.1
theorem dX10_goesAlong_75 : decode cX10_goesAlong 75 = .ok (.iconst 1, 1) := da9_dX10_goesAlong_59.2.2.2.2.2.2.2.2.1
theorem dX10_goesAlong_76 : decode cX10_goesAlong 76 = .ok (.goto 4, 3) := da9_dX10_goesAlong_59.2.2.2.2.2.2.2.2.2.1
theorem dX10_goesAlong_79 : decode cX10_goesAlong 79 = .ok (.iconst 0, 1) := da9_dX10_goesAlong_59.2.2.2.2.2.2.2.2.2.2.1
theorem dX10_goesAlong_80 : decode cX10_goesAlong 80 = .ok (.putfield 491, 3) := da9_dX10_goesAlong_59.2.2.2.2.2.2.2.2.2.2.2.1
theorem dX10_goesAlong_83 : decode cX10_goesAlong 83 = .ok (.aload_n 0, 1) := da9_dX10_goesAlong_59.2.2.2.2.2.2.2.2.2.2.2.2.1
theorem dX10_goesAlong_84 : decode cX10_goesAlong 84 = .ok (.iconst 1, 1) := da9_dX10_goesAlong_59.2.2.2.2.2.2.2.2.2.2.2.2.2.1
theorem dX10_goesAlong_85 : decode cX10_goesAlong 85 = .ok (.putfield 494, 3) := da9_dX10_goesAlong_59.2.2.2.2.2.2.2.2.2.2.2.2.2.2.1
theorem dX10_goesAlong_88 : decode cX10_goesAlong 88 = .ok (.aload_n 0, 1) := da9_dX10_goesAlong_59.2.2.2.2.2.2.2.2.2.2.2.2.2.2.2
theorem da9_dX10_goesAlong_89 : (decode cX10_goesAlong 89 = .ok (.bipush 26, 2)) ∧ (decode cX10_goesAlong 91 = .ok (.invokevirtual 302, 3)) ∧ (decode cX10_goesAlong 94 = .ok (.ifCond .eq 30, 3)) ∧ (decode cX10_goesAlong 97 = .ok (.aload_n 0, 1)) ∧ (decode cX10_goesAlong 98 = .ok (.aload_n 0, 1)) ∧ (decode cX10_goesAlong 99 = .ok (.getfield 28, 3)) ∧ (decode cX10_goesAlong 102 = .ok (.sipush 2840, 3)) ∧ (decode cX10_goesAlong 105 = .ok (.aload_n 0, 1)) ∧ (decode cX10_goesAlong 106 = .ok (.getfield 278, 3)) ∧ (decode cX10_goesAlong 109 = .ok (.iadd, 1)) ∧ (decode cX10_goesAlong 110 = .ok (.iaload, 1)) ∧ (decode cX10_goesAlong 111 = .ok (.putfield 494, 3)) ∧ (decode cX10_goesAlong 114 = .ok (.aload_n 0, 1)) ∧ (decode cX10_goesAlong 115 = .ok (.dup, 1)) ∧ (decode cX10_goesAlong 116 = .ok (.getfield 278, 3)) ∧ (decode cX10_goesAlong 119 = .ok (.iconst 1, 1)) := by decide +kernel
theorem dX10_goesAlong_89 : decode cX10_goesAlong 89 = .ok (.bipush 26, 2) := da9_dX10_goesAlong_89.1
theorem dX10_goesAlong_91 : decode cX10_goesAlong 91 = .ok (.invokevirtual 302, 3) := da9_dX10_goesAlong_89.2.1
theorem dX10_goesAlong_94 : decode cX10_goesAlong 94 = .ok (.ifCond .eq 30, 3) := da9_dX10_goesAlong_89.2.2.1
theorem dX10_goesAlong_97 : decode cX10_goesAlong 97 = .ok (.aload_n 0, 1) := da9_dX10_goesAlong_89.2.2.2.1
theorem dX10_goesAlong_98 : decode cX10_goesAlong 98 = .ok (.aload_n 0, 1) := da9_dX10_goesAlong_89.2.2.2.2.1
theorem dX10_goesAlong_99 : decode cX10_goesAlong 99 = .ok (.getfield 28, 3) := da9_dX10_goesAlong_89.2.2.2.2.2.1
theorem dX10_goesAlong_102 : decode cX10_goesAlong 102 = .ok (.sipush 2840, 3) := da9_dX10_goesAlong_89.2.2.2.2.2.2.1
theorem dX10_goesAlong_105 : decode cX10_goesAlong 105 = .ok (.aload_n 0, 1) := da9_dX10_goesAlong_89.2.2.2.2.2.2.2.1
theorem dX10_goesAlong_106 : decode cX10_goesAlong 106 = .ok (.getfield 278, 3) := da9_dX10_goesAlong_89.2.2.2.2.2.2.2.2.1
theorem dX10_goesAlong_109 : decode cX10_goesAlong 109 = .ok (.iadd, 1) := da9_dX10_goesAlong_89.2.2.2.2.2.2.2.2.2.1
theorem dX10_goesAlong_110 : decode cX10_goesAlong 110 = .ok (.iaload, 1) := da9_dX10_goesAlong_89.2.2.2.2.2.2.2.2.2.2.1
theorem dX10_goesAlong_111 : decode cX10_goesAlong 111 = .ok (.putfield 494, 3) := da9_dX10_goesAlong_89.2.2.2.2.2.2.2.2.2.2.2.1
theorem dX10_goesAlong_114 : decode cX10_goesAlong 114 = .ok (.aload_n 0, 1) := da9_dX10_goesAlong_89.2.2.2.2.2.2.2.2.2.2.2.2.1
theorem dX10_goesAlong_115 : decode cX10_goesAlong 115 = .ok (.dup, 1) := da9_dX10_goesAlong_89.2.2.2.2.2.2.2.2.2.2.2.2.2.1
theorem dX10_goesAlong_116 : decode cX10_goesAlong 116 = .ok (.getfield 278, 3) := da9_dX10_goesAlong_89.2.2.2.2.2.2.2.2.2.2.2.2.2.2.1
theorem dX10_goesAlong_119 : decode cX10_goesAlong 119 = .ok (.iconst 1, 1) := da9_dX10_goesAlong_89.2.2.2.2.2.2.2.2.2.2.2.2.2.2.2
theorem da9_dX10_goesAlong_120 : (decode cX10_goesAlong 120 = .ok (.iadd, 1)) ∧ (decode cX10_goesAlong 121 = .ok (.putfield 278, 3)) ∧ (decode cX10_goesAlong 124 = .ok (.aload_n 0, 1)) ∧ (decode cX10_goesAlong 125 = .ok (.iconst 0, 1)) ∧ (decode cX10_goesAlong 126 = .ok (.putfield 288, 3)) ∧ (decode cX10_goesAlong 129 = .ok (.aload_n 0, 1)) ∧ (decode cX10_goesAlong 130 = .ok (.aload_n 0, 1)) ∧ (decode cX10_goesAlong 131 = .ok (.iconst 4, 1)) ∧ (decode cX10_goesAlong 132 = .ok (.invokevirtual 302, 3)) ∧ (decode cX10_goesAlong 135 = .ok (.ifCond .eq 11, 3)) ∧ (decode cX10_goesAlong 138 = .ok (.aload_n 0, 1)) ∧ (decode cX10_goesAlong 139 = .ok (.iload_n 2, 1)) ∧ (decode cX10_goesAlong 140 = .ok (.invokevirtual 332, 3)) ∧ (decode cX10_goesAlong 143 = .ok (.ifCond .eq 7, 3)) ∧ (decode cX10_goesAlong 146 = .ok (.iconst 1, 1)) ∧ (decode cX10_goesAlong 147 = .ok (.goto 4, 3)) := by decide +kernel
theorem dX10_goesAlong_120 : decode cX10_goesAlong 120 = .ok (.iadd, 1) := da9_dX10_goesAlong_120.1
theorem dX10_goesAlong_121 : decode cX10_goesAlong 121 = .ok (.putfield 278, 3) := da9_dX10_goesAlong_120.2.1
theorem dX10_goesAlong_124 : decode cX10_goesAlong 124 = .ok (.aload_n 0, 1) := da9_dX10_goesAlong_120.2.2.1
theorem dX10_goesAlong_125 : decode cX10_goesAlong 125 = .ok (.iconst 0, 1) := da9_dX10_goesAlong_120.2.2.2.1
theorem dX10_goesAlong_126 : decode cX10_goesAlong 126 = .ok (.putfield 288, 3) := da9_dX10_goesAlong_120.2.2.2.2.1
theorem dX10_goesAlong_129 : decode cX10_goesAlong 129 = .ok (.aload_n 0, 1) := da9_dX10_goesAlong_120.2.2.2.2.2.1
theorem dX10_goesAlong_130 : decode cX10_goesAlong 130 = .ok (.aload_n 0, 1) := da9_dX10_goesAlong_120.2.2.2.2.2.2.1
theorem dX10_goesAlong_131 : decode cX10_goesAlong 131 = .ok (.iconst 4, 1) := da9_dX10_goesAlong_120.2.2.2.2.2.2.2.1
theorem dX10_goesAlong_132 : decode cX10_goesAlong 132 = .ok (.invokevirtual 302, 3) := da9_dX10_goesAlong_120.2.2.2.2.2.2.2.2.1
theorem dX10_goesAlong_135 : decode cX10_goesAlong 135 = .ok (.ifCond .eq 11, 3) := da9_dX10_goesAlong_120.2.2.2.2.2.2.2.2.2.1
theorem dX10_goesAlong_138 : decode cX10_goesAlong 138 = .ok (.aload_n 0, 1) := da9_dX10_goesAlong_120.2.2.2.2.2.2.2.2.2.2.1
theorem dX10_goesAlong_139 : decode cX10_goesAlong 139 = .ok (.iload_n 2, 1) := da9_dX10_goesAlong_120.2.2.2.2.2.2.2.2.2.2.2.1
theorem dX10_goesAlong_140 : decode cX10_goesAlong 140 = .ok (.invokevirtual 332, 3) := da9_dX10_goesAlong_120.2.2.2.2.2.2.2.2.2.2.2.2.1
theorem dX10_goesAlong_143 : decode cX10_goesAlong 143 = .ok (.ifCond .eq 7, 3) := da9_dX10_goesAlong_120.2.2.2.2.2.2.2.2.2.2.2.2.2.1
theorem dX10_goesAlong_146 : decode cX10_goesAlong 146 = .ok (.iconst 1, 1) := da9_dX10_goesAlong_120.2.2.2.2.2.2.2.2.2.2.2.2.2.2.1
theorem dX10_goesAlong_147 : decode cX10_goesAlong 147 = .ok (.goto 4, 3) := da9_dX10_goesAlong_120.2.2.2.2.2.2.2.2.2.2.2.2.2.2.2
theorem da9_dX10_goesAlong_150 : (decode cX10_goesAlong 150 = .ok (.iconst 0, 1)) ∧ (decode cX10_goesAlong 151 = .ok (.putfield 497, 3)) ∧ (decode cX10_goesAlong 154 = .ok (.aload_n 0, 1)) ∧ (decode cX10_goesAlong 155 = .ok (.aload_n 0, 1)) ∧ (decode cX10_goesAlong 156 = .ok (.getfield 497, 3)) ∧ (decode cX10_goesAlong 159 = .ok (.ifCond .eq 14, 3)) ∧ (decode cX10_goesAlong 162 = .ok (.aload_n 0, 1)) ∧ (decode cX10_goesAlong 163 = .ok (.getfield 288, 3)) ∧ (decode cX10_goesAlong 166 = .ok (.ifCond .ne 7, 3)) ∧ (decode cX10_goesAlong 169 = .ok (.iconst 1, 1)) ∧ (decode cX10_goesAlong 170 = .ok (.goto 4, 3)) ∧ (decode cX10_goesAlong 173 = .ok (.iconst 0, 1)) ∧ (decode cX10_goesAlong 174 = .ok (.putfield 497, 3)) ∧ (decode cX10_goesAlong 177 = .ok (.aload_n 0, 1)) ∧ (decode cX10_goesAlong 178 = .ok (.dup, 1)) ∧ (decode cX10_goesAlong 179 = .ok (.getfield 278, 3)) := by decide +kernel
theorem dX10_goesAlong_150 : decode cX10_goesAlong 150 = .ok (.iconst 0, 1) := da9_dX10_goesAlong_150.1
theorem dX10_goesAlong_151 : decode cX10_goesAlong 151 = .ok (.putfield 497, 3) := da9_dX10_goesAlong_150.2.1
theorem dX10_goesAlong_154 : decode cX10_goesAlong 154 = .ok (.aload_n 0, 1) := da9_dX10_goesAlong_150.2.2.1
theorem dX10_goesAlong_155 : decode cX10_goesAlong 155 = .ok (.aload_n 0, 1) := da9_dX10_goesAlong_150.2.2.2.1
theorem dX10_goesAlong_156 : decode cX10_goesAlong 156 = .ok (.getfield 497, 3) := da9_dX10_goesAlong_150.2.2.2.2.1
theorem dX10_goesAlong_159 : decode cX10_goesAlong 159 = .ok (.ifCond .eq 14, 3) := da9_dX10_goesAlong_150.2.2.2.2.2.1
theorem dX10_goesAlong_162 : decode cX10_goesAlong 162 = .ok (.aload_n 0, 1) := da9_dX10_goesAlong_150.2.2.2.2.2.2.1
theorem dX10_goesAlong_163 : decode cX10_goesAlong 163 = .ok (.getfield 288, 3) := da9_dX10_goesAlong_150.2.2.2.2.2.2.2.1
theorem dX10_goesAlong_166 : decode cX10_goesAlong 166 = .ok (.ifCond .ne 7, 3) := da9_dX10_goesAlong_150.2.2.2.2.2.2.2.2.1
theorem dX10_goesAlong_169 : decode cX10_goesAlong 169 = .ok (.iconst 1, 1) := da9_dX10_goesAlong_150.2.2.2.2.2.2.2.2.2.1
theorem dX10_goesAlong_170 : decode cX10_goesAlong 170 = .ok (.goto 4, 3) := da9_dX10_goesAlong_150.2.2.2.2.2.2.2.2.2.2.1
theorem dX10_goesAlong_173 : decode cX10_goesAlong 173 = .ok (.iconst 0, 1) := da9_dX10_goesAlong_150.2.2.2.2.2.2.2.2.2.2.2.1
theorem dX10_goesAlong_174 : decode cX10_goesAlong 174 = .ok (.putfield 497, 3) := da9_dX10_goesAlong_150.2.2.2.2.2.2.2.2.2.2.2.2.1
theorem dX10_goesAlong_177 : decode cX10_goesAlong 177 = .ok (.aload_n 0, 1) := da9_dX10_goesAlong_150.2.2.2.2.2.2.2.2.2.2.2.2.2.1
theorem dX10_goesAlong_178 : decode cX10_goesAlong 178 = .ok (.dup, 1) := da9_dX10_goesAlong_150.2.2.2.2.2.2.2.2.2.2.2.2.2.2.1
theorem dX10_goesAlong_179 : decode cX10_goesAlong 179 = .ok (.getfield 278, 3) := da9_dX10_goesAlong_150.2.2.2.2.2.2.2.2.2.2.2.2.2.2.2
theorem da9_dX10_goesAlong_182 : (decode cX10_goesAlong 182 = .ok (.iconst 1, 1)) ∧ (decode cX10_goesAlong 183 = .ok (.iadd, 1)) ∧ (decode cX10_goesAlong 184 = .ok (.putfield 278, 3)) ∧ (decode cX10_goesAlong 187 = .ok (.return_, 1)) := by decide +kernel
theorem dX10_goesAlong_182 : decode cX10_goesAlong 182 = .ok (.iconst 1, 1) := da9_dX10_goesAlong_182.1
theorem dX10_goesAlong_183 : decode cX10_goesAlong 183 = .ok (.iadd, 1) := da9_dX10_goesAlong_182.2.1
theorem dX10_goesAlong_184 : decode cX10_goesAlong 184 = .ok (.putfield 278, 3) := da9_dX10_goesAlong_182.2.2.1
theorem dX10_goesAlong_187 : decode cX10_goesAlong 187 = .ok (.return_, 1) := da9_dX10_goesAlong_182.2.2.2
theorem da9_dX10_small_0 : (decode cX10_small 0 = .ok (.lload_n 0, 1)) ∧ (decode cX10_small 1 = .ok (.lconst 0, 1)) ∧ (decode cX10_small 2 = .ok (.lcmp, 1)) ∧ (decode cX10_small 3 = .ok (.ifCond .lt 11, 3)) ∧ (decode cX10_small 6 = .ok (.lload_n 0, 1)) ∧ (decode cX10_small 7 = .ok (.ldc2_w 500, 3)) ∧ (decode cX10_small 10 = .ok (.lcmp, 1)) ∧ (decode cX10_small 11 = .ok (.ifCond .le 7, 3)) ∧ (decode cX10_small 14 = .ok (.iconst (-1), 1)) ∧ (decode cX10_small 15 = .ok (.goto 5, 3)) ∧ (decode cX10_small 18 = .ok (.lload_n 0, 1)) ∧ (decode cX10_small 19 = .ok (.l2i, 1)) ∧ (decode cX10_small 20 = .ok (.ireturn, 1)) := by decide +kernel
theorem dX10_small_0 : decode cX10_small 0 = .ok (.lload_n 0, 1) := da9_dX10_small_0.1
theorem dX10_small_1 : decode cX10_small 1 = .ok (.lconst 0, 1) := da9_dX10_small_0.2.1
theorem dX10_small_2 : decode cX10_small 2 = .ok (.lcmp, 1) := da9_dX10_small_0.2.2.1
theorem dX10_small_3 : decode cX10_small 3 = .ok (.ifCond .lt 11, 3) := da9_dX10_small_0.2.2.2.1
theorem dX10_small_6 : decode cX10_small 6 = .ok (.lload_n 0, 1) := da9_dX10_small_0.2.2.2.2.1
theorem dX10_small_7 : decode cX10_small 7 = .ok (.ldc2_w 500, 3) := da9_dX10_small_0.2.2.2.2.2.1
theorem dX10_small_10 : decode cX10_small 10 = .ok (.lcmp, 1) := da9_dX10_small_0.2.2.2.2.2.2.1
theorem dX10_small_11 : decode cX10_small 11 = .ok (.ifCond .le 7, 3) := da9_dX10_small_0.2.2.2.2.2.2.2.1
theorem dX10_small_14 : decode cX10_small 14 = .ok (.iconst (-1), 1) := da9_dX10_small_0.2.2.2.2.2.2.2.2.1
theorem dX10_small_15 : decode cX10_small 15 = .ok (.goto 5, 3) := da9_dX10_small_0.2.2.2.2.2.2.2.2.2.1
theorem dX10_small_18 : decode cX10_small 18 = .ok (.lload_n 0, 1) := da9_dX10_small_0.2.2.2.2.2.2.2.2.2.2.1
theorem dX10_small_19 : decode cX10_small 19 = .ok (.l2i, 1) := da9_dX10_small_0.2.2.2.2.2.2.2.2.2.2.2.1
theorem dX10_small_20 : decode cX10_small 20 = .ok (.ireturn, 1) := da9_dX10_small_0.2.2.2.2.2.2.2.2.2.2.2.2
set_option maxRecDepth 20000 in
theorem ggX10_obeys_X10_small : GoodIn wsX10_obeys wsX10_small := wd_c vW10_ok mvW10_276
set_option maxRecDepth 20000 in
theorem gX10_obeys_X10_small : GoodIn wsX10_obeys (va_wsS RX10 502 yX10_small wsX10_small) := goodIn_app (wd_l vW10_ok _ pvW10_236) ggX10_obeys_X10_small
set_option maxRecDepth 20000 in
theorem ggX10_obeys_X10_rightsKept : GoodIn wsX10_obeys wsX10_rightsKept := wd_c vW10_ok mvW10_281
set_option maxRecDepth 20000 in
theorem gX10_obeys_X10_rightsKept : GoodIn wsX10_obeys (wsV RX10 371 RX10 yX10_rightsKept wsX10_rightsKept) := goodIn_app (wd_l vW10_ok _ pvW10_204) ggX10_obeys_X10_rightsKept
set_option maxRecDepth 20000 in
theorem ggX10_obeys_X10_swapsKept : GoodIn wsX10_obeys wsX10_swapsKept := wd_c vW10_ok mvW10_289
set_option maxRecDepth 20000 in
theorem gX10_obeys_X10_swapsKept : GoodIn wsX10_obeys (wsV RX10 374 RX10 yX10_swapsKept wsX10_swapsKept) := goodIn_app (wd_l vW10_ok _ pvW10_205) ggX10_obeys_X10_swapsKept
set_option maxRecDepth 20000 in
theorem ggX10_obeys_X10_passesKept : GoodIn wsX10_obeys wsX10_passesKept := wd_c vW10_ok mvW10_297
set_option maxRecDepth 20000 in
theorem gX10_obeys_X10_passesKept : GoodIn wsX10_obeys (wsV RX10 377 RX10 yX10_passesKept wsX10_passesKept) := goodIn_app (wd_l vW10_ok _ pvW10_206) ggX10_obeys_X10_passesKept
set_option maxRecDepth 20000 in
theorem ggX10_obeys_X10_turnsKept : GoodIn wsX10_obeys wsX10_turnsKept := wd_c vW10_ok mvW10_306
set_option maxRecDepth 20000 in
theorem gX10_obeys_X10_turnsKept : GoodIn wsX10_obeys (wsV RX10 365 RX10 yX10_turnsKept wsX10_turnsKept) := goodIn_app (wd_l vW10_ok _ pvW10_202) ggX10_obeys_X10_turnsKept
theorem da9_dX10_obeys_0 : (decode cX10_obeys 0 = .ok (.aload_n 0, 1)) ∧ (decode cX10_obeys 1 = .ok (.getfield 484, 3)) ∧ (decode cX10_obeys 4 = .ok (.tableswitch 57 23 25 #[28, 40, 52], 28)) ∧ (decode cX10_obeys 32 = .ok (.aload_n 0, 1)) ∧ (decode cX10_obeys 33 = .ok (.aload_n 0, 1)) ∧ (decode cX10_obeys 34 = .ok (.getfield 487, 3)) ∧ (decode cX10_obeys 37 = .ok (.invokestatic 502, 3)) ∧ (decode cX10_obeys 40 = .ok (.invokevirtual 371, 3)) ∧ (decode cX10_obeys 43 = .ok (.ireturn, 1)) ∧ (decode cX10_obeys 44 = .ok (.aload_n 0, 1)) ∧ (decode cX10_obeys 45 = .ok (.aload_n 0, 1)) ∧ (decode cX10_obeys 46 = .ok (.getfield 487, 3)) ∧ (decode cX10_obeys 49 = .ok (.invokestatic 502, 3)) ∧ (decode cX10_obeys 52 = .ok (.invokevirtual 374, 3)) ∧ (decode cX10_obeys 55 = .ok (.ireturn, 1)) ∧ (decode cX10_obeys 56 = .ok (.aload_n 0, 1)) := by decide +kernel
theorem dX10_obeys_0 : decode cX10_obeys 0 = .ok (.aload_n 0, 1) := da9_dX10_obeys_0.1
theorem dX10_obeys_1 : decode cX10_obeys 1 = .ok (.getfield 484, 3) := da9_dX10_obeys_0.2.1
theorem dX10_obeys_4 : decode cX10_obeys 4 = .ok (.tableswitch 57 23 25 #[28, 40, 52], 28) := da9_dX10_obeys_0.2.2.1
theorem dX10_obeys_32 : decode cX10_obeys 32 = .ok (.aload_n 0, 1) := da9_dX10_obeys_0.2.2.2.1
theorem dX10_obeys_33 : decode cX10_obeys 33 = .ok (.aload_n 0, 1) := da9_dX10_obeys_0.2.2.2.2.1
theorem dX10_obeys_34 : decode cX10_obeys 34 = .ok (.getfield 487, 3) := da9_dX10_obeys_0.2.2.2.2.2.1
theorem dX10_obeys_37 : decode cX10_obeys 37 = .ok (.invokestatic 502, 3) := da9_dX10_obeys_0.2.2.2.2.2.2.1
theorem dX10_obeys_40 : decode cX10_obeys 40 = .ok (.invokevirtual 371, 3) := da9_dX10_obeys_0.2.2.2.2.2.2.2.1
theorem dX10_obeys_43 : decode cX10_obeys 43 = .ok (.ireturn, 1) := da9_dX10_obeys_0.2.2.2.2.2.2.2.2.1
theorem dX10_obeys_44 : decode cX10_obeys 44 = .ok (.aload_n 0, 1) := da9_dX10_obeys_0.2.2.2.2.2.2.2.2.2.1
theorem dX10_obeys_45 : decode cX10_obeys 45 = .ok (.aload_n 0, 1) := da9_dX10_obeys_0.2.2.2.2.2.2.2.2.2.2.1
theorem dX10_obeys_46 : decode cX10_obeys 46 = .ok (.getfield 487, 3) := da9_dX10_obeys_0.2.2.2.2.2.2.2.2.2.2.2.1
theorem dX10_obeys_49 : decode cX10_obeys 49 = .ok (.invokestatic 502, 3) := da9_dX10_obeys_0.2.2.2.2.2.2.2.2.2.2.2.2.1
theorem dX10_obeys_52 : decode cX10_obeys 52 = .ok (.invokevirtual 374, 3) := da9_dX10_obeys_0.2.2.2.2.2.2.2.2.2.2.2.2.2.1
theorem dX10_obeys_55 : decode cX10_obeys 55 = .ok (.ireturn, 1) := da9_dX10_obeys_0.2.2.2.2.2.2.2.2.2.2.2.2.2.2.1
theorem dX10_obeys_56 : decode cX10_obeys 56 = .ok (.aload_n 0, 1) := da9_dX10_obeys_0.2.2.2.2.2.2.2.2.2.2.2.2.2.2.2
theorem da9_dX10_obeys_57 : (decode cX10_obeys 57 = .ok (.invokevirtual 377, 3)) ∧ (decode cX10_obeys 60 = .ok (.ireturn, 1)) ∧ (decode cX10_obeys 61 = .ok (.aload_n 0, 1)) ∧ (decode cX10_obeys 62 = .ok (.aload_n 0, 1)) ∧ (decode cX10_obeys 63 = .ok (.getfield 487, 3)) ∧ (decode cX10_obeys 66 = .ok (.invokestatic 502, 3)) ∧ (decode cX10_obeys 69 = .ok (.invokevirtual 365, 3)) ∧ (decode cX10_obeys 72 = .ok (.istore_n 1, 1)) ∧ (decode cX10_obeys 73 = .ok (.aload_n 0, 1)) ∧ (decode cX10_obeys 74 = .ok (.iload_n 1, 1)) ∧ (decode cX10_obeys 75 = .ok (.ifCond .ge 10, 3)) ∧ (decode cX10_obeys 78 = .ok (.aload_n 0, 1)) ∧ (decode cX10_obeys 79 = .ok (.getfield 317, 3)) ∧ (decode cX10_obeys 82 = .ok (.goto 4, 3)) ∧ (decode cX10_obeys 85 = .ok (.iload_n 1, 1)) ∧ (decode cX10_obeys 86 = .ok (.putfield 317, 3)) := by decide +kernel
theorem dX10_obeys_57 : decode cX10_obeys 57 = .ok (.invokevirtual 377, 3) := da9_dX10_obeys_57.1
theorem dX10_obeys_60 : decode cX10_obeys 60 = .ok (.ireturn, 1) := da9_dX10_obeys_57.2.1
theorem dX10_obeys_61 : decode cX10_obeys 61 = .ok (.aload_n 0, 1) := da9_dX10_obeys_57.2.2.1
theorem dX10_obeys_62 : decode cX10_obeys 62 = .ok (.aload_n 0, 1) := da9_dX10_obeys_57.2.2.2.1
theorem dX10_obeys_63 : decode cX10_obeys 63 = .ok (.getfield 487, 3) := da9_dX10_obeys_57.2.2.2.2.1
theorem dX10_obeys_66 : decode cX10_obeys 66 = .ok (.invokestatic 502, 3) := da9_dX10_obeys_57.2.2.2.2.2.1
theorem dX10_obeys_69 : decode cX10_obeys 69 = .ok (.invokevirtual 365, 3) := da9_dX10_obeys_57.2.2.2.2.2.2.1
theorem dX10_obeys_72 : decode cX10_obeys 72 = .ok (.istore_n 1, 1) := da9_dX10_obeys_57.2.2.2.2.2.2.2.1
theorem dX10_obeys_73 : decode cX10_obeys 73 = .ok (.aload_n 0, 1) := da9_dX10_obeys_57.2.2.2.2.2.2.2.2.1
theorem dX10_obeys_74 : decode cX10_obeys 74 = .ok (.iload_n 1, 1) := da9_dX10_obeys_57.2.2.2.2.2.2.2.2.2.1
theorem dX10_obeys_75 : decode cX10_obeys 75 = .ok (.ifCond .ge 10, 3) := da9_dX10_obeys_57.2.2.2.2.2.2.2.2.2.2.1
theorem dX10_obeys_78 : decode cX10_obeys 78 = .ok (.aload_n 0, 1) := da9_dX10_obeys_57.2.2.2.2.2.2.2.2.2.2.2.1
theorem dX10_obeys_79 : decode cX10_obeys 79 = .ok (.getfield 317, 3) := da9_dX10_obeys_57.2.2.2.2.2.2.2.2.2.2.2.2.1
theorem dX10_obeys_82 : decode cX10_obeys 82 = .ok (.goto 4, 3) := da9_dX10_obeys_57.2.2.2.2.2.2.2.2.2.2.2.2.2.1
theorem dX10_obeys_85 : decode cX10_obeys 85 = .ok (.iload_n 1, 1) := da9_dX10_obeys_57.2.2.2.2.2.2.2.2.2.2.2.2.2.2.1
theorem dX10_obeys_86 : decode cX10_obeys 86 = .ok (.putfield 317, 3) := da9_dX10_obeys_57.2.2.2.2.2.2.2.2.2.2.2.2.2.2.2
theorem da9_dX10_obeys_89 : (decode cX10_obeys 89 = .ok (.iload_n 1, 1)) ∧ (decode cX10_obeys 90 = .ok (.ireturn, 1)) := by decide +kernel
theorem dX10_obeys_89 : decode cX10_obeys 89 = .ok (.iload_n 1, 1) := da9_dX10_obeys_89.1
theorem dX10_obeys_90 : decode cX10_obeys 90 = .ok (.ireturn, 1) := da9_dX10_obeys_89.2
set_option maxRecDepth 20000 in
theorem ggX10_runs_X10_goesAlong : GoodIn wsX10_runs wsX10_goesAlong := wd_c vW10_ok mvW10_267
set_option maxRecDepth 20000 in
theorem gX10_runs_X10_goesAlong : GoodIn wsX10_runs (wsV RX10 506 RX10 yX10_goesAlong wsX10_goesAlong) := goodIn_app (wd_l vW10_ok _ pvW10_237) ggX10_runs_X10_goesAlong
set_option maxRecDepth 20000 in
theorem ggX10_runs_X10_obeys : GoodIn wsX10_runs wsX10_obeys := wd_c vW10_ok mvW10_273
set_option maxRecDepth 20000 in
theorem gX10_runs_X10_obeys : GoodIn wsX10_runs (wsV RX10 510 RX10 yX10_obeys wsX10_obeys) := goodIn_app (wd_l vW10_ok _ pvW10_238) ggX10_runs_X10_obeys
theorem da9_dX10_runs_0 : (decode cX10_runs 0 = .ok (.aload_n 0, 1)) ∧ (decode cX10_runs 1 = .ok (.iload_n 1, 1)) ∧ (decode cX10_runs 2 = .ok (.iconst 0, 1)) ∧ (decode cX10_runs 3 = .ok (.invokevirtual 506, 3)) ∧ (decode cX10_runs 6 = .ok (.aload_n 0, 1)) ∧ (decode cX10_runs 7 = .ok (.getfield 494, 3)) ∧ (decode cX10_runs 10 = .ok (.istore_n 2, 1)) ∧ (decode cX10_runs 11 = .ok (.aload_n 0, 1)) ∧ (decode cX10_runs 12 = .ok (.getfield 278, 3)) ∧ (decode cX10_runs 15 = .ok (.istore_n 3, 1)) ∧ (decode cX10_runs 16 = .ok (.iconst 0, 1)) ∧ (decode cX10_runs 17 = .ok (.istore 4, 2)) ∧ (decode cX10_runs 19 = .ok (.iload 4, 2)) ∧ (decode cX10_runs 21 = .ok (.iload_n 2, 1)) ∧ (decode cX10_runs 22 = .ok (.if_icmp .ge 51, 3)) ∧ (decode cX10_runs 25 = .ok (.aload_n 0, 1)) := by decide +kernel
theorem dX10_runs_0 : decode cX10_runs 0 = .ok (.aload_n 0, 1) := da9_dX10_runs_0.1
theorem dX10_runs_1 : decode cX10_runs 1 = .ok (.iload_n 1, 1) := da9_dX10_runs_0.2.1
theorem dX10_runs_2 : decode cX10_runs 2 = .ok (.iconst 0, 1) := da9_dX10_runs_0.2.2.1
theorem dX10_runs_3 : decode cX10_runs 3 = .ok (.invokevirtual 506, 3) := da9_dX10_runs_0.2.2.2.1
theorem dX10_runs_6 : decode cX10_runs 6 = .ok (.aload_n 0, 1) := da9_dX10_runs_0.2.2.2.2.1
theorem dX10_runs_7 : decode cX10_runs 7 = .ok (.getfield 494, 3) := da9_dX10_runs_0.2.2.2.2.2.1
theorem dX10_runs_10 : decode cX10_runs 10 = .ok (.istore_n 2, 1) := da9_dX10_runs_0.2.2.2.2.2.2.1
theorem dX10_runs_11 : decode cX10_runs 11 = .ok (.aload_n 0, 1) := da9_dX10_runs_0.2.2.2.2.2.2.2.1
theorem dX10_runs_12 : decode cX10_runs 12 = .ok (.getfield 278, 3) := da9_dX10_runs_0.2.2.2.2.2.2.2.2.1
theorem dX10_runs_15 : decode cX10_runs 15 = .ok (.istore_n 3, 1) := da9_dX10_runs_0.2.2.2.2.2.2.2.2.2.1
theorem dX10_runs_16 : decode cX10_runs 16 = .ok (.iconst 0, 1) := da9_dX10_runs_0.2.2.2.2.2.2.2.2.2.2.1
theorem dX10_runs_17 : decode cX10_runs 17 = .ok (.istore 4, 2) := da9_dX10_runs_0.2.2.2.2.2.2.2.2.2.2.2.1
theorem dX10_runs_19 : decode cX10_runs 19 = .ok (.iload 4, 2) := da9_dX10_runs_0.2.2.2.2.2.2.2.2.2.2.2.2.1
theorem dX10_runs_21 : decode cX10_runs 21 = .ok (.iload_n 2, 1) := da9_dX10_runs_0.2.2.2.2.2.2.2.2.2.2.2.2.2.1
theorem dX10_runs_22 : decode cX10_runs 22 = .ok (.if_icmp .ge 51, 3) := da9_dX10_runs_0.2.2.2.2.2.2.2.2.2.2.2.2.2.2.1
theorem dX10_runs_25 : decode cX10_runs 25 = .ok (.aload_n 0, 1) := da9_dX10_runs_0.2.2.2.2.2.2.2.2.2.2.2.2.2.2.2
theorem da9_dX10_runs_26 : (decode cX10_runs 26 = .ok (.iload_n 1, 1)) ∧ (decode cX10_runs 27 = .ok (.iconst 1, 1)) ∧ (decode cX10_runs 28 = .ok (.invokevirtual 506, 3)) ∧ (decode cX10_runs 31 = .ok (.aload_n 0, 1)) ∧ (decode cX10_runs 32 = .ok (.getfield 497, 3)) ∧ (decode cX10_runs 35 = .ok (.ifCond .ne 6, 3)) ∧ (decode cX10_runs 38 = .ok (.goto 29, 3)) ∧ (decode cX10_runs 41 = .ok (.aload_n 0, 1)) ∧ (decode cX10_runs 42 = .ok (.getfield 491, 3)) ∧ (decode cX10_runs 45 = .ok (.ifCond .eq 10, 3)) ∧ (decode cX10_runs 48 = .ok (.aload_n 0, 1)) ∧ (decode cX10_runs 49 = .ok (.invokevirtual 510, 3)) ∧ (decode cX10_runs 52 = .ok (.ifCond .ge 5, 3)) ∧ (decode cX10_runs 55 = .ok (.iconst 0, 1)) ∧ (decode cX10_runs 56 = .ok (.ireturn, 1)) ∧ (decode cX10_runs 57 = .ok (.aload_n 0, 1)) := by decide +kernel
theorem dX10_runs_26 : decode cX10_runs 26 = .ok (.iload_n 1, 1) := da9_dX10_runs_26.1
theorem dX10_runs_27 : decode cX10_runs 27 = .ok (.iconst 1, 1) := da9_dX10_runs_26.2.1
theorem dX10_runs_28 : decode cX10_runs 28 = .ok (.invokevirtual 506, 3) := da9_dX10_runs_26.2.2.1
theorem dX10_runs_31 : decode cX10_runs 31 = .ok (.aload_n 0, 1) := da9_dX10_runs_26.2.2.2.1
theorem dX10_runs_32 : decode cX10_runs 32 = .ok (.getfield 497, 3) := da9_dX10_runs_26.2.2.2.2.1
theorem dX10_runs_35 : decode cX10_runs 35 = .ok (.ifCond .ne 6, 3) := da9_dX10_runs_26.2.2.2.2.2.1
theorem dX10_runs_38 : decode cX10_runs 38 = .ok (.goto 29, 3) := da9_dX10_runs_26.2.2.2.2.2.2.1
theorem dX10_runs_41 : decode cX10_runs 41 = .ok (.aload_n 0, 1) := da9_dX10_runs_26.2.2.2.2.2.2.2.1
theorem dX10_runs_42 : decode cX10_runs 42 = .ok (.getfield 491, 3) := da9_dX10_runs_26.2.2.2.2.2.2.2.2.1
theorem dX10_runs_45 : decode cX10_runs 45 = .ok (.ifCond .eq 10, 3) := da9_dX10_runs_26.2.2.2.2.2.2.2.2.2.1
theorem dX10_runs_48 : decode cX10_runs 48 = .ok (.aload_n 0, 1) := da9_dX10_runs_26.2.2.2.2.2.2.2.2.2.2.1
theorem dX10_runs_49 : decode cX10_runs 49 = .ok (.invokevirtual 510, 3) := da9_dX10_runs_26.2.2.2.2.2.2.2.2.2.2.2.1
theorem dX10_runs_52 : decode cX10_runs 52 = .ok (.ifCond .ge 5, 3) := da9_dX10_runs_26.2.2.2.2.2.2.2.2.2.2.2.2.1
theorem dX10_runs_55 : decode cX10_runs 55 = .ok (.iconst 0, 1) := da9_dX10_runs_26.2.2.2.2.2.2.2.2.2.2.2.2.2.1
theorem dX10_runs_56 : decode cX10_runs 56 = .ok (.ireturn, 1) := da9_dX10_runs_26.2.2.2.2.2.2.2.2.2.2.2.2.2.2.1
theorem dX10_runs_57 : decode cX10_runs 57 = .ok (.aload_n 0, 1) := da9_dX10_runs_26.2.2.2.2.2.2.2.2.2.2.2.2.2.2.2
theorem da9_dX10_runs_58 : (decode cX10_runs 58 = .ok (.dup, 1)) ∧ (decode cX10_runs 59 = .ok (.getfield 314, 3)) ∧ (decode cX10_runs 62 = .ok (.iconst 1, 1)) ∧ (decode cX10_runs 63 = .ok (.iadd, 1)) ∧ (decode cX10_runs 64 = .ok (.putfield 314, 3)) ∧ (decode cX10_runs 67 = .ok (.iinc 4 1, 3)) ∧ (decode cX10_runs 70 = .ok (.goto (-51), 3)) ∧ (decode cX10_runs 73 = .ok (.aload_n 0, 1)) ∧ (decode cX10_runs 74 = .ok (.iload_n 3, 1)) ∧ (decode cX10_runs 75 = .ok (.putfield 475, 3)) ∧ (decode cX10_runs 78 = .ok (.iconst 1, 1)) ∧ (decode cX10_runs 79 = .ok (.ireturn, 1)) := by decide +kernel
theorem dX10_runs_58 : decode cX10_runs 58 = .ok (.dup, 1) := da9_dX10_runs_58.1
theorem dX10_runs_59 : decode cX10_runs 59 = .ok (.getfield 314, 3) := da9_dX10_runs_58.2.1
theorem dX10_runs_62 : decode cX10_runs 62 = .ok (.iconst 1, 1) := da9_dX10_runs_58.2.2.1
theorem dX10_runs_63 : decode cX10_runs 63 = .ok (.iadd, 1) := da9_dX10_runs_58.2.2.2.1
theorem dX10_runs_64 : decode cX10_runs 64 = .ok (.putfield 314, 3) := da9_dX10_runs_58.2.2.2.2.1
theorem dX10_runs_67 : decode cX10_runs 67 = .ok (.iinc 4 1, 3) := da9_dX10_runs_58.2.2.2.2.2.1
theorem dX10_runs_70 : decode cX10_runs 70 = .ok (.goto (-51), 3) := da9_dX10_runs_58.2.2.2.2.2.2.1
theorem dX10_runs_73 : decode cX10_runs 73 = .ok (.aload_n 0, 1) := da9_dX10_runs_58.2.2.2.2.2.2.2.1
theorem dX10_runs_74 : decode cX10_runs 74 = .ok (.iload_n 3, 1) := da9_dX10_runs_58.2.2.2.2.2.2.2.2.1
theorem dX10_runs_75 : decode cX10_runs 75 = .ok (.putfield 475, 3) := da9_dX10_runs_58.2.2.2.2.2.2.2.2.2.1
theorem dX10_runs_78 : decode cX10_runs 78 = .ok (.iconst 1, 1) := da9_dX10_runs_58.2.2.2.2.2.2.2.2.2.2.1
theorem dX10_runs_79 : decode cX10_runs 79 = .ok (.ireturn, 1) := da9_dX10_runs_58.2.2.2.2.2.2.2.2.2.2.2
end
section
theorem f9_wsX10_look_258 : (Cond.constant RX10 188 1000000) ∈ wsX10_look := List.mem_cons_of_mem _ mvW10_172
theorem u9_wsX10_few_X10 : ∀ w ∈ u_ws RX10 TX10 56, w ∈ wsX10_few := fun w h => List.mem_cons_of_mem _ (vW10_wsX100 w h)
theorem f9_wsX10_few_260 : (Cond.fieldLink RX10 106 "TurnedFloorsModel" "shares" "[J") ∈ wsX10_few := List.mem_cons_of_mem _ mvW10_436
theorem f9_wsX10_few_261 : (Cond.fieldLink RX10 28 "TurnedFloorsModel" "kept" "[I") ∈ wsX10_few := List.mem_cons_of_mem _ mvW10_20
theorem f9_wsX10_few_262 : (Cond.constantLong RX10 470 10) ∈ wsX10_few := List.mem_cons_of_mem _ mvW10_438
theorem f9_wsX10_few_263 : (Cond.constantLong RX10 468 1000000000000) ∈ wsX10_few := List.mem_cons_of_mem _ mvW10_437
theorem f9_wsX10_few_264 : (Cond.constantLong RX10 466 (-1)) ∈ wsX10_few := List.mem_cons_of_mem _ mvW10_435
theorem u9_wsX10_stopped_X10 : ∀ w ∈ u_ws RX10 TX10 56, w ∈ wsX10_stopped := fun w h => List.mem_cons_of_mem _ (vW10_wsX100 w h)
theorem f9_wsX10_stopped_266 : (Cond.fieldLink RX10 110 "TurnedFloorsModel" "stopped0" "I") ∈ wsX10_stopped := List.mem_cons_of_mem _ mvW10_248
theorem u9_wsX10_goesAlong_X10 : ∀ w ∈ u_ws RX10 TX10 56, w ∈ wsX10_goesAlong := fun w h => List.mem_cons_of_mem _ (vW10_wsX100 w h)
theorem f9_wsX10_goesAlong_268 : (Cond.fieldLink RX10 497 "TurnedFloorsModel" "testIs" "Z") ∈ wsX10_goesAlong := List.mem_cons_of_mem _ mvW10_262
theorem f9_wsX10_goesAlong_269 : (Cond.fieldLink RX10 278 "TurnedFloorsModel" "go" "I") ∈ wsX10_goesAlong := List.mem_cons_of_mem _ mvW10_64
theorem f9_wsX10_goesAlong_270 : (Cond.fieldLink RX10 288 "TurnedFloorsModel" "broken" "Z") ∈ wsX10_goesAlong := List.mem_cons_of_mem _ mvW10_66
theorem f9_wsX10_goesAlong_271 : (Cond.fieldLink RX10 491 "TurnedFloorsModel" "sumsAre" "Z") ∈ wsX10_goesAlong := List.mem_cons_of_mem _ mvW10_263
theorem f9_wsX10_goesAlong_272 : (Cond.fieldLink RX10 494 "TurnedFloorsModel" "howOften" "I") ∈ wsX10_goesAlong := List.mem_cons_of_mem _ mvW10_261
theorem f9_wsX10_goesAlong_273 : (Cond.fieldLink RX10 28 "TurnedFloorsModel" "kept" "[I") ∈ wsX10_goesAlong := List.mem_cons_of_mem _ mvW10_20
theorem f9_wsX10_goesAlong_274 : (Cond.fieldLink RX10 487 "TurnedFloorsModel" "sumNow" "J") ∈ wsX10_goesAlong := List.mem_cons_of_mem _ mvW10_269
theorem f9_wsX10_goesAlong_275 : (Cond.fieldLink RX10 308 "TurnedFloorsModel" "inOrders" "Z") ∈ wsX10_goesAlong := List.mem_cons_of_mem _ mvW10_63
theorem f9_wsX10_goesAlong_276 : (Cond.fieldLink RX10 275 "TurnedFloorsModel" "goEnd" "I") ∈ wsX10_goesAlong := List.mem_cons_of_mem _ mvW10_65
theorem f9_wsX10_goesAlong_277 : (Cond.fieldLink RX10 475 "TurnedFloorsModel" "orderAt" "I") ∈ wsX10_goesAlong := List.mem_cons_of_mem _ mvW10_251
theorem f9_wsX10_goesAlong_278 : (Cond.fieldLink RX10 484 "TurnedFloorsModel" "head" "I") ∈ wsX10_goesAlong := List.mem_cons_of_mem _ mvW10_268
theorem f9_wsX10_small_279 : (Cond.constantLong RX10 500 1000000) ∈ wsX10_small := List.mem_cons_of_mem _ mvW10_277
theorem u9_wsX10_obeys_X10 : ∀ w ∈ u_ws RX10 TX10 56, w ∈ wsX10_obeys := fun w h => List.mem_cons_of_mem _ (vW10_wsX100 w h)
theorem f9_wsX10_obeys_281 : (Cond.fieldLink RX10 317 "TurnedFloorsModel" "orderLatest" "I") ∈ wsX10_obeys := List.mem_cons_of_mem _ mvW10_98
theorem f9_wsX10_obeys_282 : (Cond.fieldLink RX10 484 "TurnedFloorsModel" "head" "I") ∈ wsX10_obeys := List.mem_cons_of_mem _ mvW10_268
theorem f9_wsX10_obeys_283 : (Cond.fieldLink RX10 487 "TurnedFloorsModel" "sumNow" "J") ∈ wsX10_obeys := List.mem_cons_of_mem _ mvW10_269
theorem u9_wsX10_runs_X10 : ∀ w ∈ u_ws RX10 TX10 56, w ∈ wsX10_runs := fun w h => List.mem_cons_of_mem _ (vW10_wsX100 w h)
theorem f9_wsX10_runs_285 : (Cond.fieldLink RX10 475 "TurnedFloorsModel" "orderAt" "I") ∈ wsX10_runs := List.mem_cons_of_mem _ mvW10_251
theorem f9_wsX10_runs_286 : (Cond.fieldLink RX10 497 "TurnedFloorsModel" "testIs" "Z") ∈ wsX10_runs := List.mem_cons_of_mem _ mvW10_262
theorem f9_wsX10_runs_287 : (Cond.fieldLink RX10 491 "TurnedFloorsModel" "sumsAre" "Z") ∈ wsX10_runs := List.mem_cons_of_mem _ mvW10_263
theorem f9_wsX10_runs_288 : (Cond.fieldLink RX10 314 "TurnedFloorsModel" "orderDone" "I") ∈ wsX10_runs := List.mem_cons_of_mem _ mvW10_97
theorem f9_wsX10_runs_289 : (Cond.fieldLink RX10 494 "TurnedFloorsModel" "howOften" "I") ∈ wsX10_runs := List.mem_cons_of_mem _ mvW10_261
theorem f9_wsX10_runs_290 : (Cond.fieldLink RX10 278 "TurnedFloorsModel" "go" "I") ∈ wsX10_runs := List.mem_cons_of_mem _ mvW10_64
set_option maxHeartbeats 4000000 in
set_option maxRecDepth 100000 in
theorem WX10_look_85 {p : Program} {l : Launch} {e : Env} {s : State} {m : MethodId} {args : Array Value} {below : List Frame} {meth : Method} {c : Code} {D : va_G} {ty : Nat → ClassId} {eo : Nat → Nat} {A : Nat → Prop} {ad : Nat → Nat} {o1 : Int32} {o2 : dS} (C : dc_C p s m args meth c cX10_look (some .int) 7 RX10 wsX10_look D ty eo A)   (q : dS) (y0 : Int32) (H : Heap) (locs : List Loc) (ls : Array Slot) (h : zX10_look_85  q y0 = some (o1, o2)) (hP : va_P D vwCl (w10 ty ad q) H) (hD : va_D A (w10 ty ad q)) (hS : va_S A s.heap H locs) (hl : lv_has ls 7 []) : W p l e ({ frames := 90, cells := 0, slots := 0, locals := 2289 } : Room) s m args below meth c H locs 0 0 (MQ below (va_Qi (fun (r : Int32) (u : va_W) => o1 = r ∧ w10 ty ad o2 = u) (kz_B D ty A) A) args s 0 0 A) (F0 m 85 ls [.int y0]) := by
  have C0 := C
  obtain ⟨hx, hb, hr, hts, hown, hlocks, hml, hK, hN, hE, hA⟩ := C
  unfold zX10_look_85 at h
  cases h
  exact kz_iret hx hb hr hlocks hP hK hD hS dX10_look_85 ⟨rfl, rfl⟩
set_option maxHeartbeats 4000000 in
set_option maxRecDepth 100000 in
theorem WX10_look_79 {p : Program} {l : Launch} {e : Env} {s : State} {m : MethodId} {args : Array Value} {below : List Frame} {meth : Method} {c : Code} {D : va_G} {ty : Nat → ClassId} {eo : Nat → Nat} {A : Nat → Prop} {ad : Nat → Nat} {o1 : Int32} {o2 : dS} (C : dc_C p s m args meth c cX10_look (some .int) 7 RX10 wsX10_look D ty eo A)   (q : dS) (x3 : Int32) (H : Heap) (locs : List Loc) (ls : Array Slot) (h : zX10_look_79  q x3 = some (o1, o2)) (hP : va_P D vwCl (w10 ty ad q) H) (hD : va_D A (w10 ty ad q)) (hS : va_S A s.heap H locs) (hl : lv_has ls 7 [(3, .int x3)]) : W p l e ({ frames := 90, cells := 0, slots := 0, locals := 2289 } : Room) s m args below meth c H locs 0 0 (MQ below (va_Qi (fun (r : Int32) (u : va_W) => o1 = r ∧ w10 ty ad o2 = u) (kz_B D ty A) A) args s 0 0 A) (F0 m 79 ls []) := by
  have C0 := C
  obtain ⟨hx, hb, hr, hts, hown, hlocks, hml, hK, hN, hE, hA⟩ := C
  unfold zX10_look_79 at h
  refine lv_iload_n hx hb dX10_look_79 rfl (lv_at hl 0 rfl) ?_
  refine lv_goto (tgt := 85) hx hb dX10_look_80 (by decide) ?_
  exact WX10_look_85 C0  _ _ _ _ _ h hP hD hS (lv_sub hl [] rfl)
set_option maxHeartbeats 4000000 in
set_option maxRecDepth 100000 in
theorem WX10_look_70 {p : Program} {l : Launch} {e : Env} {s : State} {m : MethodId} {args : Array Value} {below : List Frame} {meth : Method} {c : Code} {D : va_G} {ty : Nat → ClassId} {eo : Nat → Nat} {A : Nat → Prop} {ad : Nat → Nat} {o1 : Int32} {o2 : dS} (C : dc_C p s m args meth c cX10_look (some .int) 7 RX10 wsX10_look D ty eo A)   (q : dS) (x1 : Int32) (x3 : Int32) (x4 : Int32) (H : Heap) (locs : List Loc) (ls : Array Slot) (h : zX10_look_70  q x1 x3 x4 = some (o1, o2)) (hP : va_P D vwCl (w10 ty ad q) H) (hD : va_D A (w10 ty ad q)) (hS : va_S A s.heap H locs) (hl : lv_has ls 7 [(1, .int x1), (3, .int x3), (4, .int x4)]) : W p l e ({ frames := 90, cells := 0, slots := 0, locals := 2289 } : Room) s m args below meth c H locs 0 0 (MQ below (va_Qi (fun (r : Int32) (u : va_W) => o1 = r ∧ w10 ty ad o2 = u) (kz_B D ty A) A) args s 0 0 A) (F0 m 70 ls []) := by
  have C0 := C
  obtain ⟨hx, hb, hr, hts, hown, hlocks, hml, hK, hN, hE, hA⟩ := C
  unfold zX10_look_70 at h
  refine lv_iload_n hx hb dX10_look_70 rfl (lv_at hl 1 rfl) ?_
  refine lv_iconst (v := (-1)) hx hb dX10_look_71 (by decide) ?_
  refine lv_icmp_eq (tgt := 79) hx hb dX10_look_72 (by decide) (fun c9 => ?_) (fun c9 => ?_)
  · rw [if_pos c9] at h
    exact WX10_look_79 C0  _ _ _ _ _ h hP hD hS (lv_sub hl [1] rfl)
  · rw [if_neg c9] at h
    refine lv_iload_n hx hb dX10_look_75 rfl (lv_at hl 0 rfl) ?_
    refine lv_if_ne (tgt := 83) hx hb dX10_look_76 (by decide) (fun c9 => ?_) (fun c9 => ?_)
    · rw [if_neg c9] at h
      refine lv_iload hx hb dX10_look_83 (lv_at hl 2 rfl) ?_
      exact WX10_look_85 C0  _ _ _ _ _ h hP hD hS (lv_sub hl [] rfl)
    · rw [if_pos c9] at h
      exact WX10_look_79 C0  _ _ _ _ _ h hP hD hS (lv_sub hl [1] rfl)
set_option maxHeartbeats 4000000 in
set_option maxRecDepth 100000 in
theorem WX10_look_64 {p : Program} {l : Launch} {e : Env} {s : State} {m : MethodId} {args : Array Value} {below : List Frame} {meth : Method} {c : Code} {D : va_G} {ty : Nat → ClassId} {eo : Nat → Nat} {A : Nat → Prop} {ad : Nat → Nat} {o1 : Int32} {o2 : dS} (C : dc_C p s m args meth c cX10_look (some .int) 7 RX10 wsX10_look D ty eo A) {k25 : dS → Int32 → Int32 → Int32 → Int32 → Int32 → Option (Int32 × dS)} (hk25 : ∀ (q : dS) (x1 : Int32) (x2 : Int32) (x3 : Int32) (x4 : Int32) (x5 : Int32) (H : Heap) (locs : List Loc) (ls : Array Slot), k25 q x1 x2 x3 x4 x5 = some (o1, o2) → va_P D vwCl (w10 ty ad q) H → va_D A (w10 ty ad q) → va_S A s.heap H locs → lv_has ls 7 [(0, .ref (ad 0)), (1, .int x1), (2, .int x2), (3, .int x3), (4, .int x4), (5, .int x5)] → W p l e ({ frames := 90, cells := 0, slots := 0, locals := 2289 } : Room) s m args below meth c H locs 0 0 (MQ below (va_Qi (fun (r : Int32) (u : va_W) => o1 = r ∧ w10 ty ad o2 = u) (kz_B D ty A) A) args s 0 0 A) (F0 m 25 ls [])) (q : dS) (x1 : Int32) (x2 : Int32) (x3 : Int32) (x4 : Int32) (x5 : Int32) (H : Heap) (locs : List Loc) (ls : Array Slot) (h : zX10_look_64 k25 q x1 x2 x3 x4 x5 = some (o1, o2)) (hP : va_P D vwCl (w10 ty ad q) H) (hD : va_D A (w10 ty ad q)) (hS : va_S A s.heap H locs) (hl : lv_has ls 7 [(0, .ref (ad 0)), (1, .int x1), (2, .int x2), (3, .int x3), (4, .int x4), (5, .int x5)]) : W p l e ({ frames := 90, cells := 0, slots := 0, locals := 2289 } : Room) s m args below meth c H locs 0 0 (MQ below (va_Qi (fun (r : Int32) (u : va_W) => o1 = r ∧ w10 ty ad o2 = u) (kz_B D ty A) A) args s 0 0 A) (F0 m 64 ls []) := by
  have C0 := C
  obtain ⟨hx, hb, hr, hts, hown, hlocks, hml, hK, hN, hE, hA⟩ := C
  unfold zX10_look_64 at h
  refine lv_iinc (v := x5 + 1) (lv' := [(5, .int (x5 + 1)), (0, .ref (ad 0)), (1, .int x1), (2, .int x2), (3, .int x3), (4, .int x4)]) hx hb dX10_look_64 hl (k := 5) rfl rfl (by decide) rfl (fun ls hl => ?_)
  refine lv_goto (tgt := 25) hx hb dX10_look_67 (by decide) ?_
  exact hk25 _ _ _ _ _ _ _ _ _ h hP hD hS (lv_sub hl [1, 2, 3, 4, 5, 0] rfl)
set_option maxHeartbeats 4000000 in
set_option maxRecDepth 100000 in
theorem WX10_look_25b {p : Program} {l : Launch} {e : Env} {s : State} {m : MethodId} {args : Array Value} {below : List Frame} {meth : Method} {c : Code} {D : va_G} {ty : Nat → ClassId} {eo : Nat → Nat} {A : Nat → Prop} {ad : Nat → Nat} {o1 : Int32} {o2 : dS} (C : dc_C p s m args meth c cX10_look (some .int) 7 RX10 wsX10_look D ty eo A) {k25 : dS → Int32 → Int32 → Int32 → Int32 → Int32 → Option (Int32 × dS)} (hk25 : ∀ (q : dS) (x1 : Int32) (x2 : Int32) (x3 : Int32) (x4 : Int32) (x5 : Int32) (H : Heap) (locs : List Loc) (ls : Array Slot), k25 q x1 x2 x3 x4 x5 = some (o1, o2) → va_P D vwCl (w10 ty ad q) H → va_D A (w10 ty ad q) → va_S A s.heap H locs → lv_has ls 7 [(0, .ref (ad 0)), (1, .int x1), (2, .int x2), (3, .int x3), (4, .int x4), (5, .int x5)] → W p l e ({ frames := 90, cells := 0, slots := 0, locals := 2289 } : Room) s m args below meth c H locs 0 0 (MQ below (va_Qi (fun (r : Int32) (u : va_W) => o1 = r ∧ w10 ty ad o2 = u) (kz_B D ty A) A) args s 0 0 A) (F0 m 25 ls [])) (q : dS) (x1 : Int32) (x2 : Int32) (x3 : Int32) (x4 : Int32) (x5 : Int32) (H : Heap) (locs : List Loc) (ls : Array Slot) (h : zX10_look_25b k25 q x1 x2 x3 x4 x5 = some (o1, o2)) (hP : va_P D vwCl (w10 ty ad q) H) (hD : va_D A (w10 ty ad q)) (hS : va_S A s.heap H locs) (hl : lv_has ls 7 [(0, .ref (ad 0)), (1, .int x1), (2, .int x2), (3, .int x3), (4, .int x4), (5, .int x5)]) : W p l e ({ frames := 90, cells := 0, slots := 0, locals := 2289 } : Room) s m args below meth c H locs 0 0 (MQ below (va_Qi (fun (r : Int32) (u : va_W) => o1 = r ∧ w10 ty ad o2 = u) (kz_B D ty A) A) args s 0 0 A) (F0 m 25 ls []) := by
  have C0 := C
  obtain ⟨hx, hb, hr, hts, hown, hlocks, hml, hK, hN, hE, hA⟩ := C
  unfold zX10_look_25b at h
  refine lv_iload hx hb dX10_look_25 (lv_at hl 5 rfl) ?_
  refine lv_aload_n hx hb dX10_look_27 rfl (lv_at hl 0 rfl) ?_
  obtain ⟨r1, q3, h2, h⟩ := dB_some h
  refine dw_ki (va_runV (As := []) (rest := [.int x5]) ⟨hx, hb, hml, hown, hts⟩ (qX10_size l D ty eo _ ad q  r1 q3 h2) (cwV 0 hts gX10_look_X10_size rfl rfl rfl hd_X10_size_v ⟨Nat.le_of_ble_eq_true rfl, Nat.le_of_ble_eq_true rfl⟩) (pv10_10_0 hK hN hE hP hD hS hA) rfl rfl hl.1 rfl (lv_room (Nat.le_of_ble_eq_true rfl)) dX10_look_28 ⟨Nat.le_of_ble_eq_true rfl, Nat.le_of_ble_eq_true rfl⟩) hD hS hA (fun r9 u9 H locs hw hp hd hs => ?_)
  clear hP hD hS
  obtain ⟨rfl, rfl⟩ := hw
  have hP := hp; have hD := hd; have hS := hs; clear hp hd hs
  refine lv_icmp_ge (tgt := 70) hx hb dX10_look_31 (by decide) (fun c9 => ?_) (fun c9 => ?_)
  · rw [if_pos c9] at h
    exact WX10_look_70 C0  _ _ _ _ _ _ _ h hP hD hS (lv_sub hl [1, 3, 4] rfl)
  · rw [if_neg c9] at h
    refine lv_iload_n hx hb dX10_look_34 rfl (lv_at hl 2 rfl) ?_
    refine lv_if_eq (tgt := 70) hx hb dX10_look_35 (by decide) (fun c9 => ?_) (fun c9 => ?_)
    · rw [if_pos c9] at h
      exact WX10_look_70 C0  _ _ _ _ _ _ _ h hP hD hS (lv_sub hl [1, 3, 4] rfl)
    · rw [if_neg c9] at h
      refine lv_aload_n hx hb dX10_look_38 rfl (lv_at hl 0 rfl) ?_
      refine lv_iload_n hx hb dX10_look_39 rfl (lv_at hl 2 rfl) ?_
      refine lv_iload hx hb dX10_look_40 (lv_at hl 5 rfl) ?_
      obtain ⟨r4, q6, h5, h⟩ := dB_some h
      refine dw_ki (va_runV (As := [.int x2, .int x5]) (rest := []) ⟨hx, hb, hml, hown, hts⟩ (qX10_mostAlike l D ty eo _ ad q3 x2 x5 r4 q6 h5) (cwV 2 hts gX10_look_X10_mostAlike rfl rfl rfl hd_X10_mostAlike_v ⟨Nat.le_of_ble_eq_true rfl, Nat.le_of_ble_eq_true rfl⟩) (pv10_10_0 hK hN hE hP hD hS hA) rfl rfl hl.1 rfl (lv_room (Nat.le_of_ble_eq_true rfl)) dX10_look_42 ⟨Nat.le_of_ble_eq_true rfl, Nat.le_of_ble_eq_true rfl⟩) hD hS hA (fun r9 u9 H locs hw hp hd hs => ?_)
      clear hP hD hS
      obtain ⟨rfl, rfl⟩ := hw
      have hP := hp; have hD := hd; have hS := hs; clear hp hd hs
      refine lv_istore (lv' := [(6, .int r4), (0, .ref (ad 0)), (1, .int x1), (2, .int x2), (3, .int x3), (4, .int x4), (5, .int x5)]) hx hb dX10_look_45 hl (by decide) rfl (fun ls hl => ?_)
      refine lv_iload hx hb dX10_look_47 (lv_at hl 0 rfl) ?_
      refine lv_iload hx hb dX10_look_49 (lv_at hl 5 rfl) ?_
      refine lv_icmp_lt (tgt := 57) hx hb dX10_look_51 (by decide) (fun c9 => ?_) (fun c9 => ?_)
      · rw [if_pos c9] at h
        refine lv_iload hx hb dX10_look_57 (lv_at hl 0 rfl) ?_
        refine lv_istore (lv' := [(4, .int r4), (6, .int r4), (0, .ref (ad 0)), (1, .int x1), (2, .int x2), (3, .int x3), (5, .int x5)]) hx hb dX10_look_59 hl (by decide) rfl (fun ls hl => ?_)
        refine lv_iload hx hb dX10_look_61 (lv_at hl 6 rfl) ?_
        refine lv_istore_n (lv' := [(3, .int x5), (4, .int r4), (6, .int r4), (0, .ref (ad 0)), (1, .int x1), (2, .int x2), (5, .int x5)]) hx hb dX10_look_63 rfl hl (by decide) rfl (fun ls hl => ?_)
        exact WX10_look_64 C0 hk25 _ _ _ _ _ _ _ _ _ h hP hD hS (lv_sub hl [3, 4, 5, 0, 1, 6] rfl)
      · rw [if_neg c9] at h
        refine lv_goto (tgt := 64) hx hb dX10_look_54 (by decide) ?_
        exact WX10_look_64 C0 hk25 _ _ _ _ _ _ _ _ _ h hP hD hS (lv_sub hl [1, 2, 3, 4, 5, 6] rfl)
set_option maxHeartbeats 4000000 in
set_option maxRecDepth 100000 in
theorem WX10_look_25 {p : Program} {l : Launch} {e : Env} {s : State} {m : MethodId} {args : Array Value} {below : List Frame} {meth : Method} {c : Code} {D : va_G} {ty : Nat → ClassId} {eo : Nat → Nat} {A : Nat → Prop} {ad : Nat → Nat} {o1 : Int32} {o2 : dS} (C : dc_C p s m args meth c cX10_look (some .int) 7 RX10 wsX10_look D ty eo A)   (n : Nat) (q : dS) (x1 : Int32) (x2 : Int32) (x3 : Int32) (x4 : Int32) (x5 : Int32) (H : Heap) (locs : List Loc) (ls : Array Slot) (h : zX10_look_25  n q x1 x2 x3 x4 x5 = some (o1, o2)) (hP : va_P D vwCl (w10 ty ad q) H) (hD : va_D A (w10 ty ad q)) (hS : va_S A s.heap H locs) (hl : lv_has ls 7 [(0, .ref (ad 0)), (1, .int x1), (2, .int x2), (3, .int x3), (4, .int x4), (5, .int x5)]) : W p l e ({ frames := 90, cells := 0, slots := 0, locals := 2289 } : Room) s m args below meth c H locs 0 0 (MQ below (va_Qi (fun (r : Int32) (u : va_W) => o1 = r ∧ w10 ty ad o2 = u) (kz_B D ty A) A) args s 0 0 A) (F0 m 25 ls []) := by
  exact dFix_W (F := fun k (a : dS × Int32 × Int32 × Int32 × Int32 × Int32) => zX10_look_25b  (fun q x1 x2 x3 x4 x5 => k (q, x1, x2, x3, x4, x5)) a.1 a.2.1 a.2.2.1 a.2.2.2.1 a.2.2.2.2.1 a.2.2.2.2.2) (o := (o1, o2)) (P := fun (a : dS × Int32 × Int32 × Int32 × Int32 × Int32) H locs ls => va_P D vwCl (w10 ty ad a.1) H ∧ va_D A (w10 ty ad a.1) ∧ va_S A s.heap H locs ∧ lv_has ls 7 [(0, .ref (ad 0)), (1, .int a.2.1), (2, .int a.2.2.1), (3, .int a.2.2.2.1), (4, .int a.2.2.2.2.1), (5, .int a.2.2.2.2.2)]) (G := fun H locs ls => W p l e ({ frames := 90, cells := 0, slots := 0, locals := 2289 } : Room) s m args below meth c H locs 0 0 (MQ below (va_Qi (fun (r : Int32) (u : va_W) => o1 = r ∧ w10 ty ad o2 = u) (kz_B D ty A) A) args s 0 0 A) (F0 m 25 ls []))
    (fun k hk a H locs ls h hp => WX10_look_25b C  (fun q x1 x2 x3 x4 x5 H locs ls h h1 h2 h3 h4 => hk (q, x1, x2, x3, x4, x5) H locs ls h ⟨h1, h2, h3, h4⟩) a.1 a.2.1 a.2.2.1 a.2.2.2.1 a.2.2.2.2.1 a.2.2.2.2.2 H locs ls h hp.1 hp.2.1 hp.2.2.1 hp.2.2.2) n (q, x1, x2, x3, x4, x5) H locs ls h ⟨hP, hD, hS, hl⟩
set_option maxHeartbeats 4000000 in
set_option maxRecDepth 100000 in
theorem qX10_look (l : Launch) (D : va_G) (ty : Nat → ClassId) (eo : Nat → Nat) (sz : Nat) (ad : Nat → Nat) (q : dS) (p1 : Int32) (o1 : Int32) (o2 : dS) (h : zX10_look q p1 = some (o1, o2)) : Met l yX10_look wsX10_look ({ frames := 90, cells := 0, slots := 0, locals := 2289 } : Room) (va_Pc [.ref (ad 0), .int p1] (kz_pre D ty eo (w10 ty ad q) sz)) (va_Qi (fun (r : Int32) (u : va_W) => o1 = r ∧ w10 ty ad o2 = u) (kz_B D ty (va_A (w10 ty ad q) sz)) (va_A (w10 ty ad q) sz)) 0 0 (va_A (w10 ty ad q) sz) := by
  refine Met.ofW (cc := cX10_look) (maxL := 7) (ret := (some .int)) (by decide) rfl ?_
  intro p e s m args below meth c s₁ B hml hv
  obtain ⟨rfl, hsz, hP, hK, hD0, hN, hE⟩ := hv
  have hx := B.exec
  have hb := B.bytes
  have hr := B.returns
  have hts := atoms_spec (ws := wsX10_look) B.pre
  have hown : s.vm.findClass RX10 = some m.cls := findClass_of_methodNamed B.named
  have hlocks := B.notSynchronized
  subst hsz
  have hD := hD0.self (sz := s.heap.size)
  generalize hAe : va_A (w10 ty ad q) s.heap.size = A at hD hE ⊢
  have hA : ∀ q : Nat, s.heap.size ≤ q → A q := fun q h => by rw [← hAe]; exact Or.inr h
  clear hAe
  have hS : va_S A s.heap s.heap [] := va_S.rf
  have hl := lv_entry ([.ref (ad 0), .int p1]) (n := 7) (Nat.le_of_ble_eq_true rfl)
  rw [lg_entry_eq]
  generalize (lg_sl ([.ref (ad 0), .int p1]) ++ List.replicate (7 - (lg_sl ([.ref (ad 0), .int p1])).length) Slot.unset).toArray = ls at hl ⊢
  have hl : lv_has ls 7 [(0, .ref (ad 0)), (1, .int p1)] := hl
  have C : dc_C p s m _ meth c cX10_look (some .int) 7 RX10 wsX10_look D ty eo A := ⟨hx, hb, hr, hts, hown, hlocks, hml, hK, hN, hE, hA⟩
  unfold zX10_look at h
  refine lv_iload_n hx hb dX10_look_0 rfl (lv_at hl 1 rfl) ?_
  refine lv_iconst (v := 0) hx hb dX10_look_1 (by decide) ?_
  refine lv_iconst (v := 1) hx hb dX10_look_2 (by decide) ?_
  obtain ⟨r1, h2, h⟩ := dV_some h
  refine dw_ks (va_runS (As := [.int p1, .int 0, .int 1]) (rest := []) ⟨hx, hb, hml, hown, hts⟩ (qX10_lies l D ty eo _ p1 0 1 _ h2) (va_cwS 3 hts gX10_look_X10_lies rfl rfl rfl hd_X10_lies ⟨Nat.le_of_ble_eq_true rfl, Nat.le_of_ble_eq_true rfl⟩) (pvS_0 hK hN hE hP hD hS hA) rfl rfl hl.1 rfl (lv_room (Nat.le_of_ble_eq_true rfl)) dX10_look_3 ⟨Nat.le_of_ble_eq_true rfl, Nat.le_of_ble_eq_true rfl⟩) hP hD hS hA (fun _ _ h9 => h9.2.symm) (fun r9 u9 H locs hw hp hd hs => ?_)
  obtain ⟨rfl, -⟩ := hw
  clear hP hD hS
  have hP := hp; have hD := hd; have hS := hs; clear hp hd hs
  refine lv_if_ne (tgt := 11) hx hb dX10_look_6 (by decide) (fun c9 => ?_) (fun c9 => ?_)
  · rw [if_neg c9] at h
    refine lv_aload_n hx hb dX10_look_11 rfl (lv_at hl 0 rfl) ?_
    obtain ⟨r3, q5, h4, h⟩ := dB_some h
    refine dw_ki (va_runV (As := []) (rest := []) ⟨hx, hb, hml, hown, hts⟩ (qX10_was l D ty eo _ ad q  r3 q5 h4) (cwV 0 hts gX10_look_X10_was rfl rfl rfl hd_X10_was_v ⟨Nat.le_of_ble_eq_true rfl, Nat.le_of_ble_eq_true rfl⟩) (pv10_10_0 hK hN hE hP hD hS hA) rfl rfl hl.1 rfl (lv_room (Nat.le_of_ble_eq_true rfl)) dX10_look_12 ⟨Nat.le_of_ble_eq_true rfl, Nat.le_of_ble_eq_true rfl⟩) hD hS hA (fun r9 u9 H locs hw hp hd hs => ?_)
    clear hP hD hS
    obtain ⟨rfl, rfl⟩ := hw
    have hP := hp; have hD := hd; have hS := hs; clear hp hd hs
    refine lv_istore_n (lv' := [(2, .int r3), (0, .ref (ad 0)), (1, .int p1)]) hx hb dX10_look_15 rfl hl (by decide) rfl (fun ls hl => ?_)
    refine lv_iconst (v := (-1)) hx hb dX10_look_16 (by decide) ?_
    refine lv_istore_n (lv' := [(3, .int (-1)), (2, .int r3), (0, .ref (ad 0)), (1, .int p1)]) hx hb dX10_look_17 rfl hl (by decide) rfl (fun ls hl => ?_)
    refine lv_ldc (v := 1000000) hx hb hown (hts (.constant RX10 188 1000000) f9_wsX10_look_258) dX10_look_18 ?_
    refine lv_istore (lv' := [(4, .int 1000000), (3, .int (-1)), (2, .int r3), (0, .ref (ad 0)), (1, .int p1)]) hx hb dX10_look_20 hl (by decide) rfl (fun ls hl => ?_)
    refine lv_iconst (v := 0) hx hb dX10_look_22 (by decide) ?_
    refine lv_istore (lv' := [(5, .int 0), (4, .int 1000000), (3, .int (-1)), (2, .int r3), (0, .ref (ad 0)), (1, .int p1)]) hx hb dX10_look_23 hl (by decide) rfl (fun ls hl => ?_)
    exact WX10_look_25 C  _ _ _ _ _ _ _ _ _ _ h hP hD hS (lv_sub hl [4, 5, 3, 2, 1, 0] rfl)
  · rw [if_pos c9] at h
    refine lv_iconst (v := (-1)) hx hb dX10_look_9 (by decide) ?_
    cases h
    exact kz_iret hx hb hr hlocks hP hK hD hS dX10_look_10 ⟨rfl, rfl⟩

set_option maxHeartbeats 4000000 in
set_option maxRecDepth 100000 in
theorem WX10_few_151b {p : Program} {l : Launch} {e : Env} {s : State} {m : MethodId} {args : Array Value} {below : List Frame} {meth : Method} {c : Code} {D : va_G} {ty : Nat → ClassId} {eo : Nat → Nat} {A : Nat → Prop} {ad : Nat → Nat} {o1 : Int64} {o2 : dS} (C : dc_C p s m args meth c cX10_few (some .long) 6 RX10 wsX10_few D ty eo A) {k151 : dS → Int32 → Int64 → Int32 → Option (Int64 × dS)} (hk151 : ∀ (q : dS) (x1 : Int32) (x3 : Int64) (x5 : Int32) (H : Heap) (locs : List Loc) (ls : Array Slot), k151 q x1 x3 x5 = some (o1, o2) → va_P D vwCl (w10 ty ad q) H → va_D A (w10 ty ad q) → va_S A s.heap H locs → lv_has ls 6 [(0, .ref (ad 0)), (1, .int x1), (3, .long x3), (5, .int x5)] → W p l e ({ frames := 1, cells := 0, slots := 0, locals := 22 } : Room) s m args below meth c H locs 0 0 (MQ below (va_Ql (fun (r : Int64) (u : va_W) => o1 = r ∧ w10 ty ad o2 = u) (kz_B D ty A) A) args s 0 0 A) (F0 m 151 ls [])) (q : dS) (x1 : Int32) (x3 : Int64) (x5 : Int32) (H : Heap) (locs : List Loc) (ls : Array Slot) (h : zX10_few_151b k151 q x1 x3 x5 = some (o1, o2)) (hP : va_P D vwCl (w10 ty ad q) H) (hD : va_D A (w10 ty ad q)) (hS : va_S A s.heap H locs) (hl : lv_has ls 6 [(0, .ref (ad 0)), (1, .int x1), (3, .long x3), (5, .int x5)]) : W p l e ({ frames := 1, cells := 0, slots := 0, locals := 22 } : Room) s m args below meth c H locs 0 0 (MQ below (va_Ql (fun (r : Int64) (u : va_W) => o1 = r ∧ w10 ty ad o2 = u) (kz_B D ty A) A) args s 0 0 A) (F0 m 151 ls []) := by
  have C0 := C
  obtain ⟨hx, hb, hr, hts, hown, hlocks, hml, hK, hN, hE, hA⟩ := C
  unfold zX10_few_151b at h
  refine lv_iload hx hb dX10_few_151 (lv_at hl 3 rfl) ?_
  refine lv_iload_n hx hb dX10_few_153 rfl (lv_at hl 1 rfl) ?_
  refine lv_icmp_ge (tgt := 173) hx hb dX10_few_154 (by decide) (fun c9 => ?_) (fun c9 => ?_)
  · rw [if_pos c9] at h
    refine lv_lload_n hx hb dX10_few_173 rfl (lv_at hl 2 rfl) ?_
    cases h
    exact kz_lret hx hb hr hlocks hP hK hD hS dX10_few_174 ⟨rfl, rfl⟩
  · rw [if_neg c9] at h
    refine lv_lload_n hx hb dX10_few_157 rfl (lv_at hl 2 rfl) ?_
    refine lv_aload_n hx hb dX10_few_158 rfl (lv_at hl 0 rfl) ?_
    refine va_get (D := D) (ci := 10) (v := .ref (ad 26)) (C := RX10) (T := TX10) (N := 56) hx hb hts u9_wsX10_few_X10 hown hK hP 0 rfl rfl 45 (by decide) (hts (.fieldLink RX10 106 "TurnedFloorsModel" "shares" "[J") f9_wsX10_few_260) (fun _ h9 => h9) rfl dX10_few_159 ?_
    refine lv_iload hx hb dX10_few_162 (lv_at hl 3 rfl) ?_
    obtain ⟨g1, h⟩ := dG_some h
    refine va_lald hx hb hK hP 26 1 rfl rfl (dg_in g1) dX10_few_164 ?_
    obtain ⟨v2, ev2, h⟩ := dL_some h
    refine kz_topl v2 ev2 ?_
    refine lv_ladd hx hb dX10_few_165 ?_
    refine lv_lstore_n (lv' := [(3, .long (x3 + v2 : Int64)), (0, .ref (ad 0)), (1, .int x1), (5, .int x5)]) hx hb dX10_few_166 rfl hl (by decide) rfl (fun ls hl => ?_)
    refine lv_iinc (v := x5 + 1) (lv' := [(5, .int (x5 + 1)), (3, .long (x3 + v2 : Int64)), (0, .ref (ad 0)), (1, .int x1)]) hx hb dX10_few_167 hl (k := 3) rfl rfl (by decide) rfl (fun ls hl => ?_)
    refine lv_goto (tgt := 151) hx hb dX10_few_170 (by decide) ?_
    exact hk151 _ _ _ _ _ _ _ h hP hD hS (lv_sub hl [2, 3, 1, 0] rfl)
set_option maxHeartbeats 4000000 in
set_option maxRecDepth 100000 in
theorem WX10_few_151 {p : Program} {l : Launch} {e : Env} {s : State} {m : MethodId} {args : Array Value} {below : List Frame} {meth : Method} {c : Code} {D : va_G} {ty : Nat → ClassId} {eo : Nat → Nat} {A : Nat → Prop} {ad : Nat → Nat} {o1 : Int64} {o2 : dS} (C : dc_C p s m args meth c cX10_few (some .long) 6 RX10 wsX10_few D ty eo A)   (n : Nat) (q : dS) (x1 : Int32) (x3 : Int64) (x5 : Int32) (H : Heap) (locs : List Loc) (ls : Array Slot) (h : zX10_few_151  n q x1 x3 x5 = some (o1, o2)) (hP : va_P D vwCl (w10 ty ad q) H) (hD : va_D A (w10 ty ad q)) (hS : va_S A s.heap H locs) (hl : lv_has ls 6 [(0, .ref (ad 0)), (1, .int x1), (3, .long x3), (5, .int x5)]) : W p l e ({ frames := 1, cells := 0, slots := 0, locals := 22 } : Room) s m args below meth c H locs 0 0 (MQ below (va_Ql (fun (r : Int64) (u : va_W) => o1 = r ∧ w10 ty ad o2 = u) (kz_B D ty A) A) args s 0 0 A) (F0 m 151 ls []) := by
  exact dFix_W (F := fun k (a : dS × Int32 × Int64 × Int32) => zX10_few_151b  (fun q x1 x3 x5 => k (q, x1, x3, x5)) a.1 a.2.1 a.2.2.1 a.2.2.2) (o := (o1, o2)) (P := fun (a : dS × Int32 × Int64 × Int32) H locs ls => va_P D vwCl (w10 ty ad a.1) H ∧ va_D A (w10 ty ad a.1) ∧ va_S A s.heap H locs ∧ lv_has ls 6 [(0, .ref (ad 0)), (1, .int a.2.1), (3, .long a.2.2.1), (5, .int a.2.2.2)]) (G := fun H locs ls => W p l e ({ frames := 1, cells := 0, slots := 0, locals := 22 } : Room) s m args below meth c H locs 0 0 (MQ below (va_Ql (fun (r : Int64) (u : va_W) => o1 = r ∧ w10 ty ad o2 = u) (kz_B D ty A) A) args s 0 0 A) (F0 m 151 ls []))
    (fun k hk a H locs ls h hp => WX10_few_151b C  (fun q x1 x3 x5 H locs ls h h1 h2 h3 h4 => hk (q, x1, x3, x5) H locs ls h ⟨h1, h2, h3, h4⟩) a.1 a.2.1 a.2.2.1 a.2.2.2 H locs ls h hp.1 hp.2.1 hp.2.2.1 hp.2.2.2) n (q, x1, x3, x5) H locs ls h ⟨hP, hD, hS, hl⟩
set_option maxHeartbeats 4000000 in
set_option maxRecDepth 100000 in
theorem WX10_few_67b {p : Program} {l : Launch} {e : Env} {s : State} {m : MethodId} {args : Array Value} {below : List Frame} {meth : Method} {c : Code} {D : va_G} {ty : Nat → ClassId} {eo : Nat → Nat} {A : Nat → Prop} {ad : Nat → Nat} {o1 : Int64} {o2 : dS} (C : dc_C p s m args meth c cX10_few (some .long) 6 RX10 wsX10_few D ty eo A) {k57 : dS → Int32 → Int32 → Int32 → Option (Int64 × dS)} {k67 : dS → Int32 → Int32 → Int32 → Int32 → Option (Int64 × dS)} (hk57 : ∀ (q : dS) (x1 : Int32) (x2 : Int32) (x3 : Int32) (H : Heap) (locs : List Loc) (ls : Array Slot), k57 q x1 x2 x3 = some (o1, o2) → va_P D vwCl (w10 ty ad q) H → va_D A (w10 ty ad q) → va_S A s.heap H locs → lv_has ls 6 [(0, .ref (ad 0)), (1, .int x1), (2, .int x2), (3, .int x3)] → W p l e ({ frames := 1, cells := 0, slots := 0, locals := 22 } : Room) s m args below meth c H locs 0 0 (MQ below (va_Ql (fun (r : Int64) (u : va_W) => o1 = r ∧ w10 ty ad o2 = u) (kz_B D ty A) A) args s 0 0 A) (F0 m 57 ls [])) (hk67 : ∀ (q : dS) (x1 : Int32) (x2 : Int32) (x3 : Int32) (x4 : Int32) (H : Heap) (locs : List Loc) (ls : Array Slot), k67 q x1 x2 x3 x4 = some (o1, o2) → va_P D vwCl (w10 ty ad q) H → va_D A (w10 ty ad q) → va_S A s.heap H locs → lv_has ls 6 [(0, .ref (ad 0)), (1, .int x1), (2, .int x2), (3, .int x3), (4, .int x4)] → W p l e ({ frames := 1, cells := 0, slots := 0, locals := 22 } : Room) s m args below meth c H locs 0 0 (MQ below (va_Ql (fun (r : Int64) (u : va_W) => o1 = r ∧ w10 ty ad o2 = u) (kz_B D ty A) A) args s 0 0 A) (F0 m 67 ls [])) (q : dS) (x1 : Int32) (x2 : Int32) (x3 : Int32) (x4 : Int32) (H : Heap) (locs : List Loc) (ls : Array Slot) (h : zX10_few_67b k57 k67 q x1 x2 x3 x4 = some (o1, o2)) (hP : va_P D vwCl (w10 ty ad q) H) (hD : va_D A (w10 ty ad q)) (hS : va_S A s.heap H locs) (hl : lv_has ls 6 [(0, .ref (ad 0)), (1, .int x1), (2, .int x2), (3, .int x3), (4, .int x4)]) : W p l e ({ frames := 1, cells := 0, slots := 0, locals := 22 } : Room) s m args below meth c H locs 0 0 (MQ below (va_Ql (fun (r : Int64) (u : va_W) => o1 = r ∧ w10 ty ad o2 = u) (kz_B D ty A) A) args s 0 0 A) (F0 m 67 ls []) := by
  have C0 := C
  obtain ⟨hx, hb, hr, hts, hown, hlocks, hml, hK, hN, hE, hA⟩ := C
  unfold zX10_few_67b at h
  refine lv_iload hx hb dX10_few_67 (lv_at hl 4 rfl) ?_
  refine lv_if_lt (tgt := 140) hx hb dX10_few_69 (by decide) (fun c9 => ?_) (fun c9 => ?_)
  · rw [if_pos c9] at h
    refine lv_iinc (v := x3 + 1) (lv' := [(3, .int (x3 + 1)), (0, .ref (ad 0)), (1, .int x1), (2, .int x2), (4, .int x4)]) hx hb dX10_few_140 hl (k := 3) rfl rfl (by decide) rfl (fun ls hl => ?_)
    refine lv_goto (tgt := 57) hx hb dX10_few_143 (by decide) ?_
    exact hk57 _ _ _ _ _ _ _ h hP hD hS (lv_sub hl [1, 2, 3, 0] rfl)
  · rw [if_neg c9] at h
    refine lv_aload_n hx hb dX10_few_72 rfl (lv_at hl 0 rfl) ?_
    refine va_get (D := D) (ci := 10) (v := .ref (ad 26)) (C := RX10) (T := TX10) (N := 56) hx hb hts u9_wsX10_few_X10 hown hK hP 0 rfl rfl 45 (by decide) (hts (.fieldLink RX10 106 "TurnedFloorsModel" "shares" "[J") f9_wsX10_few_260) (fun _ h9 => h9) rfl dX10_few_73 ?_
    refine lv_iload hx hb dX10_few_76 (lv_at hl 4 rfl) ?_
    refine lv_iconst (v := 1) hx hb dX10_few_78 (by decide) ?_
    refine lv_iadd hx hb dX10_few_79 ?_
    refine lv_dup2_11 hx hb dX10_few_80 rfl rfl ?_
    obtain ⟨g1, h⟩ := dG_some h
    refine va_lald hx hb hK hP 26 1 rfl rfl (dg_in g1) dX10_few_81 ?_
    obtain ⟨v2, ev2, h⟩ := dL_some h
    refine kz_topl v2 ev2 ?_
    refine lv_aload_n hx hb dX10_few_82 rfl (lv_at hl 0 rfl) ?_
    refine va_get (D := D) (ci := 10) (v := .ref (ad 26)) (C := RX10) (T := TX10) (N := 56) hx hb hts u9_wsX10_few_X10 hown hK hP 0 rfl rfl 45 (by decide) (hts (.fieldLink RX10 106 "TurnedFloorsModel" "shares" "[J") f9_wsX10_few_260) (fun _ h9 => h9) rfl dX10_few_83 ?_
    refine lv_iload hx hb dX10_few_86 (lv_at hl 4 rfl) ?_
    obtain ⟨g3, h⟩ := dG_some h
    refine va_lald hx hb hK hP 26 1 rfl rfl (dg_in g3) dX10_few_88 ?_
    obtain ⟨v4, ev4, h⟩ := dL_some h
    refine kz_topl v4 ev4 ?_
    refine lv_aload_n hx hb dX10_few_89 rfl (lv_at hl 0 rfl) ?_
    refine va_get (D := D) (ci := 10) (v := .ref (ad 2)) (C := RX10) (T := TX10) (N := 56) hx hb hts u9_wsX10_few_X10 hown hK hP 0 rfl rfl 2 (by decide) (hts (.fieldLink RX10 28 "TurnedFloorsModel" "kept" "[I") f9_wsX10_few_261) (fun _ h9 => h9) rfl dX10_few_90 ?_
    refine lv_bipush (v := 26) hx hb dX10_few_93 (by decide) ?_
    refine va_iald hx hb hK hP 2 0 rfl rfl (by simp only [vp_in]; decide) dX10_few_95 ?_
    refine kz_topi (q.1 2 26) (congrArg (q.1 2) (by decide +kernel : Int32.toNatClampNeg 26 = 26)) ?_
    refine lv_i2l (v := Int32.toInt64 (q.1 2 26)) hx hb dX10_few_96 rfl ?_
    refine lv_lmul hx hb dX10_few_97 ?_
    refine lv_ldc2 (v := 10) hx hb hown (hts (.constantLong RX10 470 10) f9_wsX10_few_262) dX10_few_98 ?_
    refine lv_ldiv hx hb dX10_few_101 (by decide) ?_
    refine lv_ladd hx hb dX10_few_102 ?_
    obtain ⟨v5, ev5, h⟩ := dL_some h
    refine kz_topl v5 ev5 ?_
    obtain ⟨g6, h⟩ := dG_some h
    refine va_last hx hb hK hP hD hS 26 1 rfl rfl (dg_in g6) dX10_few_103 (fun H locs hp hd hs => ?_)
    obtain ⟨q7, eq7, h⟩ := dL_some h
    refine kz_re (w2 := w10 ty ad q7) hp hd hs (by rw [← eq7]; exact w10_a26 ty ad q (Int32.toNatClampNeg (x4 + 1 : Int32)) v5) ?_
    clear hp hd hs hP hD hS
    intro hP hD hS
    refine lv_aload_n hx hb dX10_few_104 rfl (lv_at hl 0 rfl) ?_
    refine va_get (D := D) (ci := 10) (v := .ref (ad 26)) (C := RX10) (T := TX10) (N := 56) hx hb hts u9_wsX10_few_X10 hown hK hP 0 rfl rfl 45 (by decide) (hts (.fieldLink RX10 106 "TurnedFloorsModel" "shares" "[J") f9_wsX10_few_260) (fun _ h9 => h9) rfl dX10_few_105 ?_
    refine lv_iload hx hb dX10_few_108 (lv_at hl 4 rfl) ?_
    refine lv_aload_n hx hb dX10_few_110 rfl (lv_at hl 0 rfl) ?_
    refine va_get (D := D) (ci := 10) (v := .ref (ad 26)) (C := RX10) (T := TX10) (N := 56) hx hb hts u9_wsX10_few_X10 hown hK hP 0 rfl rfl 45 (by decide) (hts (.fieldLink RX10 106 "TurnedFloorsModel" "shares" "[J") f9_wsX10_few_260) (fun _ h9 => h9) rfl dX10_few_111 ?_
    refine lv_iload hx hb dX10_few_114 (lv_at hl 4 rfl) ?_
    obtain ⟨g8, h⟩ := dG_some h
    refine va_lald hx hb hK hP 26 1 rfl rfl (dg_in g8) dX10_few_116 ?_
    obtain ⟨v9, ev9, h⟩ := dL_some h
    refine kz_topl v9 ev9 ?_
    refine lv_bipush (v := 10) hx hb dX10_few_117 (by decide) ?_
    refine lv_aload_n hx hb dX10_few_119 rfl (lv_at hl 0 rfl) ?_
    refine va_get (D := D) (ci := 10) (v := .ref (ad 2)) (C := RX10) (T := TX10) (N := 56) hx hb hts u9_wsX10_few_X10 hown hK hP 0 rfl rfl 2 (by decide) (hts (.fieldLink RX10 28 "TurnedFloorsModel" "kept" "[I") f9_wsX10_few_261) (fun _ h9 => h9) rfl dX10_few_120 ?_
    refine lv_bipush (v := 26) hx hb dX10_few_123 (by decide) ?_
    refine va_iald hx hb hK hP 2 0 rfl rfl (by simp only [vp_in]; decide) dX10_few_125 ?_
    refine kz_topi (q7.1 2 26) (congrArg (q7.1 2) (by decide +kernel : Int32.toNatClampNeg 26 = 26)) ?_
    refine lv_isub hx hb dX10_few_126 ?_
    refine lv_i2l (v := Int32.toInt64 (10 - (q7.1 2 26) : Int32)) hx hb dX10_few_127 rfl ?_
    refine lv_lmul hx hb dX10_few_128 ?_
    refine lv_ldc2 (v := 10) hx hb hown (hts (.constantLong RX10 470 10) f9_wsX10_few_262) dX10_few_129 ?_
    refine lv_ldiv hx hb dX10_few_132 (by decide) ?_
    obtain ⟨v10, ev10, h⟩ := dL_some h
    refine kz_topl v10 ev10 ?_
    obtain ⟨g11, h⟩ := dG_some h
    refine va_last hx hb hK hP hD hS 26 1 rfl rfl (dg_in g11) dX10_few_133 (fun H locs hp hd hs => ?_)
    obtain ⟨q12, eq12, h⟩ := dL_some h
    refine kz_re (w2 := w10 ty ad q12) hp hd hs (by rw [← eq12]; exact w10_a26 ty ad q7 (Int32.toNatClampNeg x4) v10) ?_
    clear hp hd hs hP hD hS
    intro hP hD hS
    refine lv_iinc (v := x4 + (-1)) (lv' := [(4, .int (x4 + (-1))), (0, .ref (ad 0)), (1, .int x1), (2, .int x2), (3, .int x3)]) hx hb dX10_few_134 hl (k := 4) rfl rfl (by decide) rfl (fun ls hl => ?_)
    refine lv_goto (tgt := 67) hx hb dX10_few_137 (by decide) ?_
    exact hk67 _ _ _ _ _ _ _ _ h hP hD hS (lv_sub hl [1, 2, 3, 4, 0] rfl)
set_option maxHeartbeats 4000000 in
set_option maxRecDepth 100000 in
theorem WX10_few_67 {p : Program} {l : Launch} {e : Env} {s : State} {m : MethodId} {args : Array Value} {below : List Frame} {meth : Method} {c : Code} {D : va_G} {ty : Nat → ClassId} {eo : Nat → Nat} {A : Nat → Prop} {ad : Nat → Nat} {o1 : Int64} {o2 : dS} (C : dc_C p s m args meth c cX10_few (some .long) 6 RX10 wsX10_few D ty eo A) {k57 : dS → Int32 → Int32 → Int32 → Option (Int64 × dS)} (hk57 : ∀ (q : dS) (x1 : Int32) (x2 : Int32) (x3 : Int32) (H : Heap) (locs : List Loc) (ls : Array Slot), k57 q x1 x2 x3 = some (o1, o2) → va_P D vwCl (w10 ty ad q) H → va_D A (w10 ty ad q) → va_S A s.heap H locs → lv_has ls 6 [(0, .ref (ad 0)), (1, .int x1), (2, .int x2), (3, .int x3)] → W p l e ({ frames := 1, cells := 0, slots := 0, locals := 22 } : Room) s m args below meth c H locs 0 0 (MQ below (va_Ql (fun (r : Int64) (u : va_W) => o1 = r ∧ w10 ty ad o2 = u) (kz_B D ty A) A) args s 0 0 A) (F0 m 57 ls [])) (n : Nat) (q : dS) (x1 : Int32) (x2 : Int32) (x3 : Int32) (x4 : Int32) (H : Heap) (locs : List Loc) (ls : Array Slot) (h : zX10_few_67 k57 n q x1 x2 x3 x4 = some (o1, o2)) (hP : va_P D vwCl (w10 ty ad q) H) (hD : va_D A (w10 ty ad q)) (hS : va_S A s.heap H locs) (hl : lv_has ls 6 [(0, .ref (ad 0)), (1, .int x1), (2, .int x2), (3, .int x3), (4, .int x4)]) : W p l e ({ frames := 1, cells := 0, slots := 0, locals := 22 } : Room) s m args below meth c H locs 0 0 (MQ below (va_Ql (fun (r : Int64) (u : va_W) => o1 = r ∧ w10 ty ad o2 = u) (kz_B D ty A) A) args s 0 0 A) (F0 m 67 ls []) := by
  exact dFix_W (F := fun k (a : dS × Int32 × Int32 × Int32 × Int32) => zX10_few_67b k57 (fun q x1 x2 x3 x4 => k (q, x1, x2, x3, x4)) a.1 a.2.1 a.2.2.1 a.2.2.2.1 a.2.2.2.2) (o := (o1, o2)) (P := fun (a : dS × Int32 × Int32 × Int32 × Int32) H locs ls => va_P D vwCl (w10 ty ad a.1) H ∧ va_D A (w10 ty ad a.1) ∧ va_S A s.heap H locs ∧ lv_has ls 6 [(0, .ref (ad 0)), (1, .int a.2.1), (2, .int a.2.2.1), (3, .int a.2.2.2.1), (4, .int a.2.2.2.2)]) (G := fun H locs ls => W p l e ({ frames := 1, cells := 0, slots := 0, locals := 22 } : Room) s m args below meth c H locs 0 0 (MQ below (va_Ql (fun (r : Int64) (u : va_W) => o1 = r ∧ w10 ty ad o2 = u) (kz_B D ty A) A) args s 0 0 A) (F0 m 67 ls []))
    (fun k hk a H locs ls h hp => WX10_few_67b C hk57 (fun q x1 x2 x3 x4 H locs ls h h1 h2 h3 h4 => hk (q, x1, x2, x3, x4) H locs ls h ⟨h1, h2, h3, h4⟩) a.1 a.2.1 a.2.2.1 a.2.2.2.1 a.2.2.2.2 H locs ls h hp.1 hp.2.1 hp.2.2.1 hp.2.2.2) n (q, x1, x2, x3, x4) H locs ls h ⟨hP, hD, hS, hl⟩
set_option maxHeartbeats 4000000 in
set_option maxRecDepth 100000 in
theorem WX10_few_57b {p : Program} {l : Launch} {e : Env} {s : State} {m : MethodId} {args : Array Value} {below : List Frame} {meth : Method} {c : Code} {D : va_G} {ty : Nat → ClassId} {eo : Nat → Nat} {A : Nat → Prop} {ad : Nat → Nat} {o1 : Int64} {o2 : dS} (C : dc_C p s m args meth c cX10_few (some .long) 6 RX10 wsX10_few D ty eo A) {k57 : dS → Int32 → Int32 → Int32 → Option (Int64 × dS)} (hk57 : ∀ (q : dS) (x1 : Int32) (x2 : Int32) (x3 : Int32) (H : Heap) (locs : List Loc) (ls : Array Slot), k57 q x1 x2 x3 = some (o1, o2) → va_P D vwCl (w10 ty ad q) H → va_D A (w10 ty ad q) → va_S A s.heap H locs → lv_has ls 6 [(0, .ref (ad 0)), (1, .int x1), (2, .int x2), (3, .int x3)] → W p l e ({ frames := 1, cells := 0, slots := 0, locals := 22 } : Room) s m args below meth c H locs 0 0 (MQ below (va_Ql (fun (r : Int64) (u : va_W) => o1 = r ∧ w10 ty ad o2 = u) (kz_B D ty A) A) args s 0 0 A) (F0 m 57 ls [])) (q : dS) (x1 : Int32) (x2 : Int32) (x3 : Int32) (H : Heap) (locs : List Loc) (ls : Array Slot) (h : zX10_few_57b k57 q x1 x2 x3 = some (o1, o2)) (hP : va_P D vwCl (w10 ty ad q) H) (hD : va_D A (w10 ty ad q)) (hS : va_S A s.heap H locs) (hl : lv_has ls 6 [(0, .ref (ad 0)), (1, .int x1), (2, .int x2), (3, .int x3)]) : W p l e ({ frames := 1, cells := 0, slots := 0, locals := 22 } : Room) s m args below meth c H locs 0 0 (MQ below (va_Ql (fun (r : Int64) (u : va_W) => o1 = r ∧ w10 ty ad o2 = u) (kz_B D ty A) A) args s 0 0 A) (F0 m 57 ls []) := by
  have C0 := C
  obtain ⟨hx, hb, hr, hts, hown, hlocks, hml, hK, hN, hE, hA⟩ := C
  unfold zX10_few_57b at h
  refine lv_iload_n hx hb dX10_few_57 rfl (lv_at hl 3 rfl) ?_
  refine lv_iload_n hx hb dX10_few_58 rfl (lv_at hl 2 rfl) ?_
  refine lv_icmp_ge (tgt := 146) hx hb dX10_few_59 (by decide) (fun c9 => ?_) (fun c9 => ?_)
  · rw [if_pos c9] at h
    refine lv_lconst (v := 0) hx hb dX10_few_146 (by decide) ?_
    refine lv_lstore_n (lv' := [(3, .long 0), (0, .ref (ad 0)), (1, .int x1), (2, .int x2)]) hx hb dX10_few_147 rfl hl (by decide) rfl (fun ls hl => ?_)
    refine lv_iconst (v := 0) hx hb dX10_few_148 (by decide) ?_
    refine lv_istore (lv' := [(5, .int 0), (3, .long 0), (0, .ref (ad 0)), (1, .int x1), (2, .int x2)]) hx hb dX10_few_149 hl (by decide) rfl (fun ls hl => ?_)
    exact WX10_few_151 C0  _ _ _ _ _ _ _ _ h hP hD hS (lv_sub hl [2, 3, 1, 0] rfl)
  · rw [if_neg c9] at h
    refine lv_iload_n hx hb dX10_few_62 rfl (lv_at hl 1 rfl) ?_
    refine lv_iconst (v := 1) hx hb dX10_few_63 (by decide) ?_
    refine lv_isub hx hb dX10_few_64 ?_
    refine lv_istore (lv' := [(4, .int (x1 - 1 : Int32)), (0, .ref (ad 0)), (1, .int x1), (2, .int x2), (3, .int x3)]) hx hb dX10_few_65 hl (by decide) rfl (fun ls hl => ?_)
    exact WX10_few_67 C0 hk57 _ _ _ _ _ _ _ _ _ h hP hD hS (lv_sub hl [1, 2, 3, 4, 0] rfl)
set_option maxHeartbeats 4000000 in
set_option maxRecDepth 100000 in
theorem WX10_few_57 {p : Program} {l : Launch} {e : Env} {s : State} {m : MethodId} {args : Array Value} {below : List Frame} {meth : Method} {c : Code} {D : va_G} {ty : Nat → ClassId} {eo : Nat → Nat} {A : Nat → Prop} {ad : Nat → Nat} {o1 : Int64} {o2 : dS} (C : dc_C p s m args meth c cX10_few (some .long) 6 RX10 wsX10_few D ty eo A)   (n : Nat) (q : dS) (x1 : Int32) (x2 : Int32) (x3 : Int32) (H : Heap) (locs : List Loc) (ls : Array Slot) (h : zX10_few_57  n q x1 x2 x3 = some (o1, o2)) (hP : va_P D vwCl (w10 ty ad q) H) (hD : va_D A (w10 ty ad q)) (hS : va_S A s.heap H locs) (hl : lv_has ls 6 [(0, .ref (ad 0)), (1, .int x1), (2, .int x2), (3, .int x3)]) : W p l e ({ frames := 1, cells := 0, slots := 0, locals := 22 } : Room) s m args below meth c H locs 0 0 (MQ below (va_Ql (fun (r : Int64) (u : va_W) => o1 = r ∧ w10 ty ad o2 = u) (kz_B D ty A) A) args s 0 0 A) (F0 m 57 ls []) := by
  exact dFix_W (F := fun k (a : dS × Int32 × Int32 × Int32) => zX10_few_57b  (fun q x1 x2 x3 => k (q, x1, x2, x3)) a.1 a.2.1 a.2.2.1 a.2.2.2) (o := (o1, o2)) (P := fun (a : dS × Int32 × Int32 × Int32) H locs ls => va_P D vwCl (w10 ty ad a.1) H ∧ va_D A (w10 ty ad a.1) ∧ va_S A s.heap H locs ∧ lv_has ls 6 [(0, .ref (ad 0)), (1, .int a.2.1), (2, .int a.2.2.1), (3, .int a.2.2.2)]) (G := fun H locs ls => W p l e ({ frames := 1, cells := 0, slots := 0, locals := 22 } : Room) s m args below meth c H locs 0 0 (MQ below (va_Ql (fun (r : Int64) (u : va_W) => o1 = r ∧ w10 ty ad o2 = u) (kz_B D ty A) A) args s 0 0 A) (F0 m 57 ls []))
    (fun k hk a H locs ls h hp => WX10_few_57b C  (fun q x1 x2 x3 H locs ls h h1 h2 h3 h4 => hk (q, x1, x2, x3) H locs ls h ⟨h1, h2, h3, h4⟩) a.1 a.2.1 a.2.2.1 a.2.2.2 H locs ls h hp.1 hp.2.1 hp.2.2.1 hp.2.2.2) n (q, x1, x2, x3) H locs ls h ⟨hP, hD, hS, hl⟩
set_option maxHeartbeats 4000000 in
set_option maxRecDepth 100000 in
theorem WX10_few_48 {p : Program} {l : Launch} {e : Env} {s : State} {m : MethodId} {args : Array Value} {below : List Frame} {meth : Method} {c : Code} {D : va_G} {ty : Nat → ClassId} {eo : Nat → Nat} {A : Nat → Prop} {ad : Nat → Nat} {o1 : Int64} {o2 : dS} (C : dc_C p s m args meth c cX10_few (some .long) 6 RX10 wsX10_few D ty eo A) {k26 : dS → Int32 → Int32 → Int32 → Option (Int64 × dS)} (hk26 : ∀ (q : dS) (x1 : Int32) (x2 : Int32) (x3 : Int32) (H : Heap) (locs : List Loc) (ls : Array Slot), k26 q x1 x2 x3 = some (o1, o2) → va_P D vwCl (w10 ty ad q) H → va_D A (w10 ty ad q) → va_S A s.heap H locs → lv_has ls 6 [(0, .ref (ad 0)), (1, .int x1), (2, .int x2), (3, .int x3)] → W p l e ({ frames := 1, cells := 0, slots := 0, locals := 22 } : Room) s m args below meth c H locs 0 0 (MQ below (va_Ql (fun (r : Int64) (u : va_W) => o1 = r ∧ w10 ty ad o2 = u) (kz_B D ty A) A) args s 0 0 A) (F0 m 26 ls [])) (q : dS) (x1 : Int32) (x2 : Int32) (x3 : Int32) (y0 : Int64) (y1 : Int32) (H : Heap) (locs : List Loc) (ls : Array Slot) (h : zX10_few_48 k26 q x1 x2 x3 y0 y1 = some (o1, o2)) (hP : va_P D vwCl (w10 ty ad q) H) (hD : va_D A (w10 ty ad q)) (hS : va_S A s.heap H locs) (hl : lv_has ls 6 [(0, .ref (ad 0)), (1, .int x1), (2, .int x2), (3, .int x3)]) : W p l e ({ frames := 1, cells := 0, slots := 0, locals := 22 } : Room) s m args below meth c H locs 0 0 (MQ below (va_Ql (fun (r : Int64) (u : va_W) => o1 = r ∧ w10 ty ad o2 = u) (kz_B D ty A) A) args s 0 0 A) (F0 m 48 ls [.long y0, .int y1, .ref (ad 26)]) := by
  have C0 := C
  obtain ⟨hx, hb, hr, hts, hown, hlocks, hml, hK, hN, hE, hA⟩ := C
  unfold zX10_few_48 at h
  obtain ⟨g1, h⟩ := dG_some h
  refine va_last hx hb hK hP hD hS 26 1 rfl rfl (dg_in g1) dX10_few_48 (fun H locs hp hd hs => ?_)
  obtain ⟨q2, eq2, h⟩ := dL_some h
  refine kz_re (w2 := w10 ty ad q2) hp hd hs (by rw [← eq2]; exact w10_a26 ty ad q (Int32.toNatClampNeg y1) y0) ?_
  clear hp hd hs hP hD hS
  intro hP hD hS
  refine lv_iinc (v := x3 + 1) (lv' := [(3, .int (x3 + 1)), (0, .ref (ad 0)), (1, .int x1), (2, .int x2)]) hx hb dX10_few_49 hl (k := 3) rfl rfl (by decide) rfl (fun ls hl => ?_)
  refine lv_goto (tgt := 26) hx hb dX10_few_52 (by decide) ?_
  exact hk26 _ _ _ _ _ _ _ h hP hD hS (lv_sub hl [1, 2, 3, 0] rfl)
set_option maxHeartbeats 4000000 in
set_option maxRecDepth 100000 in
theorem WX10_few_26b {p : Program} {l : Launch} {e : Env} {s : State} {m : MethodId} {args : Array Value} {below : List Frame} {meth : Method} {c : Code} {D : va_G} {ty : Nat → ClassId} {eo : Nat → Nat} {A : Nat → Prop} {ad : Nat → Nat} {o1 : Int64} {o2 : dS} (C : dc_C p s m args meth c cX10_few (some .long) 6 RX10 wsX10_few D ty eo A) {k26 : dS → Int32 → Int32 → Int32 → Option (Int64 × dS)} (hk26 : ∀ (q : dS) (x1 : Int32) (x2 : Int32) (x3 : Int32) (H : Heap) (locs : List Loc) (ls : Array Slot), k26 q x1 x2 x3 = some (o1, o2) → va_P D vwCl (w10 ty ad q) H → va_D A (w10 ty ad q) → va_S A s.heap H locs → lv_has ls 6 [(0, .ref (ad 0)), (1, .int x1), (2, .int x2), (3, .int x3)] → W p l e ({ frames := 1, cells := 0, slots := 0, locals := 22 } : Room) s m args below meth c H locs 0 0 (MQ below (va_Ql (fun (r : Int64) (u : va_W) => o1 = r ∧ w10 ty ad o2 = u) (kz_B D ty A) A) args s 0 0 A) (F0 m 26 ls [])) (q : dS) (x1 : Int32) (x2 : Int32) (x3 : Int32) (H : Heap) (locs : List Loc) (ls : Array Slot) (h : zX10_few_26b k26 q x1 x2 x3 = some (o1, o2)) (hP : va_P D vwCl (w10 ty ad q) H) (hD : va_D A (w10 ty ad q)) (hS : va_S A s.heap H locs) (hl : lv_has ls 6 [(0, .ref (ad 0)), (1, .int x1), (2, .int x2), (3, .int x3)]) : W p l e ({ frames := 1, cells := 0, slots := 0, locals := 22 } : Room) s m args below meth c H locs 0 0 (MQ below (va_Ql (fun (r : Int64) (u : va_W) => o1 = r ∧ w10 ty ad o2 = u) (kz_B D ty A) A) args s 0 0 A) (F0 m 26 ls []) := by
  have C0 := C
  obtain ⟨hx, hb, hr, hts, hown, hlocks, hml, hK, hN, hE, hA⟩ := C
  unfold zX10_few_26b at h
  refine lv_iload_n hx hb dX10_few_26 rfl (lv_at hl 3 rfl) ?_
  refine lv_bipush (v := 20) hx hb dX10_few_27 (by decide) ?_
  refine lv_icmp_gt (tgt := 55) hx hb dX10_few_29 (by decide) (fun c9 => ?_) (fun c9 => ?_)
  · rw [if_pos c9] at h
    refine lv_iconst (v := 0) hx hb dX10_few_55 (by decide) ?_
    refine lv_istore_n (lv' := [(3, .int 0), (0, .ref (ad 0)), (1, .int x1), (2, .int x2)]) hx hb dX10_few_56 rfl hl (by decide) rfl (fun ls hl => ?_)
    exact WX10_few_57 C0  _ _ _ _ _ _ _ _ h hP hD hS (lv_sub hl [1, 2, 3, 0] rfl)
  · rw [if_neg c9] at h
    refine lv_aload_n hx hb dX10_few_32 rfl (lv_at hl 0 rfl) ?_
    refine va_get (D := D) (ci := 10) (v := .ref (ad 26)) (C := RX10) (T := TX10) (N := 56) hx hb hts u9_wsX10_few_X10 hown hK hP 0 rfl rfl 45 (by decide) (hts (.fieldLink RX10 106 "TurnedFloorsModel" "shares" "[J") f9_wsX10_few_260) (fun _ h9 => h9) rfl dX10_few_33 ?_
    refine lv_iload_n hx hb dX10_few_36 rfl (lv_at hl 3 rfl) ?_
    refine lv_iload_n hx hb dX10_few_37 rfl (lv_at hl 3 rfl) ?_
    refine lv_if_ne (tgt := 47) hx hb dX10_few_38 (by decide) (fun c9 => ?_) (fun c9 => ?_)
    · rw [if_neg c9] at h
      refine lv_lconst (v := 0) hx hb dX10_few_47 (by decide) ?_
      exact WX10_few_48 C0 hk26 _ _ _ _ _ _ _ _ _ h hP hD hS (lv_sub hl [0, 1, 2, 3] rfl)
    · rw [if_pos c9] at h
      refine lv_ldc2 (v := 1000000000000) hx hb hown (hts (.constantLong RX10 468 1000000000000) f9_wsX10_few_263) dX10_few_41 ?_
      refine lv_goto (tgt := 48) hx hb dX10_few_44 (by decide) ?_
      exact WX10_few_48 C0 hk26 _ _ _ _ _ _ _ _ _ h hP hD hS (lv_sub hl [0, 1, 2, 3] rfl)
set_option maxHeartbeats 4000000 in
set_option maxRecDepth 100000 in
theorem WX10_few_26 {p : Program} {l : Launch} {e : Env} {s : State} {m : MethodId} {args : Array Value} {below : List Frame} {meth : Method} {c : Code} {D : va_G} {ty : Nat → ClassId} {eo : Nat → Nat} {A : Nat → Prop} {ad : Nat → Nat} {o1 : Int64} {o2 : dS} (C : dc_C p s m args meth c cX10_few (some .long) 6 RX10 wsX10_few D ty eo A)   (n : Nat) (q : dS) (x1 : Int32) (x2 : Int32) (x3 : Int32) (H : Heap) (locs : List Loc) (ls : Array Slot) (h : zX10_few_26  n q x1 x2 x3 = some (o1, o2)) (hP : va_P D vwCl (w10 ty ad q) H) (hD : va_D A (w10 ty ad q)) (hS : va_S A s.heap H locs) (hl : lv_has ls 6 [(0, .ref (ad 0)), (1, .int x1), (2, .int x2), (3, .int x3)]) : W p l e ({ frames := 1, cells := 0, slots := 0, locals := 22 } : Room) s m args below meth c H locs 0 0 (MQ below (va_Ql (fun (r : Int64) (u : va_W) => o1 = r ∧ w10 ty ad o2 = u) (kz_B D ty A) A) args s 0 0 A) (F0 m 26 ls []) := by
  exact dFix_W (F := fun k (a : dS × Int32 × Int32 × Int32) => zX10_few_26b  (fun q x1 x2 x3 => k (q, x1, x2, x3)) a.1 a.2.1 a.2.2.1 a.2.2.2) (o := (o1, o2)) (P := fun (a : dS × Int32 × Int32 × Int32) H locs ls => va_P D vwCl (w10 ty ad a.1) H ∧ va_D A (w10 ty ad a.1) ∧ va_S A s.heap H locs ∧ lv_has ls 6 [(0, .ref (ad 0)), (1, .int a.2.1), (2, .int a.2.2.1), (3, .int a.2.2.2)]) (G := fun H locs ls => W p l e ({ frames := 1, cells := 0, slots := 0, locals := 22 } : Room) s m args below meth c H locs 0 0 (MQ below (va_Ql (fun (r : Int64) (u : va_W) => o1 = r ∧ w10 ty ad o2 = u) (kz_B D ty A) A) args s 0 0 A) (F0 m 26 ls []))
    (fun k hk a H locs ls h hp => WX10_few_26b C  (fun q x1 x2 x3 H locs ls h h1 h2 h3 h4 => hk (q, x1, x2, x3) H locs ls h ⟨h1, h2, h3, h4⟩) a.1 a.2.1 a.2.2.1 a.2.2.2 H locs ls h hp.1 hp.2.1 hp.2.2.1 hp.2.2.2) n (q, x1, x2, x3) H locs ls h ⟨hP, hD, hS, hl⟩
set_option maxHeartbeats 4000000 in
set_option maxRecDepth 100000 in
theorem WX10_few_20 {p : Program} {l : Launch} {e : Env} {s : State} {m : MethodId} {args : Array Value} {below : List Frame} {meth : Method} {c : Code} {D : va_G} {ty : Nat → ClassId} {eo : Nat → Nat} {A : Nat → Prop} {ad : Nat → Nat} {o1 : Int64} {o2 : dS} (C : dc_C p s m args meth c cX10_few (some .long) 6 RX10 wsX10_few D ty eo A)   (q : dS)  (H : Heap) (locs : List Loc) (ls : Array Slot) (h : zX10_few_20  q = some (o1, o2)) (hP : va_P D vwCl (w10 ty ad q) H) (hD : va_D A (w10 ty ad q)) (hS : va_S A s.heap H locs) (hl : lv_has ls 6 []) : W p l e ({ frames := 1, cells := 0, slots := 0, locals := 22 } : Room) s m args below meth c H locs 0 0 (MQ below (va_Ql (fun (r : Int64) (u : va_W) => o1 = r ∧ w10 ty ad o2 = u) (kz_B D ty A) A) args s 0 0 A) (F0 m 20 ls []) := by
  have C0 := C
  obtain ⟨hx, hb, hr, hts, hown, hlocks, hml, hK, hN, hE, hA⟩ := C
  unfold zX10_few_20 at h
  refine lv_ldc2 (v := (-1)) hx hb hown (hts (.constantLong RX10 466 (-1)) f9_wsX10_few_264) dX10_few_20 ?_
  cases h
  exact kz_lret hx hb hr hlocks hP hK hD hS dX10_few_23 ⟨rfl, rfl⟩
set_option maxHeartbeats 4000000 in
set_option maxRecDepth 100000 in
theorem qX10_few (l : Launch) (D : va_G) (ty : Nat → ClassId) (eo : Nat → Nat) (sz : Nat) (ad : Nat → Nat) (q : dS) (p1 : Int32) (p2 : Int32) (o1 : Int64) (o2 : dS) (h : zX10_few q p1 p2 = some (o1, o2)) : Met l yX10_few wsX10_few ({ frames := 1, cells := 0, slots := 0, locals := 22 } : Room) (va_Pc [.ref (ad 0), .int p1, .int p2] (kz_pre D ty eo (w10 ty ad q) sz)) (va_Ql (fun (r : Int64) (u : va_W) => o1 = r ∧ w10 ty ad o2 = u) (kz_B D ty (va_A (w10 ty ad q) sz)) (va_A (w10 ty ad q) sz)) 0 0 (va_A (w10 ty ad q) sz) := by
  refine Met.ofW (cc := cX10_few) (maxL := 6) (ret := (some .long)) (by decide) rfl ?_
  intro p e s m args below meth c s₁ B hml hv
  obtain ⟨rfl, hsz, hP, hK, hD0, hN, hE⟩ := hv
  have hx := B.exec
  have hb := B.bytes
  have hr := B.returns
  have hts := atoms_spec (ws := wsX10_few) B.pre
  have hown : s.vm.findClass RX10 = some m.cls := findClass_of_methodNamed B.named
  have hlocks := B.notSynchronized
  subst hsz
  have hD := hD0.self (sz := s.heap.size)
  generalize hAe : va_A (w10 ty ad q) s.heap.size = A at hD hE ⊢
  have hA : ∀ q : Nat, s.heap.size ≤ q → A q := fun q h => by rw [← hAe]; exact Or.inr h
  clear hAe
  have hS : va_S A s.heap s.heap [] := va_S.rf
  have hl := lv_entry ([.ref (ad 0), .int p1, .int p2]) (n := 6) (Nat.le_of_ble_eq_true rfl)
  rw [lg_entry_eq]
  generalize (lg_sl ([.ref (ad 0), .int p1, .int p2]) ++ List.replicate (6 - (lg_sl ([.ref (ad 0), .int p1, .int p2])).length) Slot.unset).toArray = ls at hl ⊢
  have hl : lv_has ls 6 [(0, .ref (ad 0)), (1, .int p1), (2, .int p2)] := hl
  have C : dc_C p s m _ meth c cX10_few (some .long) 6 RX10 wsX10_few D ty eo A := ⟨hx, hb, hr, hts, hown, hlocks, hml, hK, hN, hE, hA⟩
  unfold zX10_few at h
  refine lv_iload_n hx hb dX10_few_0 rfl (lv_at hl 1 rfl) ?_
  refine lv_iconst (v := 1) hx hb dX10_few_1 (by decide) ?_
  refine lv_bipush (v := 20) hx hb dX10_few_2 (by decide) ?_
  obtain ⟨r1, h2, h⟩ := dV_some h
  refine dw_ks (va_runS (As := [.int p1, .int 1, .int 20]) (rest := []) ⟨hx, hb, hml, hown, hts⟩ (qX10_lies l D ty eo _ p1 1 20 _ h2) (va_cwS 3 hts gX10_few_X10_lies rfl rfl rfl hd_X10_lies ⟨Nat.le_of_ble_eq_true rfl, Nat.le_of_ble_eq_true rfl⟩) (pvS_0 hK hN hE hP hD hS hA) rfl rfl hl.1 rfl (lv_room (Nat.le_of_ble_eq_true rfl)) dX10_few_4 ⟨Nat.le_of_ble_eq_true rfl, Nat.le_of_ble_eq_true rfl⟩) hP hD hS hA (fun _ _ h9 => h9.2.symm) (fun r9 u9 H locs hw hp hd hs => ?_)
  obtain ⟨rfl, -⟩ := hw
  clear hP hD hS
  have hP := hp; have hD := hd; have hS := hs; clear hp hd hs
  refine lv_if_eq (tgt := 20) hx hb dX10_few_7 (by decide) (fun c9 => ?_) (fun c9 => ?_)
  · rw [if_pos c9] at h
    exact WX10_few_20 C  _ _ _ _ h hP hD hS (lv_sub hl [] rfl)
  · rw [if_neg c9] at h
    refine lv_iload_n hx hb dX10_few_10 rfl (lv_at hl 2 rfl) ?_
    refine lv_iconst (v := 0) hx hb dX10_few_11 (by decide) ?_
    refine lv_bipush (v := 99) hx hb dX10_few_12 (by decide) ?_
    obtain ⟨r3, h4, h⟩ := dV_some h
    refine dw_ks (va_runS (As := [.int p2, .int 0, .int 99]) (rest := []) ⟨hx, hb, hml, hown, hts⟩ (qX10_lies l D ty eo _ p2 0 99 _ h4) (va_cwS 3 hts gX10_few_X10_lies rfl rfl rfl hd_X10_lies ⟨Nat.le_of_ble_eq_true rfl, Nat.le_of_ble_eq_true rfl⟩) (pvS_0 hK hN hE hP hD hS hA) rfl rfl hl.1 rfl (lv_room (Nat.le_of_ble_eq_true rfl)) dX10_few_14 ⟨Nat.le_of_ble_eq_true rfl, Nat.le_of_ble_eq_true rfl⟩) hP hD hS hA (fun _ _ h9 => h9.2.symm) (fun r9 u9 H locs hw hp hd hs => ?_)
    obtain ⟨rfl, -⟩ := hw
    clear hP hD hS
    have hP := hp; have hD := hd; have hS := hs; clear hp hd hs
    refine lv_if_ne (tgt := 24) hx hb dX10_few_17 (by decide) (fun c9 => ?_) (fun c9 => ?_)
    · rw [if_neg c9] at h
      refine lv_iconst (v := 0) hx hb dX10_few_24 (by decide) ?_
      refine lv_istore_n (lv' := [(3, .int 0), (0, .ref (ad 0)), (1, .int p1), (2, .int p2)]) hx hb dX10_few_25 rfl hl (by decide) rfl (fun ls hl => ?_)
      exact WX10_few_26 C  _ _ _ _ _ _ _ _ h hP hD hS (lv_sub hl [1, 2, 3, 0] rfl)
    · rw [if_pos c9] at h
      exact WX10_few_20 C  _ _ _ _ h hP hD hS (lv_sub hl [] rfl)

set_option maxHeartbeats 4000000 in
set_option maxRecDepth 100000 in
theorem qX10_stopped (l : Launch) (D : va_G) (ty : Nat → ClassId) (eo : Nat → Nat) (sz : Nat) (ad : Nat → Nat) (q : dS)  (o1 : Int32) (o2 : dS) (h : zX10_stopped q = some (o1, o2)) : Met l yX10_stopped wsX10_stopped ({ frames := 0, cells := 0, slots := 0, locals := 0 } : Room) (va_Pc [.ref (ad 0)] (kz_pre D ty eo (w10 ty ad q) sz)) (va_Qi (fun (r : Int32) (u : va_W) => o1 = r ∧ w10 ty ad o2 = u) (kz_B D ty (va_A (w10 ty ad q) sz)) (va_A (w10 ty ad q) sz)) 0 0 (va_A (w10 ty ad q) sz) := by
  refine Met.ofW (cc := cX10_stopped) (maxL := 1) (ret := (some .int)) (by decide) rfl ?_
  intro p e s m args below meth c s₁ B hml hv
  obtain ⟨rfl, hsz, hP, hK, hD0, hN, hE⟩ := hv
  have hx := B.exec
  have hb := B.bytes
  have hr := B.returns
  have hts := atoms_spec (ws := wsX10_stopped) B.pre
  have hown : s.vm.findClass RX10 = some m.cls := findClass_of_methodNamed B.named
  have hlocks := B.notSynchronized
  subst hsz
  have hD := hD0.self (sz := s.heap.size)
  generalize hAe : va_A (w10 ty ad q) s.heap.size = A at hD hE ⊢
  have hA : ∀ q : Nat, s.heap.size ≤ q → A q := fun q h => by rw [← hAe]; exact Or.inr h
  clear hAe
  have hS : va_S A s.heap s.heap [] := va_S.rf
  have hl := lv_entry ([.ref (ad 0)]) (n := 1) (Nat.le_of_ble_eq_true rfl)
  rw [lg_entry_eq]
  generalize (lg_sl ([.ref (ad 0)]) ++ List.replicate (1 - (lg_sl ([.ref (ad 0)])).length) Slot.unset).toArray = ls at hl ⊢
  have hl : lv_has ls 1 [(0, .ref (ad 0))] := hl
  have C : dc_C p s m _ meth c cX10_stopped (some .int) 1 RX10 wsX10_stopped D ty eo A := ⟨hx, hb, hr, hts, hown, hlocks, hml, hK, hN, hE, hA⟩
  unfold zX10_stopped at h
  refine lv_aload_n hx hb dX10_stopped_0 rfl (lv_at hl 0 rfl) ?_
  refine va_get (D := D) (ci := 10) (v := .int (q.1 0 46)) (C := RX10) (T := TX10) (N := 56) hx hb hts u9_wsX10_stopped_X10 hown hK hP 0 rfl rfl 46 (by decide) (hts (.fieldLink RX10 110 "TurnedFloorsModel" "stopped0" "I") f9_wsX10_stopped_266) (fun _ h9 => h9) rfl dX10_stopped_1 ?_
  cases h
  exact kz_iret hx hb hr hlocks hP hK hD hS dX10_stopped_4 ⟨rfl, rfl⟩

set_option maxHeartbeats 4000000 in
set_option maxRecDepth 100000 in
theorem WX10_goesAlong_174 {p : Program} {l : Launch} {e : Env} {s : State} {m : MethodId} {args : Array Value} {below : List Frame} {meth : Method} {c : Code} {D : va_G} {ty : Nat → ClassId} {eo : Nat → Nat} {A : Nat → Prop} {ad : Nat → Nat} {o2 : dS} (C : dc_C p s m args meth c cX10_goesAlong none 3 RX10 wsX10_goesAlong D ty eo A)   (q : dS) (y0 : Int32) (H : Heap) (locs : List Loc) (ls : Array Slot) (h : zX10_goesAlong_174  q y0 = some o2) (hP : va_P D vwCl (w10 ty ad q) H) (hD : va_D A (w10 ty ad q)) (hS : va_S A s.heap H locs) (hl : lv_has ls 3 [(0, .ref (ad 0))]) : W p l e ({ frames := 85, cells := 0, slots := 0, locals := 2173 } : Room) s m args below meth c H locs 0 0 (MQ below (va_Qv (fun (u : va_W) => w10 ty ad o2 = u) (kz_B D ty A) A) args s 0 0 A) (F0 m 174 ls [.int y0, .ref (ad 0)]) := by
  have C0 := C
  obtain ⟨hx, hb, hr, hts, hown, hlocks, hml, hK, hN, hE, hA⟩ := C
  unfold zX10_goesAlong_174 at h
  obtain ⟨g1, h⟩ := dG_some h
  refine va_put (D := D) (ci := 10) (v := .int y0) (ty := .boolean) (C := RX10) (T := TX10) (N := 56) hx hb hts u9_wsX10_goesAlong_X10 tyX10 tyX10_ok nmX10 hown hK hP hD hS 0 rfl rfl 51 (by decide) (hts (.fieldLink RX10 497 "TurnedFloorsModel" "testIs" "Z") f9_wsX10_goesAlong_268) (fun _ h9 => h9) rfl (by decide +kernel) (dbl_nar g1) (dbl_fit g1) (Nat.le_of_ble_eq_true rfl) dX10_goesAlong_174 (fun H locs hp hd hs => ?_)
  obtain ⟨q2, eq2, h⟩ := dL_some h
  refine kz_re (w2 := w10 ty ad q2) hp hd hs (by rw [← eq2]; exact w10_f51 ty ad q y0) ?_
  clear hp hd hs hP hD hS
  intro hP hD hS
  refine lv_aload_n hx hb dX10_goesAlong_177 rfl (lv_at hl 0 rfl) ?_
  refine lv_dup hx hb dX10_goesAlong_178 rfl ?_
  refine va_get (D := D) (ci := 10) (v := .int (q2.1 0 22)) (C := RX10) (T := TX10) (N := 56) hx hb hts u9_wsX10_goesAlong_X10 hown hK hP 0 rfl rfl 22 (by decide) (hts (.fieldLink RX10 278 "TurnedFloorsModel" "go" "I") f9_wsX10_goesAlong_269) (fun _ h9 => h9) rfl dX10_goesAlong_179 ?_
  refine lv_iconst (v := 1) hx hb dX10_goesAlong_182 (by decide) ?_
  refine lv_iadd hx hb dX10_goesAlong_183 ?_
  refine va_put (D := D) (ci := 10) (v := .int ((q2.1 0 22) + 1 : Int32)) (ty := .int) (C := RX10) (T := TX10) (N := 56) hx hb hts u9_wsX10_goesAlong_X10 tyX10 tyX10_ok nmX10 hown hK hP hD hS 0 rfl rfl 22 (by decide) (hts (.fieldLink RX10 278 "TurnedFloorsModel" "go" "I") f9_wsX10_goesAlong_269) (fun _ h9 => h9) rfl (by decide +kernel) rfl rfl (Nat.le_of_ble_eq_true rfl) dX10_goesAlong_184 (fun H locs hp hd hs => ?_)
  obtain ⟨q3, eq3, h⟩ := dL_some h
  refine kz_re (w2 := w10 ty ad q3) hp hd hs (by rw [← eq3]; exact w10_f22 ty ad q2 ((q2.1 0 22) + 1 : Int32)) ?_
  clear hp hd hs hP hD hS
  intro hP hD hS
  cases h
  exact kz_vret hx hb hr hlocks hP hK hD hS dX10_goesAlong_187 rfl
set_option maxHeartbeats 4000000 in
set_option maxRecDepth 100000 in
theorem WX10_goesAlong_173 {p : Program} {l : Launch} {e : Env} {s : State} {m : MethodId} {args : Array Value} {below : List Frame} {meth : Method} {c : Code} {D : va_G} {ty : Nat → ClassId} {eo : Nat → Nat} {A : Nat → Prop} {ad : Nat → Nat} {o2 : dS} (C : dc_C p s m args meth c cX10_goesAlong none 3 RX10 wsX10_goesAlong D ty eo A)   (q : dS)  (H : Heap) (locs : List Loc) (ls : Array Slot) (h : zX10_goesAlong_173  q = some o2) (hP : va_P D vwCl (w10 ty ad q) H) (hD : va_D A (w10 ty ad q)) (hS : va_S A s.heap H locs) (hl : lv_has ls 3 [(0, .ref (ad 0))]) : W p l e ({ frames := 85, cells := 0, slots := 0, locals := 2173 } : Room) s m args below meth c H locs 0 0 (MQ below (va_Qv (fun (u : va_W) => w10 ty ad o2 = u) (kz_B D ty A) A) args s 0 0 A) (F0 m 173 ls [.ref (ad 0)]) := by
  have C0 := C
  obtain ⟨hx, hb, hr, hts, hown, hlocks, hml, hK, hN, hE, hA⟩ := C
  unfold zX10_goesAlong_173 at h
  refine lv_iconst (v := 0) hx hb dX10_goesAlong_173 (by decide) ?_
  exact WX10_goesAlong_174 C0  _ _ _ _ _ h hP hD hS (lv_sub hl [0] rfl)
set_option maxHeartbeats 4000000 in
set_option maxRecDepth 100000 in
theorem WX10_goesAlong_151 {p : Program} {l : Launch} {e : Env} {s : State} {m : MethodId} {args : Array Value} {below : List Frame} {meth : Method} {c : Code} {D : va_G} {ty : Nat → ClassId} {eo : Nat → Nat} {A : Nat → Prop} {ad : Nat → Nat} {o2 : dS} (C : dc_C p s m args meth c cX10_goesAlong none 3 RX10 wsX10_goesAlong D ty eo A)   (q : dS) (y0 : Int32) (H : Heap) (locs : List Loc) (ls : Array Slot) (h : zX10_goesAlong_151  q y0 = some o2) (hP : va_P D vwCl (w10 ty ad q) H) (hD : va_D A (w10 ty ad q)) (hS : va_S A s.heap H locs) (hl : lv_has ls 3 [(0, .ref (ad 0))]) : W p l e ({ frames := 85, cells := 0, slots := 0, locals := 2173 } : Room) s m args below meth c H locs 0 0 (MQ below (va_Qv (fun (u : va_W) => w10 ty ad o2 = u) (kz_B D ty A) A) args s 0 0 A) (F0 m 151 ls [.int y0, .ref (ad 0)]) := by
  have C0 := C
  obtain ⟨hx, hb, hr, hts, hown, hlocks, hml, hK, hN, hE, hA⟩ := C
  unfold zX10_goesAlong_151 at h
  obtain ⟨g1, h⟩ := dG_some h
  refine va_put (D := D) (ci := 10) (v := .int y0) (ty := .boolean) (C := RX10) (T := TX10) (N := 56) hx hb hts u9_wsX10_goesAlong_X10 tyX10 tyX10_ok nmX10 hown hK hP hD hS 0 rfl rfl 51 (by decide) (hts (.fieldLink RX10 497 "TurnedFloorsModel" "testIs" "Z") f9_wsX10_goesAlong_268) (fun _ h9 => h9) rfl (by decide +kernel) (dbl_nar g1) (dbl_fit g1) (Nat.le_of_ble_eq_true rfl) dX10_goesAlong_151 (fun H locs hp hd hs => ?_)
  obtain ⟨q2, eq2, h⟩ := dL_some h
  refine kz_re (w2 := w10 ty ad q2) hp hd hs (by rw [← eq2]; exact w10_f51 ty ad q y0) ?_
  clear hp hd hs hP hD hS
  intro hP hD hS
  refine lv_aload_n hx hb dX10_goesAlong_154 rfl (lv_at hl 0 rfl) ?_
  refine lv_aload_n hx hb dX10_goesAlong_155 rfl (lv_at hl 0 rfl) ?_
  refine va_get (D := D) (ci := 10) (v := .int (q2.1 0 51)) (C := RX10) (T := TX10) (N := 56) hx hb hts u9_wsX10_goesAlong_X10 hown hK hP 0 rfl rfl 51 (by decide) (hts (.fieldLink RX10 497 "TurnedFloorsModel" "testIs" "Z") f9_wsX10_goesAlong_268) (fun _ h9 => h9) rfl dX10_goesAlong_156 ?_
  refine lv_if_eq (tgt := 173) hx hb dX10_goesAlong_159 (by decide) (fun c9 => ?_) (fun c9 => ?_)
  · rw [if_pos c9] at h
    exact WX10_goesAlong_173 C0  _ _ _ _ h hP hD hS (lv_sub hl [0] rfl)
  · rw [if_neg c9] at h
    refine lv_aload_n hx hb dX10_goesAlong_162 rfl (lv_at hl 0 rfl) ?_
    refine va_get (D := D) (ci := 10) (v := .int (q2.1 0 24)) (C := RX10) (T := TX10) (N := 56) hx hb hts u9_wsX10_goesAlong_X10 hown hK hP 0 rfl rfl 24 (by decide) (hts (.fieldLink RX10 288 "TurnedFloorsModel" "broken" "Z") f9_wsX10_goesAlong_270) (fun _ h9 => h9) rfl dX10_goesAlong_163 ?_
    refine lv_if_ne (tgt := 173) hx hb dX10_goesAlong_166 (by decide) (fun c9 => ?_) (fun c9 => ?_)
    · rw [if_neg c9] at h
      exact WX10_goesAlong_173 C0  _ _ _ _ h hP hD hS (lv_sub hl [0] rfl)
    · rw [if_pos c9] at h
      refine lv_iconst (v := 1) hx hb dX10_goesAlong_169 (by decide) ?_
      refine lv_goto (tgt := 174) hx hb dX10_goesAlong_170 (by decide) ?_
      exact WX10_goesAlong_174 C0  _ _ _ _ _ h hP hD hS (lv_sub hl [0] rfl)
set_option maxHeartbeats 4000000 in
set_option maxRecDepth 100000 in
theorem WX10_goesAlong_146 {p : Program} {l : Launch} {e : Env} {s : State} {m : MethodId} {args : Array Value} {below : List Frame} {meth : Method} {c : Code} {D : va_G} {ty : Nat → ClassId} {eo : Nat → Nat} {A : Nat → Prop} {ad : Nat → Nat} {o2 : dS} (C : dc_C p s m args meth c cX10_goesAlong none 3 RX10 wsX10_goesAlong D ty eo A)   (q : dS)  (H : Heap) (locs : List Loc) (ls : Array Slot) (h : zX10_goesAlong_146  q = some o2) (hP : va_P D vwCl (w10 ty ad q) H) (hD : va_D A (w10 ty ad q)) (hS : va_S A s.heap H locs) (hl : lv_has ls 3 [(0, .ref (ad 0))]) : W p l e ({ frames := 85, cells := 0, slots := 0, locals := 2173 } : Room) s m args below meth c H locs 0 0 (MQ below (va_Qv (fun (u : va_W) => w10 ty ad o2 = u) (kz_B D ty A) A) args s 0 0 A) (F0 m 146 ls [.ref (ad 0)]) := by
  have C0 := C
  obtain ⟨hx, hb, hr, hts, hown, hlocks, hml, hK, hN, hE, hA⟩ := C
  unfold zX10_goesAlong_146 at h
  refine lv_iconst (v := 1) hx hb dX10_goesAlong_146 (by decide) ?_
  refine lv_goto (tgt := 151) hx hb dX10_goesAlong_147 (by decide) ?_
  exact WX10_goesAlong_151 C0  _ _ _ _ _ h hP hD hS (lv_sub hl [0] rfl)
set_option maxHeartbeats 4000000 in
set_option maxRecDepth 100000 in
theorem WX10_goesAlong_124 {p : Program} {l : Launch} {e : Env} {s : State} {m : MethodId} {args : Array Value} {below : List Frame} {meth : Method} {c : Code} {D : va_G} {ty : Nat → ClassId} {eo : Nat → Nat} {A : Nat → Prop} {ad : Nat → Nat} {o2 : dS} (C : dc_C p s m args meth c cX10_goesAlong none 3 RX10 wsX10_goesAlong D ty eo A)   (q : dS) (x2 : Int32) (H : Heap) (locs : List Loc) (ls : Array Slot) (h : zX10_goesAlong_124  q x2 = some o2) (hP : va_P D vwCl (w10 ty ad q) H) (hD : va_D A (w10 ty ad q)) (hS : va_S A s.heap H locs) (hl : lv_has ls 3 [(0, .ref (ad 0)), (2, .int x2)]) : W p l e ({ frames := 85, cells := 0, slots := 0, locals := 2173 } : Room) s m args below meth c H locs 0 0 (MQ below (va_Qv (fun (u : va_W) => w10 ty ad o2 = u) (kz_B D ty A) A) args s 0 0 A) (F0 m 124 ls []) := by
  have C0 := C
  obtain ⟨hx, hb, hr, hts, hown, hlocks, hml, hK, hN, hE, hA⟩ := C
  unfold zX10_goesAlong_124 at h
  refine lv_aload_n hx hb dX10_goesAlong_124 rfl (lv_at hl 0 rfl) ?_
  refine lv_iconst (v := 0) hx hb dX10_goesAlong_125 (by decide) ?_
  refine va_put (D := D) (ci := 10) (v := .int 0) (ty := .boolean) (C := RX10) (T := TX10) (N := 56) hx hb hts u9_wsX10_goesAlong_X10 tyX10 tyX10_ok nmX10 hown hK hP hD hS 0 rfl rfl 24 (by decide) (hts (.fieldLink RX10 288 "TurnedFloorsModel" "broken" "Z") f9_wsX10_goesAlong_270) (fun _ h9 => h9) rfl (by decide +kernel) rfl rfl (Nat.le_of_ble_eq_true rfl) dX10_goesAlong_126 (fun H locs hp hd hs => ?_)
  obtain ⟨q1, eq1, h⟩ := dL_some h
  refine kz_re (w2 := w10 ty ad q1) hp hd hs (by rw [← eq1]; exact w10_f24 ty ad q 0) ?_
  clear hp hd hs hP hD hS
  intro hP hD hS
  refine lv_aload_n hx hb dX10_goesAlong_129 rfl (lv_at hl 0 rfl) ?_
  refine lv_aload_n hx hb dX10_goesAlong_130 rfl (lv_at hl 0 rfl) ?_
  refine lv_iconst (v := 4) hx hb dX10_goesAlong_131 (by decide) ?_
  obtain ⟨r2, q4, h3, h⟩ := dB_some h
  refine dw_ki (va_runV (As := [.int 4]) (rest := [.ref (ad 0)]) ⟨hx, hb, hml, hown, hts⟩ (qX10_passes0 l D ty eo _ ad q1 4 r2 q4 h3) (cwV 1 hts gX10_goesAlong_X10_passes0 rfl rfl rfl hd_X10_passes0_v ⟨Nat.le_of_ble_eq_true rfl, Nat.le_of_ble_eq_true rfl⟩) (pv10_10_0 hK hN hE hP hD hS hA) rfl rfl hl.1 rfl (lv_room (Nat.le_of_ble_eq_true rfl)) dX10_goesAlong_132 ⟨Nat.le_of_ble_eq_true rfl, Nat.le_of_ble_eq_true rfl⟩) hD hS hA (fun r9 u9 H locs hw hp hd hs => ?_)
  clear hP hD hS
  obtain ⟨rfl, rfl⟩ := hw
  have hP := hp; have hD := hd; have hS := hs; clear hp hd hs
  refine lv_if_eq (tgt := 146) hx hb dX10_goesAlong_135 (by decide) (fun c9 => ?_) (fun c9 => ?_)
  · rw [if_pos c9] at h
    exact WX10_goesAlong_146 C0  _ _ _ _ h hP hD hS (lv_sub hl [0] rfl)
  · rw [if_neg c9] at h
    refine lv_aload_n hx hb dX10_goesAlong_138 rfl (lv_at hl 0 rfl) ?_
    refine lv_iload_n hx hb dX10_goesAlong_139 rfl (lv_at hl 1 rfl) ?_
    obtain ⟨r5, q7, h6, h⟩ := dB_some h
    refine dw_ki (va_runV (As := [.int x2]) (rest := [.ref (ad 0)]) ⟨hx, hb, hml, hown, hts⟩ (qX10_testOf l D ty eo _ ad 10 q4 x2 r5 q7 h6) (cwV 1 hts gX10_goesAlong_X10_testOf rfl rfl rfl hd_X10_testOf_v ⟨Nat.le_of_ble_eq_true rfl, Nat.le_of_ble_eq_true rfl⟩) (pv10_10_0 hK hN hE hP hD hS hA) rfl rfl hl.1 rfl (lv_room (Nat.le_of_ble_eq_true rfl)) dX10_goesAlong_140 ⟨Nat.le_of_ble_eq_true rfl, Nat.le_of_ble_eq_true rfl⟩) hD hS hA (fun r9 u9 H locs hw hp hd hs => ?_)
    clear hP hD hS
    obtain ⟨rfl, rfl⟩ := hw
    have hP := hp; have hD := hd; have hS := hs; clear hp hd hs
    refine lv_if_eq (tgt := 150) hx hb dX10_goesAlong_143 (by decide) (fun c9 => ?_) (fun c9 => ?_)
    · rw [if_pos c9] at h
      refine lv_iconst (v := 0) hx hb dX10_goesAlong_150 (by decide) ?_
      exact WX10_goesAlong_151 C0  _ _ _ _ _ h hP hD hS (lv_sub hl [0] rfl)
    · rw [if_neg c9] at h
      exact WX10_goesAlong_146 C0  _ _ _ _ h hP hD hS (lv_sub hl [0] rfl)
set_option maxHeartbeats 4000000 in
set_option maxRecDepth 100000 in
theorem WX10_goesAlong_80 {p : Program} {l : Launch} {e : Env} {s : State} {m : MethodId} {args : Array Value} {below : List Frame} {meth : Method} {c : Code} {D : va_G} {ty : Nat → ClassId} {eo : Nat → Nat} {A : Nat → Prop} {ad : Nat → Nat} {o2 : dS} (C : dc_C p s m args meth c cX10_goesAlong none 3 RX10 wsX10_goesAlong D ty eo A)   (q : dS) (x2 : Int32) (y0 : Int32) (H : Heap) (locs : List Loc) (ls : Array Slot) (h : zX10_goesAlong_80  q x2 y0 = some o2) (hP : va_P D vwCl (w10 ty ad q) H) (hD : va_D A (w10 ty ad q)) (hS : va_S A s.heap H locs) (hl : lv_has ls 3 [(0, .ref (ad 0)), (2, .int x2)]) : W p l e ({ frames := 85, cells := 0, slots := 0, locals := 2173 } : Room) s m args below meth c H locs 0 0 (MQ below (va_Qv (fun (u : va_W) => w10 ty ad o2 = u) (kz_B D ty A) A) args s 0 0 A) (F0 m 80 ls [.int y0, .ref (ad 0)]) := by
  have C0 := C
  obtain ⟨hx, hb, hr, hts, hown, hlocks, hml, hK, hN, hE, hA⟩ := C
  unfold zX10_goesAlong_80 at h
  obtain ⟨g1, h⟩ := dG_some h
  refine va_put (D := D) (ci := 10) (v := .int y0) (ty := .boolean) (C := RX10) (T := TX10) (N := 56) hx hb hts u9_wsX10_goesAlong_X10 tyX10 tyX10_ok nmX10 hown hK hP hD hS 0 rfl rfl 50 (by decide) (hts (.fieldLink RX10 491 "TurnedFloorsModel" "sumsAre" "Z") f9_wsX10_goesAlong_271) (fun _ h9 => h9) rfl (by decide +kernel) (dbl_nar g1) (dbl_fit g1) (Nat.le_of_ble_eq_true rfl) dX10_goesAlong_80 (fun H locs hp hd hs => ?_)
  obtain ⟨q2, eq2, h⟩ := dL_some h
  refine kz_re (w2 := w10 ty ad q2) hp hd hs (by rw [← eq2]; exact w10_f50 ty ad q y0) ?_
  clear hp hd hs hP hD hS
  intro hP hD hS
  refine lv_aload_n hx hb dX10_goesAlong_83 rfl (lv_at hl 0 rfl) ?_
  refine lv_iconst (v := 1) hx hb dX10_goesAlong_84 (by decide) ?_
  refine va_put (D := D) (ci := 10) (v := .int 1) (ty := .int) (C := RX10) (T := TX10) (N := 56) hx hb hts u9_wsX10_goesAlong_X10 tyX10 tyX10_ok nmX10 hown hK hP hD hS 0 rfl rfl 48 (by decide) (hts (.fieldLink RX10 494 "TurnedFloorsModel" "howOften" "I") f9_wsX10_goesAlong_272) (fun _ h9 => h9) rfl (by decide +kernel) rfl rfl (Nat.le_of_ble_eq_true rfl) dX10_goesAlong_85 (fun H locs hp hd hs => ?_)
  obtain ⟨q3, eq3, h⟩ := dL_some h
  refine kz_re (w2 := w10 ty ad q3) hp hd hs (by rw [← eq3]; exact w10_f48 ty ad q2 1) ?_
  clear hp hd hs hP hD hS
  intro hP hD hS
  refine lv_aload_n hx hb dX10_goesAlong_88 rfl (lv_at hl 0 rfl) ?_
  refine lv_bipush (v := 26) hx hb dX10_goesAlong_89 (by decide) ?_
  obtain ⟨r4, q6, h5, h⟩ := dB_some h
  refine dw_ki (va_runV (As := [.int 26]) (rest := []) ⟨hx, hb, hml, hown, hts⟩ (qX10_passes0 l D ty eo _ ad q3 26 r4 q6 h5) (cwV 1 hts gX10_goesAlong_X10_passes0 rfl rfl rfl hd_X10_passes0_v ⟨Nat.le_of_ble_eq_true rfl, Nat.le_of_ble_eq_true rfl⟩) (pv10_10_0 hK hN hE hP hD hS hA) rfl rfl hl.1 rfl (lv_room (Nat.le_of_ble_eq_true rfl)) dX10_goesAlong_91 ⟨Nat.le_of_ble_eq_true rfl, Nat.le_of_ble_eq_true rfl⟩) hD hS hA (fun r9 u9 H locs hw hp hd hs => ?_)
  clear hP hD hS
  obtain ⟨rfl, rfl⟩ := hw
  have hP := hp; have hD := hd; have hS := hs; clear hp hd hs
  refine lv_if_eq (tgt := 124) hx hb dX10_goesAlong_94 (by decide) (fun c9 => ?_) (fun c9 => ?_)
  · rw [if_pos c9] at h
    exact WX10_goesAlong_124 C0  _ _ _ _ _ h hP hD hS (lv_sub hl [0, 1] rfl)
  · rw [if_neg c9] at h
    refine lv_aload_n hx hb dX10_goesAlong_97 rfl (lv_at hl 0 rfl) ?_
    refine lv_aload_n hx hb dX10_goesAlong_98 rfl (lv_at hl 0 rfl) ?_
    refine va_get (D := D) (ci := 10) (v := .ref (ad 2)) (C := RX10) (T := TX10) (N := 56) hx hb hts u9_wsX10_goesAlong_X10 hown hK hP 0 rfl rfl 2 (by decide) (hts (.fieldLink RX10 28 "TurnedFloorsModel" "kept" "[I") f9_wsX10_goesAlong_273) (fun _ h9 => h9) rfl dX10_goesAlong_99 ?_
    refine lv_sipush (v := 2840) hx hb dX10_goesAlong_102 (by decide) ?_
    refine lv_aload_n hx hb dX10_goesAlong_105 rfl (lv_at hl 0 rfl) ?_
    refine va_get (D := D) (ci := 10) (v := .int (q6.1 0 22)) (C := RX10) (T := TX10) (N := 56) hx hb hts u9_wsX10_goesAlong_X10 hown hK hP 0 rfl rfl 22 (by decide) (hts (.fieldLink RX10 278 "TurnedFloorsModel" "go" "I") f9_wsX10_goesAlong_269) (fun _ h9 => h9) rfl dX10_goesAlong_106 ?_
    refine lv_iadd hx hb dX10_goesAlong_109 ?_
    obtain ⟨g7, h⟩ := dG_some h
    refine va_iald hx hb hK hP 2 0 rfl rfl (dg_in g7) dX10_goesAlong_110 ?_
    obtain ⟨v8, ev8, h⟩ := dL_some h
    refine kz_topi v8 ev8 ?_
    refine va_put (D := D) (ci := 10) (v := .int v8) (ty := .int) (C := RX10) (T := TX10) (N := 56) hx hb hts u9_wsX10_goesAlong_X10 tyX10 tyX10_ok nmX10 hown hK hP hD hS 0 rfl rfl 48 (by decide) (hts (.fieldLink RX10 494 "TurnedFloorsModel" "howOften" "I") f9_wsX10_goesAlong_272) (fun _ h9 => h9) rfl (by decide +kernel) rfl rfl (Nat.le_of_ble_eq_true rfl) dX10_goesAlong_111 (fun H locs hp hd hs => ?_)
    obtain ⟨q9, eq9, h⟩ := dL_some h
    refine kz_re (w2 := w10 ty ad q9) hp hd hs (by rw [← eq9]; exact w10_f48 ty ad q6 v8) ?_
    clear hp hd hs hP hD hS
    intro hP hD hS
    refine lv_aload_n hx hb dX10_goesAlong_114 rfl (lv_at hl 0 rfl) ?_
    refine lv_dup hx hb dX10_goesAlong_115 rfl ?_
    refine va_get (D := D) (ci := 10) (v := .int (q9.1 0 22)) (C := RX10) (T := TX10) (N := 56) hx hb hts u9_wsX10_goesAlong_X10 hown hK hP 0 rfl rfl 22 (by decide) (hts (.fieldLink RX10 278 "TurnedFloorsModel" "go" "I") f9_wsX10_goesAlong_269) (fun _ h9 => h9) rfl dX10_goesAlong_116 ?_
    refine lv_iconst (v := 1) hx hb dX10_goesAlong_119 (by decide) ?_
    refine lv_iadd hx hb dX10_goesAlong_120 ?_
    refine va_put (D := D) (ci := 10) (v := .int ((q9.1 0 22) + 1 : Int32)) (ty := .int) (C := RX10) (T := TX10) (N := 56) hx hb hts u9_wsX10_goesAlong_X10 tyX10 tyX10_ok nmX10 hown hK hP hD hS 0 rfl rfl 22 (by decide) (hts (.fieldLink RX10 278 "TurnedFloorsModel" "go" "I") f9_wsX10_goesAlong_269) (fun _ h9 => h9) rfl (by decide +kernel) rfl rfl (Nat.le_of_ble_eq_true rfl) dX10_goesAlong_121 (fun H locs hp hd hs => ?_)
    obtain ⟨q10, eq10, h⟩ := dL_some h
    refine kz_re (w2 := w10 ty ad q10) hp hd hs (by rw [← eq10]; exact w10_f22 ty ad q9 ((q9.1 0 22) + 1 : Int32)) ?_
    clear hp hd hs hP hD hS
    intro hP hD hS
    exact WX10_goesAlong_124 C0  _ _ _ _ _ h hP hD hS (lv_sub hl [0, 1] rfl)
set_option maxHeartbeats 4000000 in
set_option maxRecDepth 100000 in
theorem WX10_goesAlong_64 {p : Program} {l : Launch} {e : Env} {s : State} {m : MethodId} {args : Array Value} {below : List Frame} {meth : Method} {c : Code} {D : va_G} {ty : Nat → ClassId} {eo : Nat → Nat} {A : Nat → Prop} {ad : Nat → Nat} {o2 : dS} (C : dc_C p s m args meth c cX10_goesAlong none 3 RX10 wsX10_goesAlong D ty eo A)   (q : dS) (x2 : Int32) (y0 : Int64) (H : Heap) (locs : List Loc) (ls : Array Slot) (h : zX10_goesAlong_64  q x2 y0 = some o2) (hP : va_P D vwCl (w10 ty ad q) H) (hD : va_D A (w10 ty ad q)) (hS : va_S A s.heap H locs) (hl : lv_has ls 3 [(0, .ref (ad 0)), (2, .int x2)]) : W p l e ({ frames := 85, cells := 0, slots := 0, locals := 2173 } : Room) s m args below meth c H locs 0 0 (MQ below (va_Qv (fun (u : va_W) => w10 ty ad o2 = u) (kz_B D ty A) A) args s 0 0 A) (F0 m 64 ls [.long y0, .ref (ad 0)]) := by
  have C0 := C
  obtain ⟨hx, hb, hr, hts, hown, hlocks, hml, hK, hN, hE, hA⟩ := C
  unfold zX10_goesAlong_64 at h
  refine va_put (D := D) (ci := 10) (v := .long y0) (ty := .long) (C := RX10) (T := TX10) (N := 56) hx hb hts u9_wsX10_goesAlong_X10 tyX10 tyX10_ok nmX10 hown hK hP hD hS 0 rfl rfl 52 (by decide) (hts (.fieldLink RX10 487 "TurnedFloorsModel" "sumNow" "J") f9_wsX10_goesAlong_274) (fun _ h9 => h9) rfl (by decide +kernel) rfl rfl (Nat.le_of_ble_eq_true rfl) dX10_goesAlong_64 (fun H locs hp hd hs => ?_)
  obtain ⟨q1, eq1, h⟩ := dL_some h
  refine kz_re (w2 := w10 ty ad q1) hp hd hs (by rw [← eq1]; exact w10_f52 ty ad q y0) ?_
  clear hp hd hs hP hD hS
  intro hP hD hS
  refine lv_aload_n hx hb dX10_goesAlong_67 rfl (lv_at hl 0 rfl) ?_
  refine lv_aload_n hx hb dX10_goesAlong_68 rfl (lv_at hl 0 rfl) ?_
  refine va_get (D := D) (ci := 10) (v := .int (q1.1 0 24)) (C := RX10) (T := TX10) (N := 56) hx hb hts u9_wsX10_goesAlong_X10 hown hK hP 0 rfl rfl 24 (by decide) (hts (.fieldLink RX10 288 "TurnedFloorsModel" "broken" "Z") f9_wsX10_goesAlong_270) (fun _ h9 => h9) rfl dX10_goesAlong_69 ?_
  refine lv_if_ne (tgt := 79) hx hb dX10_goesAlong_72 (by decide) (fun c9 => ?_) (fun c9 => ?_)
  · rw [if_neg c9] at h
    refine lv_iconst (v := 0) hx hb dX10_goesAlong_79 (by decide) ?_
    exact WX10_goesAlong_80 C0  _ _ _ _ _ _ h hP hD hS (lv_sub hl [0, 1] rfl)
  · rw [if_pos c9] at h
    refine lv_iconst (v := 1) hx hb dX10_goesAlong_75 (by decide) ?_
    refine lv_goto (tgt := 80) hx hb dX10_goesAlong_76 (by decide) ?_
    exact WX10_goesAlong_80 C0  _ _ _ _ _ _ h hP hD hS (lv_sub hl [0, 1] rfl)
set_option maxHeartbeats 4000000 in
set_option maxRecDepth 100000 in
theorem qX10_goesAlong (l : Launch) (D : va_G) (ty : Nat → ClassId) (eo : Nat → Nat) (sz : Nat) (ad : Nat → Nat) (q : dS) (p1 : Int32) (p2 : Int32) (o2 : dS) (h : zX10_goesAlong q p1 p2 = some o2) : Met l yX10_goesAlong wsX10_goesAlong ({ frames := 85, cells := 0, slots := 0, locals := 2173 } : Room) (va_Pc [.ref (ad 0), .int p1, .int p2] (kz_pre D ty eo (w10 ty ad q) sz)) (va_Qv (fun (u : va_W) => w10 ty ad o2 = u) (kz_B D ty (va_A (w10 ty ad q) sz)) (va_A (w10 ty ad q) sz)) 0 0 (va_A (w10 ty ad q) sz) := by
  refine Met.ofW (cc := cX10_goesAlong) (maxL := 3) (ret := none) (by decide) rfl ?_
  intro p e s m args below meth c s₁ B hml hv
  obtain ⟨rfl, hsz, hP, hK, hD0, hN, hE⟩ := hv
  have hx := B.exec
  have hb := B.bytes
  have hr := B.returns
  have hts := atoms_spec (ws := wsX10_goesAlong) B.pre
  have hown : s.vm.findClass RX10 = some m.cls := findClass_of_methodNamed B.named
  have hlocks := B.notSynchronized
  subst hsz
  have hD := hD0.self (sz := s.heap.size)
  generalize hAe : va_A (w10 ty ad q) s.heap.size = A at hD hE ⊢
  have hA : ∀ q : Nat, s.heap.size ≤ q → A q := fun q h => by rw [← hAe]; exact Or.inr h
  clear hAe
  have hS : va_S A s.heap s.heap [] := va_S.rf
  have hl := lv_entry ([.ref (ad 0), .int p1, .int p2]) (n := 3) (Nat.le_of_ble_eq_true rfl)
  rw [lg_entry_eq]
  generalize (lg_sl ([.ref (ad 0), .int p1, .int p2]) ++ List.replicate (3 - (lg_sl ([.ref (ad 0), .int p1, .int p2])).length) Slot.unset).toArray = ls at hl ⊢
  have hl : lv_has ls 3 [(0, .ref (ad 0)), (1, .int p1), (2, .int p2)] := hl
  have C : dc_C p s m _ meth c cX10_goesAlong none 3 RX10 wsX10_goesAlong D ty eo A := ⟨hx, hb, hr, hts, hown, hlocks, hml, hK, hN, hE, hA⟩
  unfold zX10_goesAlong at h
  refine lv_aload_n hx hb dX10_goesAlong_0 rfl (lv_at hl 0 rfl) ?_
  refine lv_iconst (v := 1) hx hb dX10_goesAlong_1 (by decide) ?_
  refine va_put (D := D) (ci := 10) (v := .int 1) (ty := .boolean) (C := RX10) (T := TX10) (N := 56) hx hb hts u9_wsX10_goesAlong_X10 tyX10 tyX10_ok nmX10 hown hK hP hD hS 0 rfl rfl 25 (by decide) (hts (.fieldLink RX10 308 "TurnedFloorsModel" "inOrders" "Z") f9_wsX10_goesAlong_275) (fun _ h9 => h9) rfl (by decide +kernel) rfl rfl (Nat.le_of_ble_eq_true rfl) dX10_goesAlong_2 (fun H locs hp hd hs => ?_)
  obtain ⟨q1, eq1, h⟩ := dL_some h
  refine kz_re (w2 := w10 ty ad q1) hp hd hs (by rw [← eq1]; exact w10_f25 ty ad q 1) ?_
  clear hp hd hs hP hD hS
  intro hP hD hS
  refine lv_aload_n hx hb dX10_goesAlong_5 rfl (lv_at hl 0 rfl) ?_
  refine lv_iload_n hx hb dX10_goesAlong_6 rfl (lv_at hl 1 rfl) ?_
  refine va_put (D := D) (ci := 10) (v := .int p1) (ty := .int) (C := RX10) (T := TX10) (N := 56) hx hb hts u9_wsX10_goesAlong_X10 tyX10 tyX10_ok nmX10 hown hK hP hD hS 0 rfl rfl 23 (by decide) (hts (.fieldLink RX10 275 "TurnedFloorsModel" "goEnd" "I") f9_wsX10_goesAlong_276) (fun _ h9 => h9) rfl (by decide +kernel) rfl rfl (Nat.le_of_ble_eq_true rfl) dX10_goesAlong_7 (fun H locs hp hd hs => ?_)
  obtain ⟨q2, eq2, h⟩ := dL_some h
  refine kz_re (w2 := w10 ty ad q2) hp hd hs (by rw [← eq2]; exact w10_f23 ty ad q1 p1) ?_
  clear hp hd hs hP hD hS
  intro hP hD hS
  refine lv_aload_n hx hb dX10_goesAlong_10 rfl (lv_at hl 0 rfl) ?_
  refine lv_aload_n hx hb dX10_goesAlong_11 rfl (lv_at hl 0 rfl) ?_
  refine va_get (D := D) (ci := 10) (v := .int (q2.1 0 47)) (C := RX10) (T := TX10) (N := 56) hx hb hts u9_wsX10_goesAlong_X10 hown hK hP 0 rfl rfl 47 (by decide) (hts (.fieldLink RX10 475 "TurnedFloorsModel" "orderAt" "I") f9_wsX10_goesAlong_277) (fun _ h9 => h9) rfl dX10_goesAlong_12 ?_
  refine va_put (D := D) (ci := 10) (v := .int (q2.1 0 47)) (ty := .int) (C := RX10) (T := TX10) (N := 56) hx hb hts u9_wsX10_goesAlong_X10 tyX10 tyX10_ok nmX10 hown hK hP hD hS 0 rfl rfl 22 (by decide) (hts (.fieldLink RX10 278 "TurnedFloorsModel" "go" "I") f9_wsX10_goesAlong_269) (fun _ h9 => h9) rfl (by decide +kernel) rfl rfl (Nat.le_of_ble_eq_true rfl) dX10_goesAlong_15 (fun H locs hp hd hs => ?_)
  obtain ⟨q3, eq3, h⟩ := dL_some h
  refine kz_re (w2 := w10 ty ad q3) hp hd hs (by rw [← eq3]; exact w10_f22 ty ad q2 (q2.1 0 47)) ?_
  clear hp hd hs hP hD hS
  intro hP hD hS
  refine lv_aload_n hx hb dX10_goesAlong_18 rfl (lv_at hl 0 rfl) ?_
  refine lv_aload_n hx hb dX10_goesAlong_19 rfl (lv_at hl 0 rfl) ?_
  refine lv_aload_n hx hb dX10_goesAlong_20 rfl (lv_at hl 0 rfl) ?_
  refine va_get (D := D) (ci := 10) (v := .int (q3.1 0 22)) (C := RX10) (T := TX10) (N := 56) hx hb hts u9_wsX10_goesAlong_X10 hown hK hP 0 rfl rfl 22 (by decide) (hts (.fieldLink RX10 278 "TurnedFloorsModel" "go" "I") f9_wsX10_goesAlong_269) (fun _ h9 => h9) rfl dX10_goesAlong_21 ?_
  obtain ⟨r4, q6, h5, h⟩ := dB_some h
  refine dw_ki (va_runV (As := [.int (q3.1 0 22)]) (rest := [.ref (ad 0)]) ⟨hx, hb, hml, hown, hts⟩ (qX10_codeAt l D ty eo _ ad q3 (q3.1 0 22) r4 q6 h5) (cwV 1 hts gX10_goesAlong_X10_codeAt rfl rfl rfl hd_X10_codeAt_v ⟨Nat.le_of_ble_eq_true rfl, Nat.le_of_ble_eq_true rfl⟩) (pv10_10_0 hK hN hE hP hD hS hA) rfl rfl hl.1 rfl (lv_room (Nat.le_of_ble_eq_true rfl)) dX10_goesAlong_24 ⟨Nat.le_of_ble_eq_true rfl, Nat.le_of_ble_eq_true rfl⟩) hD hS hA (fun r9 u9 H locs hw hp hd hs => ?_)
  clear hP hD hS
  obtain ⟨rfl, rfl⟩ := hw
  have hP := hp; have hD := hd; have hS := hs; clear hp hd hs
  refine va_put (D := D) (ci := 10) (v := .int r4) (ty := .int) (C := RX10) (T := TX10) (N := 56) hx hb hts u9_wsX10_goesAlong_X10 tyX10 tyX10_ok nmX10 hown hK hP hD hS 0 rfl rfl 49 (by decide) (hts (.fieldLink RX10 484 "TurnedFloorsModel" "head" "I") f9_wsX10_goesAlong_278) (fun _ h9 => h9) rfl (by decide +kernel) rfl rfl (Nat.le_of_ble_eq_true rfl) dX10_goesAlong_27 (fun H locs hp hd hs => ?_)
  obtain ⟨q7, eq7, h⟩ := dL_some h
  refine kz_re (w2 := w10 ty ad q7) hp hd hs (by rw [← eq7]; exact w10_f49 ty ad q6 r4) ?_
  clear hp hd hs hP hD hS
  intro hP hD hS
  refine lv_aload_n hx hb dX10_goesAlong_30 rfl (lv_at hl 0 rfl) ?_
  refine lv_dup hx hb dX10_goesAlong_31 rfl ?_
  refine va_get (D := D) (ci := 10) (v := .int (q7.1 0 22)) (C := RX10) (T := TX10) (N := 56) hx hb hts u9_wsX10_goesAlong_X10 hown hK hP 0 rfl rfl 22 (by decide) (hts (.fieldLink RX10 278 "TurnedFloorsModel" "go" "I") f9_wsX10_goesAlong_269) (fun _ h9 => h9) rfl dX10_goesAlong_32 ?_
  refine lv_iconst (v := 1) hx hb dX10_goesAlong_35 (by decide) ?_
  refine lv_iadd hx hb dX10_goesAlong_36 ?_
  refine va_put (D := D) (ci := 10) (v := .int ((q7.1 0 22) + 1 : Int32)) (ty := .int) (C := RX10) (T := TX10) (N := 56) hx hb hts u9_wsX10_goesAlong_X10 tyX10 tyX10_ok nmX10 hown hK hP hD hS 0 rfl rfl 22 (by decide) (hts (.fieldLink RX10 278 "TurnedFloorsModel" "go" "I") f9_wsX10_goesAlong_269) (fun _ h9 => h9) rfl (by decide +kernel) rfl rfl (Nat.le_of_ble_eq_true rfl) dX10_goesAlong_37 (fun H locs hp hd hs => ?_)
  obtain ⟨q8, eq8, h⟩ := dL_some h
  refine kz_re (w2 := w10 ty ad q8) hp hd hs (by rw [← eq8]; exact w10_f22 ty ad q7 ((q7.1 0 22) + 1 : Int32)) ?_
  clear hp hd hs hP hD hS
  intro hP hD hS
  refine lv_aload_n hx hb dX10_goesAlong_40 rfl (lv_at hl 0 rfl) ?_
  refine lv_iconst (v := 0) hx hb dX10_goesAlong_41 (by decide) ?_
  refine va_put (D := D) (ci := 10) (v := .int 0) (ty := .boolean) (C := RX10) (T := TX10) (N := 56) hx hb hts u9_wsX10_goesAlong_X10 tyX10 tyX10_ok nmX10 hown hK hP hD hS 0 rfl rfl 24 (by decide) (hts (.fieldLink RX10 288 "TurnedFloorsModel" "broken" "Z") f9_wsX10_goesAlong_270) (fun _ h9 => h9) rfl (by decide +kernel) rfl rfl (Nat.le_of_ble_eq_true rfl) dX10_goesAlong_42 (fun H locs hp hd hs => ?_)
  obtain ⟨q9, eq9, h⟩ := dL_some h
  refine kz_re (w2 := w10 ty ad q9) hp hd hs (by rw [← eq9]; exact w10_f24 ty ad q8 0) ?_
  clear hp hd hs hP hD hS
  intro hP hD hS
  refine lv_aload_n hx hb dX10_goesAlong_45 rfl (lv_at hl 0 rfl) ?_
  refine lv_aload_n hx hb dX10_goesAlong_46 rfl (lv_at hl 0 rfl) ?_
  refine va_get (D := D) (ci := 10) (v := .int (q9.1 0 49)) (C := RX10) (T := TX10) (N := 56) hx hb hts u9_wsX10_goesAlong_X10 hown hK hP 0 rfl rfl 49 (by decide) (hts (.fieldLink RX10 484 "TurnedFloorsModel" "head" "I") f9_wsX10_goesAlong_278) (fun _ h9 => h9) rfl dX10_goesAlong_47 ?_
  refine lv_bipush (v := 25) hx hb dX10_goesAlong_50 (by decide) ?_
  refine lv_icmp_ne (tgt := 59) hx hb dX10_goesAlong_52 (by decide) (fun c9 => ?_) (fun c9 => ?_)
  · rw [if_neg c9] at h
    refine lv_aload_n hx hb dX10_goesAlong_59 rfl (lv_at hl 0 rfl) ?_
    refine lv_iload_n hx hb dX10_goesAlong_60 rfl (lv_at hl 2 rfl) ?_
    obtain ⟨r10, q12, h11, h⟩ := dB_some h
    refine dw_kl (va_runV (As := [.int p2]) (rest := [.ref (ad 0)]) ⟨hx, hb, hml, hown, hts⟩ (qX10_sumOf l D ty eo _ ad 10 q9 p2 r10 q12 h11) (cwV 1 hts gX10_goesAlong_X10_sumOf rfl rfl rfl hd_X10_sumOf_v ⟨Nat.le_of_ble_eq_true rfl, Nat.le_of_ble_eq_true rfl⟩) (pv10_10_0 hK hN hE hP hD hS hA) rfl rfl hl.1 rfl (lv_room (Nat.le_of_ble_eq_true rfl)) dX10_goesAlong_61 ⟨Nat.le_of_ble_eq_true rfl, Nat.le_of_ble_eq_true rfl⟩) hD hS hA (fun r9 u9 H locs hw hp hd hs => ?_)
    clear hP hD hS
    obtain ⟨rfl, rfl⟩ := hw
    have hP := hp; have hD := hd; have hS := hs; clear hp hd hs
    exact WX10_goesAlong_64 C  _ _ _ _ _ _ h hP hD hS (lv_sub hl [0, 2] rfl)
  · rw [if_pos c9] at h
    refine lv_lconst (v := 0) hx hb dX10_goesAlong_55 (by decide) ?_
    refine lv_goto (tgt := 64) hx hb dX10_goesAlong_56 (by decide) ?_
    exact WX10_goesAlong_64 C  _ _ _ _ _ _ h hP hD hS (lv_sub hl [0, 2] rfl)

set_option maxHeartbeats 4000000 in
set_option maxRecDepth 100000 in
theorem WX10_small_20 {p : Program} {l : Launch} {e : Env} {s : State} {m : MethodId} {args : Array Value} {below : List Frame} {meth : Method} {c : Code} {D : va_G} {ty : Nat → ClassId} {eo : Nat → Nat} {A : Nat → Prop} {o1 : Int32} (C : dc_C p s m args meth c cX10_small (some .int) 2 RX10 wsX10_small D ty eo A)   (y0 : Int32) (H : Heap) (locs : List Loc) (ls : Array Slot) (h : zX10_small_20  y0 = some o1) (hP : va_P D vwCl (([] : va_W)) H) (hD : va_D A (([] : va_W))) (hS : va_S A s.heap H locs) (hl : lv_has ls 2 []) : W p l e ({ frames := 0, cells := 0, slots := 0, locals := 0 } : Room) s m args below meth c H locs 0 0 (MQ below (va_Qi (fun (r : Int32) (u : va_W) => o1 = r ∧ ([] : va_W) = u) (kz_B D ty A) A) args s 0 0 A) (F0 m 20 ls [.int y0]) := by
  have C0 := C
  obtain ⟨hx, hb, hr, hts, hown, hlocks, hml, hK, hN, hE, hA⟩ := C
  unfold zX10_small_20 at h
  cases h
  exact kz_iret hx hb hr hlocks hP hK hD hS dX10_small_20 ⟨rfl, rfl⟩
set_option maxHeartbeats 4000000 in
set_option maxRecDepth 100000 in
theorem WX10_small_14 {p : Program} {l : Launch} {e : Env} {s : State} {m : MethodId} {args : Array Value} {below : List Frame} {meth : Method} {c : Code} {D : va_G} {ty : Nat → ClassId} {eo : Nat → Nat} {A : Nat → Prop} {o1 : Int32} (C : dc_C p s m args meth c cX10_small (some .int) 2 RX10 wsX10_small D ty eo A)    (H : Heap) (locs : List Loc) (ls : Array Slot) (h : zX10_small_14   = some o1) (hP : va_P D vwCl (([] : va_W)) H) (hD : va_D A (([] : va_W))) (hS : va_S A s.heap H locs) (hl : lv_has ls 2 []) : W p l e ({ frames := 0, cells := 0, slots := 0, locals := 0 } : Room) s m args below meth c H locs 0 0 (MQ below (va_Qi (fun (r : Int32) (u : va_W) => o1 = r ∧ ([] : va_W) = u) (kz_B D ty A) A) args s 0 0 A) (F0 m 14 ls []) := by
  have C0 := C
  obtain ⟨hx, hb, hr, hts, hown, hlocks, hml, hK, hN, hE, hA⟩ := C
  unfold zX10_small_14 at h
  refine lv_iconst (v := (-1)) hx hb dX10_small_14 (by decide) ?_
  refine lv_goto (tgt := 20) hx hb dX10_small_15 (by decide) ?_
  exact WX10_small_20 C0  _ _ _ _ h hP hD hS (lv_sub hl [] rfl)
set_option maxHeartbeats 4000000 in
set_option maxRecDepth 100000 in
theorem qX10_small (l : Launch) (D : va_G) (ty : Nat → ClassId) (eo : Nat → Nat) (sz : Nat) (p1 : Int64) (o1 : Int32) (h : zX10_small p1 = some o1) : Met l yX10_small wsX10_small ({ frames := 0, cells := 0, slots := 0, locals := 0 } : Room) (va_Pc [.long p1] (kz_pre D ty eo (([] : va_W)) sz)) (va_Qi (fun (r : Int32) (u : va_W) => o1 = r ∧ ([] : va_W) = u) (kz_B D ty (va_A (([] : va_W)) sz)) (va_A (([] : va_W)) sz)) 0 0 (va_A (([] : va_W)) sz) := by
  refine Met.ofW (cc := cX10_small) (maxL := 2) (ret := (some .int)) (by decide) rfl ?_
  intro p e s m args below meth c s₁ B hml hv
  obtain ⟨rfl, hsz, hP, hK, hD0, hN, hE⟩ := hv
  have hx := B.exec
  have hb := B.bytes
  have hr := B.returns
  have hts := atoms_spec (ws := wsX10_small) B.pre
  have hown : s.vm.findClass RX10 = some m.cls := findClass_of_methodNamed B.named
  have hlocks := B.notSynchronized
  subst hsz
  have hD := hD0.self (sz := s.heap.size)
  generalize hAe : va_A (([] : va_W)) s.heap.size = A at hD hE ⊢
  have hA : ∀ q : Nat, s.heap.size ≤ q → A q := fun q h => by rw [← hAe]; exact Or.inr h
  clear hAe
  have hS : va_S A s.heap s.heap [] := va_S.rf
  have hl := lv_entry ([.long p1]) (n := 2) (Nat.le_of_ble_eq_true rfl)
  rw [lg_entry_eq]
  generalize (lg_sl ([.long p1]) ++ List.replicate (2 - (lg_sl ([.long p1])).length) Slot.unset).toArray = ls at hl ⊢
  have hl : lv_has ls 2 [(0, .long p1)] := hl
  have C : dc_C p s m _ meth c cX10_small (some .int) 2 RX10 wsX10_small D ty eo A := ⟨hx, hb, hr, hts, hown, hlocks, hml, hK, hN, hE, hA⟩
  unfold zX10_small at h
  refine lv_lload_n hx hb dX10_small_0 rfl (lv_at hl 0 rfl) ?_
  refine lv_lconst (v := 0) hx hb dX10_small_1 (by decide) ?_
  refine W.lcmp hx hb dX10_small_2 ?_
  refine lv_if_lt (tgt := 14) hx hb dX10_small_3 (by decide) (fun c9 => ?_) (fun c9 => ?_)
  · rw [if_pos c9] at h
    exact WX10_small_14 C  _ _ _ h hP hD hS (lv_sub hl [] rfl)
  · rw [if_neg c9] at h
    refine lv_lload_n hx hb dX10_small_6 rfl (lv_at hl 0 rfl) ?_
    refine lv_ldc2 (v := 1000000) hx hb hown (hts (.constantLong RX10 500 1000000) f9_wsX10_small_279) dX10_small_7 ?_
    refine W.lcmp hx hb dX10_small_10 ?_
    refine lv_if_le (tgt := 18) hx hb dX10_small_11 (by decide) (fun c9 => ?_) (fun c9 => ?_)
    · rw [if_pos c9] at h
      refine lv_lload_n hx hb dX10_small_18 rfl (lv_at hl 0 rfl) ?_
      refine lv_l2i (v := Int64.toInt32 p1) hx hb dX10_small_19 rfl ?_
      exact WX10_small_20 C  _ _ _ _ h hP hD hS (lv_sub hl [] rfl)
    · rw [if_neg c9] at h
      exact WX10_small_14 C  _ _ _ h hP hD hS (lv_sub hl [] rfl)

set_option maxHeartbeats 4000000 in
set_option maxRecDepth 100000 in
theorem WX10_obeys_86 {p : Program} {l : Launch} {e : Env} {s : State} {m : MethodId} {args : Array Value} {below : List Frame} {meth : Method} {c : Code} {D : va_G} {ty : Nat → ClassId} {eo : Nat → Nat} {A : Nat → Prop} {ad : Nat → Nat} {o1 : Int32} {o2 : dS} (C : dc_C p s m args meth c cX10_obeys (some .int) 2 RX10 wsX10_obeys D ty eo A)   (q : dS) (x1 : Int32) (y0 : Int32) (H : Heap) (locs : List Loc) (ls : Array Slot) (h : zX10_obeys_86  q x1 y0 = some (o1, o2)) (hP : va_P D vwCl (w10 ty ad q) H) (hD : va_D A (w10 ty ad q)) (hS : va_S A s.heap H locs) (hl : lv_has ls 2 [(1, .int x1)]) : W p l e ({ frames := 90, cells := 0, slots := 0, locals := 2286 } : Room) s m args below meth c H locs 0 0 (MQ below (va_Qi (fun (r : Int32) (u : va_W) => o1 = r ∧ w10 ty ad o2 = u) (kz_B D ty A) A) args s 0 0 A) (F0 m 86 ls [.int y0, .ref (ad 0)]) := by
  have C0 := C
  obtain ⟨hx, hb, hr, hts, hown, hlocks, hml, hK, hN, hE, hA⟩ := C
  unfold zX10_obeys_86 at h
  refine va_put (D := D) (ci := 10) (v := .int y0) (ty := .int) (C := RX10) (T := TX10) (N := 56) hx hb hts u9_wsX10_obeys_X10 tyX10 tyX10_ok nmX10 hown hK hP hD hS 0 rfl rfl 28 (by decide) (hts (.fieldLink RX10 317 "TurnedFloorsModel" "orderLatest" "I") f9_wsX10_obeys_281) (fun _ h9 => h9) rfl (by decide +kernel) rfl rfl (Nat.le_of_ble_eq_true rfl) dX10_obeys_86 (fun H locs hp hd hs => ?_)
  obtain ⟨q1, eq1, h⟩ := dL_some h
  refine kz_re (w2 := w10 ty ad q1) hp hd hs (by rw [← eq1]; exact w10_f28 ty ad q y0) ?_
  clear hp hd hs hP hD hS
  intro hP hD hS
  refine lv_iload_n hx hb dX10_obeys_89 rfl (lv_at hl 0 rfl) ?_
  cases h
  exact kz_iret hx hb hr hlocks hP hK hD hS dX10_obeys_90 ⟨rfl, rfl⟩
set_option maxHeartbeats 4000000 in
set_option maxRecDepth 100000 in
theorem qX10_obeys (l : Launch) (D : va_G) (ty : Nat → ClassId) (eo : Nat → Nat) (sz : Nat) (ad : Nat → Nat) (q : dS)  (o1 : Int32) (o2 : dS) (h : zX10_obeys q = some (o1, o2)) : Met l yX10_obeys wsX10_obeys ({ frames := 90, cells := 0, slots := 0, locals := 2286 } : Room) (va_Pc [.ref (ad 0)] (kz_pre D ty eo (w10 ty ad q) sz)) (va_Qi (fun (r : Int32) (u : va_W) => o1 = r ∧ w10 ty ad o2 = u) (kz_B D ty (va_A (w10 ty ad q) sz)) (va_A (w10 ty ad q) sz)) 0 0 (va_A (w10 ty ad q) sz) := by
  refine Met.ofW (cc := cX10_obeys) (maxL := 2) (ret := (some .int)) (by decide) rfl ?_
  intro p e s m args below meth c s₁ B hml hv
  obtain ⟨rfl, hsz, hP, hK, hD0, hN, hE⟩ := hv
  have hx := B.exec
  have hb := B.bytes
  have hr := B.returns
  have hts := atoms_spec (ws := wsX10_obeys) B.pre
  have hown : s.vm.findClass RX10 = some m.cls := findClass_of_methodNamed B.named
  have hlocks := B.notSynchronized
  subst hsz
  have hD := hD0.self (sz := s.heap.size)
  generalize hAe : va_A (w10 ty ad q) s.heap.size = A at hD hE ⊢
  have hA : ∀ q : Nat, s.heap.size ≤ q → A q := fun q h => by rw [← hAe]; exact Or.inr h
  clear hAe
  have hS : va_S A s.heap s.heap [] := va_S.rf
  have hl := lv_entry ([.ref (ad 0)]) (n := 2) (Nat.le_of_ble_eq_true rfl)
  rw [lg_entry_eq]
  generalize (lg_sl ([.ref (ad 0)]) ++ List.replicate (2 - (lg_sl ([.ref (ad 0)])).length) Slot.unset).toArray = ls at hl ⊢
  have hl : lv_has ls 2 [(0, .ref (ad 0))] := hl
  have C : dc_C p s m _ meth c cX10_obeys (some .int) 2 RX10 wsX10_obeys D ty eo A := ⟨hx, hb, hr, hts, hown, hlocks, hml, hK, hN, hE, hA⟩
  unfold zX10_obeys at h
  refine lv_aload_n hx hb dX10_obeys_0 rfl (lv_at hl 0 rfl) ?_
  refine va_get (D := D) (ci := 10) (v := .int (q.1 0 49)) (C := RX10) (T := TX10) (N := 56) hx hb hts u9_wsX10_obeys_X10 hown hK hP 0 rfl rfl 49 (by decide) (hts (.fieldLink RX10 484 "TurnedFloorsModel" "head" "I") f9_wsX10_obeys_282) (fun _ h9 => h9) rfl dX10_obeys_1 ?_
  by_cases c1 : (q.1 0 49) = 23
  · rw [if_pos c1] at h
    refine lv_tableIn (off := 28) (tgt := 32) hx hb dX10_obeys_4 (by rw [c1]; decide) (by rw [c1]; decide) (by rw [c1]; decide) (by decide) ?_
    refine lv_aload_n hx hb dX10_obeys_32 rfl (lv_at hl 0 rfl) ?_
    refine lv_aload_n hx hb dX10_obeys_33 rfl (lv_at hl 0 rfl) ?_
    refine va_get (D := D) (ci := 10) (v := .long (q.2 0 52)) (C := RX10) (T := TX10) (N := 56) hx hb hts u9_wsX10_obeys_X10 hown hK hP 0 rfl rfl 52 (by decide) (hts (.fieldLink RX10 487 "TurnedFloorsModel" "sumNow" "J") f9_wsX10_obeys_283) (fun _ h9 => h9) rfl dX10_obeys_34 ?_
    obtain ⟨r2, h3, h⟩ := dV_some h
    refine dw_ks (va_runS (As := [.long (q.2 0 52)]) (rest := [.ref (ad 0)]) ⟨hx, hb, hml, hown, hts⟩ (qX10_small l D ty eo _ (q.2 0 52) _ h3) (va_cwS 1 hts gX10_obeys_X10_small rfl rfl rfl hd_X10_small ⟨Nat.le_of_ble_eq_true rfl, Nat.le_of_ble_eq_true rfl⟩) (pvS_0 hK hN hE hP hD hS hA) rfl rfl hl.1 rfl (lv_room (Nat.le_of_ble_eq_true rfl)) dX10_obeys_37 ⟨Nat.le_of_ble_eq_true rfl, Nat.le_of_ble_eq_true rfl⟩) hP hD hS hA (fun _ _ h9 => h9.2.symm) (fun r9 u9 H locs hw hp hd hs => ?_)
    obtain ⟨rfl, -⟩ := hw
    clear hP hD hS
    have hP := hp; have hD := hd; have hS := hs; clear hp hd hs
    obtain ⟨r4, q6, h5, h⟩ := dB_some h
    refine dw_ki (va_runV (As := [.int r2]) (rest := []) ⟨hx, hb, hml, hown, hts⟩ (qX10_rightsKept l D ty eo _ ad q r2 r4 q6 h5) (cwV 1 hts gX10_obeys_X10_rightsKept rfl rfl rfl hd_X10_rightsKept_v ⟨Nat.le_of_ble_eq_true rfl, Nat.le_of_ble_eq_true rfl⟩) (pv10_10_0 hK hN hE hP hD hS hA) rfl rfl hl.1 rfl (lv_room (Nat.le_of_ble_eq_true rfl)) dX10_obeys_40 ⟨Nat.le_of_ble_eq_true rfl, Nat.le_of_ble_eq_true rfl⟩) hD hS hA (fun r9 u9 H locs hw hp hd hs => ?_)
    clear hP hD hS
    obtain ⟨rfl, rfl⟩ := hw
    have hP := hp; have hD := hd; have hS := hs; clear hp hd hs
    cases h
    exact kz_iret hx hb hr hlocks hP hK hD hS dX10_obeys_43 ⟨rfl, rfl⟩
  rw [if_neg c1] at h
  by_cases c7 : (q.1 0 49) = 24
  · rw [if_pos c7] at h
    refine lv_tableIn (off := 40) (tgt := 44) hx hb dX10_obeys_4 (by rw [c7]; decide) (by rw [c7]; decide) (by rw [c7]; decide) (by decide) ?_
    refine lv_aload_n hx hb dX10_obeys_44 rfl (lv_at hl 0 rfl) ?_
    refine lv_aload_n hx hb dX10_obeys_45 rfl (lv_at hl 0 rfl) ?_
    refine va_get (D := D) (ci := 10) (v := .long (q.2 0 52)) (C := RX10) (T := TX10) (N := 56) hx hb hts u9_wsX10_obeys_X10 hown hK hP 0 rfl rfl 52 (by decide) (hts (.fieldLink RX10 487 "TurnedFloorsModel" "sumNow" "J") f9_wsX10_obeys_283) (fun _ h9 => h9) rfl dX10_obeys_46 ?_
    obtain ⟨r8, h9, h⟩ := dV_some h
    refine dw_ks (va_runS (As := [.long (q.2 0 52)]) (rest := [.ref (ad 0)]) ⟨hx, hb, hml, hown, hts⟩ (qX10_small l D ty eo _ (q.2 0 52) _ h9) (va_cwS 1 hts gX10_obeys_X10_small rfl rfl rfl hd_X10_small ⟨Nat.le_of_ble_eq_true rfl, Nat.le_of_ble_eq_true rfl⟩) (pvS_0 hK hN hE hP hD hS hA) rfl rfl hl.1 rfl (lv_room (Nat.le_of_ble_eq_true rfl)) dX10_obeys_49 ⟨Nat.le_of_ble_eq_true rfl, Nat.le_of_ble_eq_true rfl⟩) hP hD hS hA (fun _ _ h9 => h9.2.symm) (fun r9 u9 H locs hw hp hd hs => ?_)
    obtain ⟨rfl, -⟩ := hw
    clear hP hD hS
    have hP := hp; have hD := hd; have hS := hs; clear hp hd hs
    obtain ⟨r10, q12, h11, h⟩ := dB_some h
    refine dw_ki (va_runV (As := [.int r8]) (rest := []) ⟨hx, hb, hml, hown, hts⟩ (qX10_swapsKept l D ty eo _ ad q r8 r10 q12 h11) (cwV 1 hts gX10_obeys_X10_swapsKept rfl rfl rfl hd_X10_swapsKept_v ⟨Nat.le_of_ble_eq_true rfl, Nat.le_of_ble_eq_true rfl⟩) (pv10_10_0 hK hN hE hP hD hS hA) rfl rfl hl.1 rfl (lv_room (Nat.le_of_ble_eq_true rfl)) dX10_obeys_52 ⟨Nat.le_of_ble_eq_true rfl, Nat.le_of_ble_eq_true rfl⟩) hD hS hA (fun r9 u9 H locs hw hp hd hs => ?_)
    clear hP hD hS
    obtain ⟨rfl, rfl⟩ := hw
    have hP := hp; have hD := hd; have hS := hs; clear hp hd hs
    cases h
    exact kz_iret hx hb hr hlocks hP hK hD hS dX10_obeys_55 ⟨rfl, rfl⟩
  rw [if_neg c7] at h
  by_cases c13 : (q.1 0 49) = 25
  · rw [if_pos c13] at h
    refine lv_tableIn (off := 52) (tgt := 56) hx hb dX10_obeys_4 (by rw [c13]; decide) (by rw [c13]; decide) (by rw [c13]; decide) (by decide) ?_
    refine lv_aload_n hx hb dX10_obeys_56 rfl (lv_at hl 0 rfl) ?_
    obtain ⟨r14, q16, h15, h⟩ := dB_some h
    refine dw_ki (va_runV (As := []) (rest := []) ⟨hx, hb, hml, hown, hts⟩ (qX10_passesKept l D ty eo _ ad q  r14 q16 h15) (cwV 0 hts gX10_obeys_X10_passesKept rfl rfl rfl hd_X10_passesKept_v ⟨Nat.le_of_ble_eq_true rfl, Nat.le_of_ble_eq_true rfl⟩) (pv10_10_0 hK hN hE hP hD hS hA) rfl rfl hl.1 rfl (lv_room (Nat.le_of_ble_eq_true rfl)) dX10_obeys_57 ⟨Nat.le_of_ble_eq_true rfl, Nat.le_of_ble_eq_true rfl⟩) hD hS hA (fun r9 u9 H locs hw hp hd hs => ?_)
    clear hP hD hS
    obtain ⟨rfl, rfl⟩ := hw
    have hP := hp; have hD := hd; have hS := hs; clear hp hd hs
    cases h
    exact kz_iret hx hb hr hlocks hP hK hD hS dX10_obeys_60 ⟨rfl, rfl⟩
  rw [if_neg c13] at h
  refine lv_tableOut (tgt := 61) hx hb dX10_obeys_4 (by simp only [← Int32.toInt_inj, Int32.reduceToInt] at c1 c7 c13; omega) (by decide) ?_
  refine lv_aload_n hx hb dX10_obeys_61 rfl (lv_at hl 0 rfl) ?_
  refine lv_aload_n hx hb dX10_obeys_62 rfl (lv_at hl 0 rfl) ?_
  refine va_get (D := D) (ci := 10) (v := .long (q.2 0 52)) (C := RX10) (T := TX10) (N := 56) hx hb hts u9_wsX10_obeys_X10 hown hK hP 0 rfl rfl 52 (by decide) (hts (.fieldLink RX10 487 "TurnedFloorsModel" "sumNow" "J") f9_wsX10_obeys_283) (fun _ h9 => h9) rfl dX10_obeys_63 ?_
  obtain ⟨r17, h18, h⟩ := dV_some h
  refine dw_ks (va_runS (As := [.long (q.2 0 52)]) (rest := [.ref (ad 0)]) ⟨hx, hb, hml, hown, hts⟩ (qX10_small l D ty eo _ (q.2 0 52) _ h18) (va_cwS 1 hts gX10_obeys_X10_small rfl rfl rfl hd_X10_small ⟨Nat.le_of_ble_eq_true rfl, Nat.le_of_ble_eq_true rfl⟩) (pvS_0 hK hN hE hP hD hS hA) rfl rfl hl.1 rfl (lv_room (Nat.le_of_ble_eq_true rfl)) dX10_obeys_66 ⟨Nat.le_of_ble_eq_true rfl, Nat.le_of_ble_eq_true rfl⟩) hP hD hS hA (fun _ _ h9 => h9.2.symm) (fun r9 u9 H locs hw hp hd hs => ?_)
  obtain ⟨rfl, -⟩ := hw
  clear hP hD hS
  have hP := hp; have hD := hd; have hS := hs; clear hp hd hs
  obtain ⟨r19, q21, h20, h⟩ := dB_some h
  refine dw_ki (va_runV (As := [.int r17]) (rest := []) ⟨hx, hb, hml, hown, hts⟩ (qX10_turnsKept l D ty eo _ ad q r17 r19 q21 h20) (cwV 1 hts gX10_obeys_X10_turnsKept rfl rfl rfl hd_X10_turnsKept_v ⟨Nat.le_of_ble_eq_true rfl, Nat.le_of_ble_eq_true rfl⟩) (pv10_10_0 hK hN hE hP hD hS hA) rfl rfl hl.1 rfl (lv_room (Nat.le_of_ble_eq_true rfl)) dX10_obeys_69 ⟨Nat.le_of_ble_eq_true rfl, Nat.le_of_ble_eq_true rfl⟩) hD hS hA (fun r9 u9 H locs hw hp hd hs => ?_)
  clear hP hD hS
  obtain ⟨rfl, rfl⟩ := hw
  have hP := hp; have hD := hd; have hS := hs; clear hp hd hs
  refine lv_istore_n (lv' := [(1, .int r19), (0, .ref (ad 0))]) hx hb dX10_obeys_72 rfl hl (by decide) rfl (fun ls hl => ?_)
  refine lv_aload_n hx hb dX10_obeys_73 rfl (lv_at hl 1 rfl) ?_
  refine lv_iload_n hx hb dX10_obeys_74 rfl (lv_at hl 0 rfl) ?_
  refine lv_if_ge (tgt := 85) hx hb dX10_obeys_75 (by decide) (fun c9 => ?_) (fun c9 => ?_)
  · rw [if_pos c9] at h
    refine lv_iload_n hx hb dX10_obeys_85 rfl (lv_at hl 0 rfl) ?_
    exact WX10_obeys_86 C  _ _ _ _ _ _ h hP hD hS (lv_sub hl [0] rfl)
  · rw [if_neg c9] at h
    refine lv_aload_n hx hb dX10_obeys_78 rfl (lv_at hl 1 rfl) ?_
    refine va_get (D := D) (ci := 10) (v := .int (q21.1 0 28)) (C := RX10) (T := TX10) (N := 56) hx hb hts u9_wsX10_obeys_X10 hown hK hP 0 rfl rfl 28 (by decide) (hts (.fieldLink RX10 317 "TurnedFloorsModel" "orderLatest" "I") f9_wsX10_obeys_281) (fun _ h9 => h9) rfl dX10_obeys_79 ?_
    refine lv_goto (tgt := 86) hx hb dX10_obeys_82 (by decide) ?_
    exact WX10_obeys_86 C  _ _ _ _ _ _ h hP hD hS (lv_sub hl [0] rfl)

set_option maxHeartbeats 4000000 in
set_option maxRecDepth 100000 in
theorem WX10_runs_67 {p : Program} {l : Launch} {e : Env} {s : State} {m : MethodId} {args : Array Value} {below : List Frame} {meth : Method} {c : Code} {D : va_G} {ty : Nat → ClassId} {eo : Nat → Nat} {A : Nat → Prop} {ad : Nat → Nat} {o1 : Int32} {o2 : dS} (C : dc_C p s m args meth c cX10_runs (some .boolean) 5 RX10 wsX10_runs D ty eo A) {k19 : dS → Int32 → Int32 → Int32 → Int32 → Option (Int32 × dS)} (hk19 : ∀ (q : dS) (x1 : Int32) (x2 : Int32) (x3 : Int32) (x4 : Int32) (H : Heap) (locs : List Loc) (ls : Array Slot), k19 q x1 x2 x3 x4 = some (o1, o2) → va_P D vwCl (w10 ty ad q) H → va_D A (w10 ty ad q) → va_S A s.heap H locs → lv_has ls 5 [(0, .ref (ad 0)), (1, .int x1), (2, .int x2), (3, .int x3), (4, .int x4)] → W p l e ({ frames := 91, cells := 0, slots := 0, locals := 2307 } : Room) s m args below meth c H locs 0 0 (MQ below (va_Qi (fun (r : Int32) (u : va_W) => o1 = r ∧ w10 ty ad o2 = u) (kz_B D ty A) A) args s 0 0 A) (F0 m 19 ls [])) (q : dS) (x1 : Int32) (x2 : Int32) (x3 : Int32) (x4 : Int32) (H : Heap) (locs : List Loc) (ls : Array Slot) (h : zX10_runs_67 k19 q x1 x2 x3 x4 = some (o1, o2)) (hP : va_P D vwCl (w10 ty ad q) H) (hD : va_D A (w10 ty ad q)) (hS : va_S A s.heap H locs) (hl : lv_has ls 5 [(0, .ref (ad 0)), (1, .int x1), (2, .int x2), (3, .int x3), (4, .int x4)]) : W p l e ({ frames := 91, cells := 0, slots := 0, locals := 2307 } : Room) s m args below meth c H locs 0 0 (MQ below (va_Qi (fun (r : Int32) (u : va_W) => o1 = r ∧ w10 ty ad o2 = u) (kz_B D ty A) A) args s 0 0 A) (F0 m 67 ls []) := by
  have C0 := C
  obtain ⟨hx, hb, hr, hts, hown, hlocks, hml, hK, hN, hE, hA⟩ := C
  unfold zX10_runs_67 at h
  refine lv_iinc (v := x4 + 1) (lv' := [(4, .int (x4 + 1)), (0, .ref (ad 0)), (1, .int x1), (2, .int x2), (3, .int x3)]) hx hb dX10_runs_67 hl (k := 4) rfl rfl (by decide) rfl (fun ls hl => ?_)
  refine lv_goto (tgt := 19) hx hb dX10_runs_70 (by decide) ?_
  exact hk19 _ _ _ _ _ _ _ _ h hP hD hS (lv_sub hl [1, 2, 3, 4, 0] rfl)
set_option maxHeartbeats 4000000 in
set_option maxRecDepth 100000 in
theorem WX10_runs_55 {p : Program} {l : Launch} {e : Env} {s : State} {m : MethodId} {args : Array Value} {below : List Frame} {meth : Method} {c : Code} {D : va_G} {ty : Nat → ClassId} {eo : Nat → Nat} {A : Nat → Prop} {ad : Nat → Nat} {o1 : Int32} {o2 : dS} (C : dc_C p s m args meth c cX10_runs (some .boolean) 5 RX10 wsX10_runs D ty eo A)   (q : dS)  (H : Heap) (locs : List Loc) (ls : Array Slot) (h : zX10_runs_55  q = some (o1, o2)) (hP : va_P D vwCl (w10 ty ad q) H) (hD : va_D A (w10 ty ad q)) (hS : va_S A s.heap H locs) (hl : lv_has ls 5 []) : W p l e ({ frames := 91, cells := 0, slots := 0, locals := 2307 } : Room) s m args below meth c H locs 0 0 (MQ below (va_Qi (fun (r : Int32) (u : va_W) => o1 = r ∧ w10 ty ad o2 = u) (kz_B D ty A) A) args s 0 0 A) (F0 m 55 ls []) := by
  have C0 := C
  obtain ⟨hx, hb, hr, hts, hown, hlocks, hml, hK, hN, hE, hA⟩ := C
  unfold zX10_runs_55 at h
  refine lv_iconst (v := 0) hx hb dX10_runs_55 (by decide) ?_
  cases h
  exact kz_zret hx hb hr hlocks rfl hP hK hD hS dX10_runs_56 ⟨rfl, rfl⟩
set_option maxHeartbeats 4000000 in
set_option maxRecDepth 100000 in
theorem WX10_runs_19b {p : Program} {l : Launch} {e : Env} {s : State} {m : MethodId} {args : Array Value} {below : List Frame} {meth : Method} {c : Code} {D : va_G} {ty : Nat → ClassId} {eo : Nat → Nat} {A : Nat → Prop} {ad : Nat → Nat} {o1 : Int32} {o2 : dS} (C : dc_C p s m args meth c cX10_runs (some .boolean) 5 RX10 wsX10_runs D ty eo A) {k19 : dS → Int32 → Int32 → Int32 → Int32 → Option (Int32 × dS)} (hk19 : ∀ (q : dS) (x1 : Int32) (x2 : Int32) (x3 : Int32) (x4 : Int32) (H : Heap) (locs : List Loc) (ls : Array Slot), k19 q x1 x2 x3 x4 = some (o1, o2) → va_P D vwCl (w10 ty ad q) H → va_D A (w10 ty ad q) → va_S A s.heap H locs → lv_has ls 5 [(0, .ref (ad 0)), (1, .int x1), (2, .int x2), (3, .int x3), (4, .int x4)] → W p l e ({ frames := 91, cells := 0, slots := 0, locals := 2307 } : Room) s m args below meth c H locs 0 0 (MQ below (va_Qi (fun (r : Int32) (u : va_W) => o1 = r ∧ w10 ty ad o2 = u) (kz_B D ty A) A) args s 0 0 A) (F0 m 19 ls [])) (q : dS) (x1 : Int32) (x2 : Int32) (x3 : Int32) (x4 : Int32) (H : Heap) (locs : List Loc) (ls : Array Slot) (h : zX10_runs_19b k19 q x1 x2 x3 x4 = some (o1, o2)) (hP : va_P D vwCl (w10 ty ad q) H) (hD : va_D A (w10 ty ad q)) (hS : va_S A s.heap H locs) (hl : lv_has ls 5 [(0, .ref (ad 0)), (1, .int x1), (2, .int x2), (3, .int x3), (4, .int x4)]) : W p l e ({ frames := 91, cells := 0, slots := 0, locals := 2307 } : Room) s m args below meth c H locs 0 0 (MQ below (va_Qi (fun (r : Int32) (u : va_W) => o1 = r ∧ w10 ty ad o2 = u) (kz_B D ty A) A) args s 0 0 A) (F0 m 19 ls []) := by
  have C0 := C
  obtain ⟨hx, hb, hr, hts, hown, hlocks, hml, hK, hN, hE, hA⟩ := C
  unfold zX10_runs_19b at h
  refine lv_iload hx hb dX10_runs_19 (lv_at hl 4 rfl) ?_
  refine lv_iload_n hx hb dX10_runs_21 rfl (lv_at hl 2 rfl) ?_
  refine lv_icmp_ge (tgt := 73) hx hb dX10_runs_22 (by decide) (fun c9 => ?_) (fun c9 => ?_)
  · rw [if_pos c9] at h
    refine lv_aload_n hx hb dX10_runs_73 rfl (lv_at hl 0 rfl) ?_
    refine lv_iload_n hx hb dX10_runs_74 rfl (lv_at hl 3 rfl) ?_
    refine va_put (D := D) (ci := 10) (v := .int x3) (ty := .int) (C := RX10) (T := TX10) (N := 56) hx hb hts u9_wsX10_runs_X10 tyX10 tyX10_ok nmX10 hown hK hP hD hS 0 rfl rfl 47 (by decide) (hts (.fieldLink RX10 475 "TurnedFloorsModel" "orderAt" "I") f9_wsX10_runs_285) (fun _ h9 => h9) rfl (by decide +kernel) rfl rfl (Nat.le_of_ble_eq_true rfl) dX10_runs_75 (fun H locs hp hd hs => ?_)
    obtain ⟨q1, eq1, h⟩ := dL_some h
    refine kz_re (w2 := w10 ty ad q1) hp hd hs (by rw [← eq1]; exact w10_f47 ty ad q x3) ?_
    clear hp hd hs hP hD hS
    intro hP hD hS
    refine lv_iconst (v := 1) hx hb dX10_runs_78 (by decide) ?_
    cases h
    exact kz_zret hx hb hr hlocks rfl hP hK hD hS dX10_runs_79 ⟨rfl, rfl⟩
  · rw [if_neg c9] at h
    refine lv_aload_n hx hb dX10_runs_25 rfl (lv_at hl 0 rfl) ?_
    refine lv_iload_n hx hb dX10_runs_26 rfl (lv_at hl 1 rfl) ?_
    refine lv_iconst (v := 1) hx hb dX10_runs_27 (by decide) ?_
    obtain ⟨q4, h3, h⟩ := dV_some h
    refine dw_kv (va_runV (As := [.int x1, .int 1]) (rest := []) ⟨hx, hb, hml, hown, hts⟩ (qX10_goesAlong l D ty eo _ ad q x1 1 q4 h3) (cwV 2 hts gX10_runs_X10_goesAlong rfl rfl rfl hd_X10_goesAlong_v ⟨Nat.le_of_ble_eq_true rfl, Nat.le_of_ble_eq_true rfl⟩) (pv10_10_0 hK hN hE hP hD hS hA) rfl rfl hl.1 rfl (lv_room (Nat.le_of_ble_eq_true rfl)) dX10_runs_28 ⟨Nat.le_of_ble_eq_true rfl, Nat.le_of_ble_eq_true rfl⟩) hD hS hA (fun u9 H locs hw hp hd hs => ?_)
    clear hP hD hS
    obtain rfl := hw
    have hP := hp; have hD := hd; have hS := hs; clear hp hd hs
    refine lv_aload_n hx hb dX10_runs_31 rfl (lv_at hl 0 rfl) ?_
    refine va_get (D := D) (ci := 10) (v := .int (q4.1 0 51)) (C := RX10) (T := TX10) (N := 56) hx hb hts u9_wsX10_runs_X10 hown hK hP 0 rfl rfl 51 (by decide) (hts (.fieldLink RX10 497 "TurnedFloorsModel" "testIs" "Z") f9_wsX10_runs_286) (fun _ h9 => h9) rfl dX10_runs_32 ?_
    refine lv_if_ne (tgt := 41) hx hb dX10_runs_35 (by decide) (fun c9 => ?_) (fun c9 => ?_)
    · rw [if_neg c9] at h
      refine lv_aload_n hx hb dX10_runs_41 rfl (lv_at hl 0 rfl) ?_
      refine va_get (D := D) (ci := 10) (v := .int (q4.1 0 50)) (C := RX10) (T := TX10) (N := 56) hx hb hts u9_wsX10_runs_X10 hown hK hP 0 rfl rfl 50 (by decide) (hts (.fieldLink RX10 491 "TurnedFloorsModel" "sumsAre" "Z") f9_wsX10_runs_287) (fun _ h9 => h9) rfl dX10_runs_42 ?_
      refine lv_if_eq (tgt := 55) hx hb dX10_runs_45 (by decide) (fun c9 => ?_) (fun c9 => ?_)
      · rw [if_pos c9] at h
        exact WX10_runs_55 C0  _ _ _ _ h hP hD hS (lv_sub hl [] rfl)
      · rw [if_neg c9] at h
        refine lv_aload_n hx hb dX10_runs_48 rfl (lv_at hl 0 rfl) ?_
        obtain ⟨r5, q7, h6, h⟩ := dB_some h
        refine dw_ki (va_runV (As := []) (rest := []) ⟨hx, hb, hml, hown, hts⟩ (qX10_obeys l D ty eo _ ad q4  r5 q7 h6) (cwV 0 hts gX10_runs_X10_obeys rfl rfl rfl hd_X10_obeys_v ⟨Nat.le_of_ble_eq_true rfl, Nat.le_of_ble_eq_true rfl⟩) (pv10_10_0 hK hN hE hP hD hS hA) rfl rfl hl.1 rfl (lv_room (Nat.le_of_ble_eq_true rfl)) dX10_runs_49 ⟨Nat.le_of_ble_eq_true rfl, Nat.le_of_ble_eq_true rfl⟩) hD hS hA (fun r9 u9 H locs hw hp hd hs => ?_)
        clear hP hD hS
        obtain ⟨rfl, rfl⟩ := hw
        have hP := hp; have hD := hd; have hS := hs; clear hp hd hs
        refine lv_if_ge (tgt := 57) hx hb dX10_runs_52 (by decide) (fun c9 => ?_) (fun c9 => ?_)
        · rw [if_pos c9] at h
          refine lv_aload_n hx hb dX10_runs_57 rfl (lv_at hl 0 rfl) ?_
          refine lv_dup hx hb dX10_runs_58 rfl ?_
          refine va_get (D := D) (ci := 10) (v := .int (q7.1 0 27)) (C := RX10) (T := TX10) (N := 56) hx hb hts u9_wsX10_runs_X10 hown hK hP 0 rfl rfl 27 (by decide) (hts (.fieldLink RX10 314 "TurnedFloorsModel" "orderDone" "I") f9_wsX10_runs_288) (fun _ h9 => h9) rfl dX10_runs_59 ?_
          refine lv_iconst (v := 1) hx hb dX10_runs_62 (by decide) ?_
          refine lv_iadd hx hb dX10_runs_63 ?_
          refine va_put (D := D) (ci := 10) (v := .int ((q7.1 0 27) + 1 : Int32)) (ty := .int) (C := RX10) (T := TX10) (N := 56) hx hb hts u9_wsX10_runs_X10 tyX10 tyX10_ok nmX10 hown hK hP hD hS 0 rfl rfl 27 (by decide) (hts (.fieldLink RX10 314 "TurnedFloorsModel" "orderDone" "I") f9_wsX10_runs_288) (fun _ h9 => h9) rfl (by decide +kernel) rfl rfl (Nat.le_of_ble_eq_true rfl) dX10_runs_64 (fun H locs hp hd hs => ?_)
          obtain ⟨q8, eq8, h⟩ := dL_some h
          refine kz_re (w2 := w10 ty ad q8) hp hd hs (by rw [← eq8]; exact w10_f27 ty ad q7 ((q7.1 0 27) + 1 : Int32)) ?_
          clear hp hd hs hP hD hS
          intro hP hD hS
          exact WX10_runs_67 C0 hk19 _ _ _ _ _ _ _ _ h hP hD hS (lv_sub hl [0, 1, 2, 3, 4] rfl)
        · rw [if_neg c9] at h
          exact WX10_runs_55 C0  _ _ _ _ h hP hD hS (lv_sub hl [] rfl)
    · rw [if_pos c9] at h
      refine lv_goto (tgt := 67) hx hb dX10_runs_38 (by decide) ?_
      exact WX10_runs_67 C0 hk19 _ _ _ _ _ _ _ _ h hP hD hS (lv_sub hl [0, 1, 2, 3, 4] rfl)
set_option maxHeartbeats 4000000 in
set_option maxRecDepth 100000 in
theorem WX10_runs_19 {p : Program} {l : Launch} {e : Env} {s : State} {m : MethodId} {args : Array Value} {below : List Frame} {meth : Method} {c : Code} {D : va_G} {ty : Nat → ClassId} {eo : Nat → Nat} {A : Nat → Prop} {ad : Nat → Nat} {o1 : Int32} {o2 : dS} (C : dc_C p s m args meth c cX10_runs (some .boolean) 5 RX10 wsX10_runs D ty eo A)   (n : Nat) (q : dS) (x1 : Int32) (x2 : Int32) (x3 : Int32) (x4 : Int32) (H : Heap) (locs : List Loc) (ls : Array Slot) (h : zX10_runs_19  n q x1 x2 x3 x4 = some (o1, o2)) (hP : va_P D vwCl (w10 ty ad q) H) (hD : va_D A (w10 ty ad q)) (hS : va_S A s.heap H locs) (hl : lv_has ls 5 [(0, .ref (ad 0)), (1, .int x1), (2, .int x2), (3, .int x3), (4, .int x4)]) : W p l e ({ frames := 91, cells := 0, slots := 0, locals := 2307 } : Room) s m args below meth c H locs 0 0 (MQ below (va_Qi (fun (r : Int32) (u : va_W) => o1 = r ∧ w10 ty ad o2 = u) (kz_B D ty A) A) args s 0 0 A) (F0 m 19 ls []) := by
  exact dFix_W (F := fun k (a : dS × Int32 × Int32 × Int32 × Int32) => zX10_runs_19b  (fun q x1 x2 x3 x4 => k (q, x1, x2, x3, x4)) a.1 a.2.1 a.2.2.1 a.2.2.2.1 a.2.2.2.2) (o := (o1, o2)) (P := fun (a : dS × Int32 × Int32 × Int32 × Int32) H locs ls => va_P D vwCl (w10 ty ad a.1) H ∧ va_D A (w10 ty ad a.1) ∧ va_S A s.heap H locs ∧ lv_has ls 5 [(0, .ref (ad 0)), (1, .int a.2.1), (2, .int a.2.2.1), (3, .int a.2.2.2.1), (4, .int a.2.2.2.2)]) (G := fun H locs ls => W p l e ({ frames := 91, cells := 0, slots := 0, locals := 2307 } : Room) s m args below meth c H locs 0 0 (MQ below (va_Qi (fun (r : Int32) (u : va_W) => o1 = r ∧ w10 ty ad o2 = u) (kz_B D ty A) A) args s 0 0 A) (F0 m 19 ls []))
    (fun k hk a H locs ls h hp => WX10_runs_19b C  (fun q x1 x2 x3 x4 H locs ls h h1 h2 h3 h4 => hk (q, x1, x2, x3, x4) H locs ls h ⟨h1, h2, h3, h4⟩) a.1 a.2.1 a.2.2.1 a.2.2.2.1 a.2.2.2.2 H locs ls h hp.1 hp.2.1 hp.2.2.1 hp.2.2.2) n (q, x1, x2, x3, x4) H locs ls h ⟨hP, hD, hS, hl⟩
set_option maxHeartbeats 4000000 in
set_option maxRecDepth 100000 in
theorem qX10_runs (l : Launch) (D : va_G) (ty : Nat → ClassId) (eo : Nat → Nat) (sz : Nat) (ad : Nat → Nat) (q : dS) (p1 : Int32) (o1 : Int32) (o2 : dS) (h : zX10_runs q p1 = some (o1, o2)) : Met l yX10_runs wsX10_runs ({ frames := 91, cells := 0, slots := 0, locals := 2307 } : Room) (va_Pc [.ref (ad 0), .int p1] (kz_pre D ty eo (w10 ty ad q) sz)) (va_Qi (fun (r : Int32) (u : va_W) => o1 = r ∧ w10 ty ad o2 = u) (kz_B D ty (va_A (w10 ty ad q) sz)) (va_A (w10 ty ad q) sz)) 0 0 (va_A (w10 ty ad q) sz) := by
  refine Met.ofW (cc := cX10_runs) (maxL := 5) (ret := (some .boolean)) (by decide) rfl ?_
  intro p e s m args below meth c s₁ B hml hv
  obtain ⟨rfl, hsz, hP, hK, hD0, hN, hE⟩ := hv
  have hx := B.exec
  have hb := B.bytes
  have hr := B.returns
  have hts := atoms_spec (ws := wsX10_runs) B.pre
  have hown : s.vm.findClass RX10 = some m.cls := findClass_of_methodNamed B.named
  have hlocks := B.notSynchronized
  subst hsz
  have hD := hD0.self (sz := s.heap.size)
  generalize hAe : va_A (w10 ty ad q) s.heap.size = A at hD hE ⊢
  have hA : ∀ q : Nat, s.heap.size ≤ q → A q := fun q h => by rw [← hAe]; exact Or.inr h
  clear hAe
  have hS : va_S A s.heap s.heap [] := va_S.rf
  have hl := lv_entry ([.ref (ad 0), .int p1]) (n := 5) (Nat.le_of_ble_eq_true rfl)
  rw [lg_entry_eq]
  generalize (lg_sl ([.ref (ad 0), .int p1]) ++ List.replicate (5 - (lg_sl ([.ref (ad 0), .int p1])).length) Slot.unset).toArray = ls at hl ⊢
  have hl : lv_has ls 5 [(0, .ref (ad 0)), (1, .int p1)] := hl
  have C : dc_C p s m _ meth c cX10_runs (some .boolean) 5 RX10 wsX10_runs D ty eo A := ⟨hx, hb, hr, hts, hown, hlocks, hml, hK, hN, hE, hA⟩
  unfold zX10_runs at h
  refine lv_aload_n hx hb dX10_runs_0 rfl (lv_at hl 0 rfl) ?_
  refine lv_iload_n hx hb dX10_runs_1 rfl (lv_at hl 1 rfl) ?_
  refine lv_iconst (v := 0) hx hb dX10_runs_2 (by decide) ?_
  obtain ⟨q3, h2, h⟩ := dV_some h
  refine dw_kv (va_runV (As := [.int p1, .int 0]) (rest := []) ⟨hx, hb, hml, hown, hts⟩ (qX10_goesAlong l D ty eo _ ad q p1 0 q3 h2) (cwV 2 hts gX10_runs_X10_goesAlong rfl rfl rfl hd_X10_goesAlong_v ⟨Nat.le_of_ble_eq_true rfl, Nat.le_of_ble_eq_true rfl⟩) (pv10_10_0 hK hN hE hP hD hS hA) rfl rfl hl.1 rfl (lv_room (Nat.le_of_ble_eq_true rfl)) dX10_runs_3 ⟨Nat.le_of_ble_eq_true rfl, Nat.le_of_ble_eq_true rfl⟩) hD hS hA (fun u9 H locs hw hp hd hs => ?_)
  clear hP hD hS
  obtain rfl := hw
  have hP := hp; have hD := hd; have hS := hs; clear hp hd hs
  refine lv_aload_n hx hb dX10_runs_6 rfl (lv_at hl 0 rfl) ?_
  refine va_get (D := D) (ci := 10) (v := .int (q3.1 0 48)) (C := RX10) (T := TX10) (N := 56) hx hb hts u9_wsX10_runs_X10 hown hK hP 0 rfl rfl 48 (by decide) (hts (.fieldLink RX10 494 "TurnedFloorsModel" "howOften" "I") f9_wsX10_runs_289) (fun _ h9 => h9) rfl dX10_runs_7 ?_
  refine lv_istore_n (lv' := [(2, .int (q3.1 0 48)), (0, .ref (ad 0)), (1, .int p1)]) hx hb dX10_runs_10 rfl hl (by decide) rfl (fun ls hl => ?_)
  refine lv_aload_n hx hb dX10_runs_11 rfl (lv_at hl 1 rfl) ?_
  refine va_get (D := D) (ci := 10) (v := .int (q3.1 0 22)) (C := RX10) (T := TX10) (N := 56) hx hb hts u9_wsX10_runs_X10 hown hK hP 0 rfl rfl 22 (by decide) (hts (.fieldLink RX10 278 "TurnedFloorsModel" "go" "I") f9_wsX10_runs_290) (fun _ h9 => h9) rfl dX10_runs_12 ?_
  refine lv_istore_n (lv' := [(3, .int (q3.1 0 22)), (2, .int (q3.1 0 48)), (0, .ref (ad 0)), (1, .int p1)]) hx hb dX10_runs_15 rfl hl (by decide) rfl (fun ls hl => ?_)
  refine lv_iconst (v := 0) hx hb dX10_runs_16 (by decide) ?_
  refine lv_istore (lv' := [(4, .int 0), (3, .int (q3.1 0 22)), (2, .int (q3.1 0 48)), (0, .ref (ad 0)), (1, .int p1)]) hx hb dX10_runs_17 hl (by decide) rfl (fun ls hl => ?_)
  exact WX10_runs_19 C  _ _ _ _ _ _ _ _ _ h hP hD hS (lv_sub hl [3, 4, 2, 1, 0] rfl)
end
section
set_option maxRecDepth 20000 in
theorem ggX10_orders_X10_readsAs : GoodIn wsX10_orders wsX10_readsAs := wd_c vW10_ok mvW10_152
set_option maxRecDepth 20000 in
theorem gX10_orders_X10_readsAs : GoodIn wsX10_orders (wsV RX10 265 RX10 yX10_readsAs wsX10_readsAs) := goodIn_app (wd_l vW10_ok _ pvW10_178) ggX10_orders_X10_readsAs
set_option maxRecDepth 20000 in
theorem ggX10_orders_X10_refuses : GoodIn wsX10_orders wsX10_refuses := wd_c vW10_ok mvW10_13
set_option maxRecDepth 20000 in
theorem gX10_orders_X10_refuses : GoodIn wsX10_orders (wsV RX10 119 RX10 yX10_refuses wsX10_refuses) := goodIn_app (wd_l vW10_ok _ pvW10_142) ggX10_orders_X10_refuses
set_option maxRecDepth 20000 in
theorem ggX10_orders_X10_laysAside : GoodIn wsX10_orders wsX10_laysAside := wd_c vW10_ok mvW10_255
set_option maxRecDepth 20000 in
theorem gX10_orders_X10_laysAside : GoodIn wsX10_orders (wsV RX10 472 RX10 yX10_laysAside wsX10_laysAside) := goodIn_app (wd_l vW10_ok _ pvW10_233) ggX10_orders_X10_laysAside
set_option maxRecDepth 20000 in
theorem ggX10_orders_X10_lays : GoodIn wsX10_orders wsX10_lays := wd_c vW10_ok mvW10_247
set_option maxRecDepth 20000 in
theorem gX10_orders_X10_lays : GoodIn wsX10_orders (wsV RX10 269 RX10 yX10_lays wsX10_lays) := goodIn_app (wd_l vW10_ok _ pvW10_179) ggX10_orders_X10_lays
set_option maxRecDepth 20000 in
theorem ggX10_orders_X10_runs : GoodIn wsX10_orders wsX10_runs := wd_c vW10_ok mvW10_260
set_option maxRecDepth 20000 in
theorem gX10_orders_X10_runs : GoodIn wsX10_orders (wsV RX10 478 RX10 yX10_runs wsX10_runs) := goodIn_app (wd_l vW10_ok _ pvW10_234) ggX10_orders_X10_runs
set_option maxRecDepth 20000 in
theorem ggX10_orders_X10_takesBack : GoodIn wsX10_orders wsX10_takesBack := wd_c vW10_ok mvW10_321
set_option maxRecDepth 20000 in
theorem gX10_orders_X10_takesBack : GoodIn wsX10_orders (wsV RX10 481 RX10 yX10_takesBack wsX10_takesBack) := goodIn_app (wd_l vW10_ok _ pvW10_235) ggX10_orders_X10_takesBack
set_option maxRecDepth 20000 in
theorem ggX10_orders_X10_good : GoodIn wsX10_orders wsX10_good := wd_c vW10_ok mvW10_37
set_option maxRecDepth 20000 in
theorem gX10_orders_X10_good : GoodIn wsX10_orders (wsV RX10 14 RX10 yX10_good wsX10_good) := goodIn_app (wd_l vW10_ok _ pvW10_140) ggX10_orders_X10_good
theorem da9_dX10_orders_0 : (decode cX10_orders 0 = .ok (.aload_n 0, 1)) ∧ (decode cX10_orders 1 = .ok (.iconst (-1), 1)) ∧ (decode cX10_orders 2 = .ok (.putfield 110, 3)) ∧ (decode cX10_orders 5 = .ok (.aload_n 0, 1)) ∧ (decode cX10_orders 6 = .ok (.iconst 1, 1)) ∧ (decode cX10_orders 7 = .ok (.invokevirtual 265, 3)) ∧ (decode cX10_orders 10 = .ok (.ifCond .ne 10, 3)) ∧ (decode cX10_orders 13 = .ok (.aload_n 0, 1)) ∧ (decode cX10_orders 14 = .ok (.bipush (-6), 2)) ∧ (decode cX10_orders 16 = .ok (.invokevirtual 119, 3)) ∧ (decode cX10_orders 19 = .ok (.ireturn, 1)) ∧ (decode cX10_orders 20 = .ok (.aload_n 0, 1)) ∧ (decode cX10_orders 21 = .ok (.iconst 1, 1)) ∧ (decode cX10_orders 22 = .ok (.invokevirtual 472, 3)) ∧ (decode cX10_orders 25 = .ok (.iconst 0, 1)) ∧ (decode cX10_orders 26 = .ok (.istore_n 1, 1)) := by decide +kernel
theorem dX10_orders_0 : decode cX10_orders 0 = .ok (.aload_n 0, 1) := da9_dX10_orders_0.1
theorem dX10_orders_1 : decode cX10_orders 1 = .ok (.iconst (-1), 1) := da9_dX10_orders_0.2.1
theorem dX10_orders_2 : decode cX10_orders 2 = .ok (.putfield 110, 3) := da9_dX10_orders_0.2.2.1
theorem dX10_orders_5 : decode cX10_orders 5 = .ok (.aload_n 0, 1) := da9_dX10_orders_0.2.2.2.1
theorem dX10_orders_6 : decode cX10_orders 6 = .ok (.iconst 1, 1) := da9_dX10_orders_0.2.2.2.2.1
theorem dX10_orders_7 : decode cX10_orders 7 = .ok (.invokevirtual 265, 3) := da9_dX10_orders_0.2.2.2.2.2.1
theorem dX10_orders_10 : decode cX10_orders 10 = .ok (.ifCond .ne 10, 3) := da9_dX10_orders_0.2.2.2.2.2.2.1
theorem dX10_orders_13 : decode cX10_orders 13 = .ok (.aload_n 0, 1) := da9_dX10_orders_0.2.2.2.2.2.2.2.1
theorem dX10_orders_14 : decode cX10_orders 14 = .ok (.bipush (-6), 2) := da9_dX10_orders_0.2.2.2.2.2.2.2.2.1
theorem dX10_orders_16 : decode cX10_orders 16 = .ok (.invokevirtual 119, 3) := da9_dX10_orders_0.2.2.2.2.2.2.2.2.2.1
theorem dX10_orders_19 : decode cX10_orders 19 = .ok (.ireturn, 1) := da9_dX10_orders_0.2.2.2.2.2.2.2.2.2.2.1
theorem dX10_orders_20 : decode cX10_orders 20 = .ok (.aload_n 0, 1) := da9_dX10_orders_0.2.2.2.2.2.2.2.2.2.2.2.1
theorem dX10_orders_21 : decode cX10_orders 21 = .ok (.iconst 1, 1) := da9_dX10_orders_0.2.2.2.2.2.2.2.2.2.2.2.2.1
theorem dX10_orders_22 : decode cX10_orders 22 = .ok (.invokevirtual 472, 3) := da9_dX10_orders_0.2.2.2.2.2.2.2.2.2.2.2.2.2.1
theorem dX10_orders_25 : decode cX10_orders 25 = .ok (.iconst 0, 1) := da9_dX10_orders_0.2.2.2.2.2.2.2.2.2.2.2.2.2.2.1
theorem dX10_orders_26 : decode cX10_orders 26 = .ok (.istore_n 1, 1) := da9_dX10_orders_0.2.2.2.2.2.2.2.2.2.2.2.2.2.2.2
theorem da9_dX10_orders_27 : (decode cX10_orders 27 = .ok (.iload_n 1, 1)) ∧ (decode cX10_orders 28 = .ok (.sipush 240, 3)) ∧ (decode cX10_orders 31 = .ok (.if_icmp .ge 21, 3)) ∧ (decode cX10_orders 34 = .ok (.aload_n 0, 1)) ∧ (decode cX10_orders 35 = .ok (.getfield 72, 3)) ∧ (decode cX10_orders 38 = .ok (.iload_n 1, 1)) ∧ (decode cX10_orders 39 = .ok (.aload_n 0, 1)) ∧ (decode cX10_orders 40 = .ok (.getfield 69, 3)) ∧ (decode cX10_orders 43 = .ok (.iload_n 1, 1)) ∧ (decode cX10_orders 44 = .ok (.iaload, 1)) ∧ (decode cX10_orders 45 = .ok (.iastore, 1)) ∧ (decode cX10_orders 46 = .ok (.iinc 1 1, 3)) ∧ (decode cX10_orders 49 = .ok (.goto (-22), 3)) ∧ (decode cX10_orders 52 = .ok (.aload_n 0, 1)) ∧ (decode cX10_orders 53 = .ok (.getfield 11, 3)) ∧ (decode cX10_orders 56 = .ok (.istore_n 1, 1)) := by decide +kernel
theorem dX10_orders_27 : decode cX10_orders 27 = .ok (.iload_n 1, 1) := da9_dX10_orders_27.1
theorem dX10_orders_28 : decode cX10_orders 28 = .ok (.sipush 240, 3) := da9_dX10_orders_27.2.1
theorem dX10_orders_31 : decode cX10_orders 31 = .ok (.if_icmp .ge 21, 3) := da9_dX10_orders_27.2.2.1
theorem dX10_orders_34 : decode cX10_orders 34 = .ok (.aload_n 0, 1) := da9_dX10_orders_27.2.2.2.1
theorem dX10_orders_35 : decode cX10_orders 35 = .ok (.getfield 72, 3) := da9_dX10_orders_27.2.2.2.2.1
theorem dX10_orders_38 : decode cX10_orders 38 = .ok (.iload_n 1, 1) := da9_dX10_orders_27.2.2.2.2.2.1
theorem dX10_orders_39 : decode cX10_orders 39 = .ok (.aload_n 0, 1) := da9_dX10_orders_27.2.2.2.2.2.2.1
theorem dX10_orders_40 : decode cX10_orders 40 = .ok (.getfield 69, 3) := da9_dX10_orders_27.2.2.2.2.2.2.2.1
theorem dX10_orders_43 : decode cX10_orders 43 = .ok (.iload_n 1, 1) := da9_dX10_orders_27.2.2.2.2.2.2.2.2.1
theorem dX10_orders_44 : decode cX10_orders 44 = .ok (.iaload, 1) := da9_dX10_orders_27.2.2.2.2.2.2.2.2.2.1
theorem dX10_orders_45 : decode cX10_orders 45 = .ok (.iastore, 1) := da9_dX10_orders_27.2.2.2.2.2.2.2.2.2.2.1
theorem dX10_orders_46 : decode cX10_orders 46 = .ok (.iinc 1 1, 3) := da9_dX10_orders_27.2.2.2.2.2.2.2.2.2.2.2.1
theorem dX10_orders_49 : decode cX10_orders 49 = .ok (.goto (-22), 3) := da9_dX10_orders_27.2.2.2.2.2.2.2.2.2.2.2.2.1
theorem dX10_orders_52 : decode cX10_orders 52 = .ok (.aload_n 0, 1) := da9_dX10_orders_27.2.2.2.2.2.2.2.2.2.2.2.2.2.1
theorem dX10_orders_53 : decode cX10_orders 53 = .ok (.getfield 11, 3) := da9_dX10_orders_27.2.2.2.2.2.2.2.2.2.2.2.2.2.2.1
theorem dX10_orders_56 : decode cX10_orders 56 = .ok (.istore_n 1, 1) := da9_dX10_orders_27.2.2.2.2.2.2.2.2.2.2.2.2.2.2.2
theorem da9_dX10_orders_57 : (decode cX10_orders 57 = .ok (.aload_n 0, 1)) ∧ (decode cX10_orders 58 = .ok (.bipush 6, 2)) ∧ (decode cX10_orders 60 = .ok (.invokevirtual 269, 3)) ∧ (decode cX10_orders 63 = .ok (.aload_n 0, 1)) ∧ (decode cX10_orders 64 = .ok (.iconst 0, 1)) ∧ (decode cX10_orders 65 = .ok (.putfield 314, 3)) ∧ (decode cX10_orders 68 = .ok (.aload_n 0, 1)) ∧ (decode cX10_orders 69 = .ok (.iconst (-1), 1)) ∧ (decode cX10_orders 70 = .ok (.putfield 317, 3)) ∧ (decode cX10_orders 73 = .ok (.aload_n 0, 1)) ∧ (decode cX10_orders 74 = .ok (.sipush 2400, 3)) ∧ (decode cX10_orders 77 = .ok (.putfield 475, 3)) ∧ (decode cX10_orders 80 = .ok (.aload_n 0, 1)) ∧ (decode cX10_orders 81 = .ok (.getfield 475, 3)) ∧ (decode cX10_orders 84 = .ok (.aload_n 0, 1)) ∧ (decode cX10_orders 85 = .ok (.getfield 28, 3)) := by decide +kernel
theorem dX10_orders_57 : decode cX10_orders 57 = .ok (.aload_n 0, 1) := da9_dX10_orders_57.1
theorem dX10_orders_58 : decode cX10_orders 58 = .ok (.bipush 6, 2) := da9_dX10_orders_57.2.1
theorem dX10_orders_60 : decode cX10_orders 60 = .ok (.invokevirtual 269, 3) := da9_dX10_orders_57.2.2.1
theorem dX10_orders_63 : decode cX10_orders 63 = .ok (.aload_n 0, 1) := da9_dX10_orders_57.2.2.2.1
theorem dX10_orders_64 : decode cX10_orders 64 = .ok (.iconst 0, 1) := da9_dX10_orders_57.2.2.2.2.1
theorem dX10_orders_65 : decode cX10_orders 65 = .ok (.putfield 314, 3) := da9_dX10_orders_57.2.2.2.2.2.1
theorem dX10_orders_68 : decode cX10_orders 68 = .ok (.aload_n 0, 1) := da9_dX10_orders_57.2.2.2.2.2.2.1
theorem dX10_orders_69 : decode cX10_orders 69 = .ok (.iconst (-1), 1) := da9_dX10_orders_57.2.2.2.2.2.2.2.1
theorem dX10_orders_70 : decode cX10_orders 70 = .ok (.putfield 317, 3) := da9_dX10_orders_57.2.2.2.2.2.2.2.2.1
theorem dX10_orders_73 : decode cX10_orders 73 = .ok (.aload_n 0, 1) := da9_dX10_orders_57.2.2.2.2.2.2.2.2.2.1
theorem dX10_orders_74 : decode cX10_orders 74 = .ok (.sipush 2400, 3) := da9_dX10_orders_57.2.2.2.2.2.2.2.2.2.2.1
theorem dX10_orders_77 : decode cX10_orders 77 = .ok (.putfield 475, 3) := da9_dX10_orders_57.2.2.2.2.2.2.2.2.2.2.2.1
theorem dX10_orders_80 : decode cX10_orders 80 = .ok (.aload_n 0, 1) := da9_dX10_orders_57.2.2.2.2.2.2.2.2.2.2.2.2.1
theorem dX10_orders_81 : decode cX10_orders 81 = .ok (.getfield 475, 3) := da9_dX10_orders_57.2.2.2.2.2.2.2.2.2.2.2.2.2.1
theorem dX10_orders_84 : decode cX10_orders 84 = .ok (.aload_n 0, 1) := da9_dX10_orders_57.2.2.2.2.2.2.2.2.2.2.2.2.2.2.1
theorem dX10_orders_85 : decode cX10_orders 85 = .ok (.getfield 28, 3) := da9_dX10_orders_57.2.2.2.2.2.2.2.2.2.2.2.2.2.2.2
theorem da9_dX10_orders_88 : (decode cX10_orders 88 = .ok (.bipush 39, 2)) ∧ (decode cX10_orders 90 = .ok (.iaload, 1)) ∧ (decode cX10_orders 91 = .ok (.iadd, 1)) ∧ (decode cX10_orders 92 = .ok (.istore_n 2, 1)) ∧ (decode cX10_orders 93 = .ok (.iconst 0, 1)) ∧ (decode cX10_orders 94 = .ok (.istore_n 3, 1)) ∧ (decode cX10_orders 95 = .ok (.aload_n 0, 1)) ∧ (decode cX10_orders 96 = .ok (.getfield 475, 3)) ∧ (decode cX10_orders 99 = .ok (.iload_n 2, 1)) ∧ (decode cX10_orders 100 = .ok (.if_icmp .ge 73, 3)) ∧ (decode cX10_orders 103 = .ok (.aload_n 0, 1)) ∧ (decode cX10_orders 104 = .ok (.iload_n 2, 1)) ∧ (decode cX10_orders 105 = .ok (.invokevirtual 478, 3)) ∧ (decode cX10_orders 108 = .ok (.ifCond .eq 6, 3)) ∧ (decode cX10_orders 111 = .ok (.goto 56, 3)) ∧ (decode cX10_orders 114 = .ok (.aload_n 0, 1)) := by decide +kernel
theorem dX10_orders_88 : decode cX10_orders 88 = .ok (.bipush 39, 2) := da9_dX10_orders_88.1
theorem dX10_orders_90 : decode cX10_orders 90 = .ok (.iaload, 1) := da9_dX10_orders_88.2.1
theorem dX10_orders_91 : decode cX10_orders 91 = .ok (.iadd, 1) := da9_dX10_orders_88.2.2.1
theorem dX10_orders_92 : decode cX10_orders 92 = .ok (.istore_n 2, 1) := da9_dX10_orders_88.2.2.2.1
theorem dX10_orders_93 : decode cX10_orders 93 = .ok (.iconst 0, 1) := da9_dX10_orders_88.2.2.2.2.1
theorem dX10_orders_94 : decode cX10_orders 94 = .ok (.istore_n 3, 1) := da9_dX10_orders_88.2.2.2.2.2.1
theorem dX10_orders_95 : decode cX10_orders 95 = .ok (.aload_n 0, 1) := da9_dX10_orders_88.2.2.2.2.2.2.1
theorem dX10_orders_96 : decode cX10_orders 96 = .ok (.getfield 475, 3) := da9_dX10_orders_88.2.2.2.2.2.2.2.1
theorem dX10_orders_99 : decode cX10_orders 99 = .ok (.iload_n 2, 1) := da9_dX10_orders_88.2.2.2.2.2.2.2.2.1
theorem dX10_orders_100 : decode cX10_orders 100 = .ok (.if_icmp .ge 73, 3) := da9_dX10_orders_88.2.2.2.2.2.2.2.2.2.1
theorem dX10_orders_103 : decode cX10_orders 103 = .ok (.aload_n 0, 1) := da9_dX10_orders_88.2.2.2.2.2.2.2.2.2.2.1
theorem dX10_orders_104 : decode cX10_orders 104 = .ok (.iload_n 2, 1) := da9_dX10_orders_88.2.2.2.2.2.2.2.2.2.2.2.1
theorem dX10_orders_105 : decode cX10_orders 105 = .ok (.invokevirtual 478, 3) := da9_dX10_orders_88.2.2.2.2.2.2.2.2.2.2.2.2.1
theorem dX10_orders_108 : decode cX10_orders 108 = .ok (.ifCond .eq 6, 3) := da9_dX10_orders_88.2.2.2.2.2.2.2.2.2.2.2.2.2.1
theorem dX10_orders_111 : decode cX10_orders 111 = .ok (.goto 56, 3) := da9_dX10_orders_88.2.2.2.2.2.2.2.2.2.2.2.2.2.2.1
theorem dX10_orders_114 : decode cX10_orders 114 = .ok (.aload_n 0, 1) := da9_dX10_orders_88.2.2.2.2.2.2.2.2.2.2.2.2.2.2.2
theorem da9_dX10_orders_115 : (decode cX10_orders 115 = .ok (.iconst 1, 1)) ∧ (decode cX10_orders 116 = .ok (.invokevirtual 481, 3)) ∧ (decode cX10_orders 119 = .ok (.iconst 0, 1)) ∧ (decode cX10_orders 120 = .ok (.istore 4, 2)) ∧ (decode cX10_orders 122 = .ok (.iload 4, 2)) ∧ (decode cX10_orders 124 = .ok (.sipush 240, 3)) ∧ (decode cX10_orders 127 = .ok (.if_icmp .ge 23, 3)) ∧ (decode cX10_orders 130 = .ok (.aload_n 0, 1)) ∧ (decode cX10_orders 131 = .ok (.getfield 69, 3)) ∧ (decode cX10_orders 134 = .ok (.iload 4, 2)) ∧ (decode cX10_orders 136 = .ok (.aload_n 0, 1)) ∧ (decode cX10_orders 137 = .ok (.getfield 72, 3)) ∧ (decode cX10_orders 140 = .ok (.iload 4, 2)) ∧ (decode cX10_orders 142 = .ok (.iaload, 1)) ∧ (decode cX10_orders 143 = .ok (.iastore, 1)) ∧ (decode cX10_orders 144 = .ok (.iinc 4 1, 3)) := by decide +kernel
theorem dX10_orders_115 : decode cX10_orders 115 = .ok (.iconst 1, 1) := da9_dX10_orders_115.1
theorem dX10_orders_116 : decode cX10_orders 116 = .ok (.invokevirtual 481, 3) := da9_dX10_orders_115.2.1
theorem dX10_orders_119 : decode cX10_orders 119 = .ok (.iconst 0, 1) := da9_dX10_orders_115.2.2.1
theorem dX10_orders_120 : decode cX10_orders 120 = .ok (.istore 4, 2) := da9_dX10_orders_115.2.2.2.1
theorem dX10_orders_122 : decode cX10_orders 122 = .ok (.iload 4, 2) := da9_dX10_orders_115.2.2.2.2.1
theorem dX10_orders_124 : decode cX10_orders 124 = .ok (.sipush 240, 3) := da9_dX10_orders_115.2.2.2.2.2.1
theorem dX10_orders_127 : decode cX10_orders 127 = .ok (.if_icmp .ge 23, 3) := da9_dX10_orders_115.2.2.2.2.2.2.1
theorem dX10_orders_130 : decode cX10_orders 130 = .ok (.aload_n 0, 1) := da9_dX10_orders_115.2.2.2.2.2.2.2.1
theorem dX10_orders_131 : decode cX10_orders 131 = .ok (.getfield 69, 3) := da9_dX10_orders_115.2.2.2.2.2.2.2.2.1
theorem dX10_orders_134 : decode cX10_orders 134 = .ok (.iload 4, 2) := da9_dX10_orders_115.2.2.2.2.2.2.2.2.2.1
theorem dX10_orders_136 : decode cX10_orders 136 = .ok (.aload_n 0, 1) := da9_dX10_orders_115.2.2.2.2.2.2.2.2.2.2.1
theorem dX10_orders_137 : decode cX10_orders 137 = .ok (.getfield 72, 3) := da9_dX10_orders_115.2.2.2.2.2.2.2.2.2.2.2.1
theorem dX10_orders_140 : decode cX10_orders 140 = .ok (.iload 4, 2) := da9_dX10_orders_115.2.2.2.2.2.2.2.2.2.2.2.2.1
theorem dX10_orders_142 : decode cX10_orders 142 = .ok (.iaload, 1) := da9_dX10_orders_115.2.2.2.2.2.2.2.2.2.2.2.2.2.1
theorem dX10_orders_143 : decode cX10_orders 143 = .ok (.iastore, 1) := da9_dX10_orders_115.2.2.2.2.2.2.2.2.2.2.2.2.2.2.1
theorem dX10_orders_144 : decode cX10_orders 144 = .ok (.iinc 4 1, 3) := da9_dX10_orders_115.2.2.2.2.2.2.2.2.2.2.2.2.2.2.2
theorem da9_dX10_orders_147 : (decode cX10_orders 147 = .ok (.goto (-25), 3)) ∧ (decode cX10_orders 150 = .ok (.aload_n 0, 1)) ∧ (decode cX10_orders 151 = .ok (.iload_n 1, 1)) ∧ (decode cX10_orders 152 = .ok (.putfield 11, 3)) ∧ (decode cX10_orders 155 = .ok (.aload_n 0, 1)) ∧ (decode cX10_orders 156 = .ok (.iload_n 3, 1)) ∧ (decode cX10_orders 157 = .ok (.putfield 110, 3)) ∧ (decode cX10_orders 160 = .ok (.aload_n 0, 1)) ∧ (decode cX10_orders 161 = .ok (.bipush (-3), 2)) ∧ (decode cX10_orders 163 = .ok (.invokevirtual 119, 3)) ∧ (decode cX10_orders 166 = .ok (.ireturn, 1)) ∧ (decode cX10_orders 167 = .ok (.iinc 3 1, 3)) ∧ (decode cX10_orders 170 = .ok (.goto (-75), 3)) ∧ (decode cX10_orders 173 = .ok (.aload_n 0, 1)) ∧ (decode cX10_orders 174 = .ok (.aload_n 0, 1)) ∧ (decode cX10_orders 175 = .ok (.getfield 314, 3)) := by decide +kernel
theorem dX10_orders_147 : decode cX10_orders 147 = .ok (.goto (-25), 3) := da9_dX10_orders_147.1
theorem dX10_orders_150 : decode cX10_orders 150 = .ok (.aload_n 0, 1) := da9_dX10_orders_147.2.1
theorem dX10_orders_151 : decode cX10_orders 151 = .ok (.iload_n 1, 1) := da9_dX10_orders_147.2.2.1
theorem dX10_orders_152 : decode cX10_orders 152 = .ok (.putfield 11, 3) := da9_dX10_orders_147.2.2.2.1
theorem dX10_orders_155 : decode cX10_orders 155 = .ok (.aload_n 0, 1) := da9_dX10_orders_147.2.2.2.2.1
theorem dX10_orders_156 : decode cX10_orders 156 = .ok (.iload_n 3, 1) := da9_dX10_orders_147.2.2.2.2.2.1
theorem dX10_orders_157 : decode cX10_orders 157 = .ok (.putfield 110, 3) := da9_dX10_orders_147.2.2.2.2.2.2.1
theorem dX10_orders_160 : decode cX10_orders 160 = .ok (.aload_n 0, 1) := da9_dX10_orders_147.2.2.2.2.2.2.2.1
theorem dX10_orders_161 : decode cX10_orders 161 = .ok (.bipush (-3), 2) := da9_dX10_orders_147.2.2.2.2.2.2.2.2.1
theorem dX10_orders_163 : decode cX10_orders 163 = .ok (.invokevirtual 119, 3) := da9_dX10_orders_147.2.2.2.2.2.2.2.2.2.1
theorem dX10_orders_166 : decode cX10_orders 166 = .ok (.ireturn, 1) := da9_dX10_orders_147.2.2.2.2.2.2.2.2.2.2.1
theorem dX10_orders_167 : decode cX10_orders 167 = .ok (.iinc 3 1, 3) := da9_dX10_orders_147.2.2.2.2.2.2.2.2.2.2.2.1
theorem dX10_orders_170 : decode cX10_orders 170 = .ok (.goto (-75), 3) := da9_dX10_orders_147.2.2.2.2.2.2.2.2.2.2.2.2.1
theorem dX10_orders_173 : decode cX10_orders 173 = .ok (.aload_n 0, 1) := da9_dX10_orders_147.2.2.2.2.2.2.2.2.2.2.2.2.2.1
theorem dX10_orders_174 : decode cX10_orders 174 = .ok (.aload_n 0, 1) := da9_dX10_orders_147.2.2.2.2.2.2.2.2.2.2.2.2.2.2.1
theorem dX10_orders_175 : decode cX10_orders 175 = .ok (.getfield 314, 3) := da9_dX10_orders_147.2.2.2.2.2.2.2.2.2.2.2.2.2.2.2
theorem da9_dX10_orders_178 : (decode cX10_orders 178 = .ok (.invokevirtual 14, 3)) ∧ (decode cX10_orders 181 = .ok (.ireturn, 1)) := by decide +kernel
theorem dX10_orders_178 : decode cX10_orders 178 = .ok (.invokevirtual 14, 3) := da9_dX10_orders_178.1
theorem dX10_orders_181 : decode cX10_orders 181 = .ok (.ireturn, 1) := da9_dX10_orders_178.2
theorem da9_dX10_draws_0 : (decode cX10_draws 0 = .ok (.aload_n 0, 1)) ∧ (decode cX10_draws 1 = .ok (.ldc2_w 513, 3)) ∧ (decode cX10_draws 4 = .ok (.aload_n 0, 1)) ∧ (decode cX10_draws 5 = .ok (.getfield 515, 3)) ∧ (decode cX10_draws 8 = .ok (.i2l, 1)) ∧ (decode cX10_draws 9 = .ok (.lmul, 1)) ∧ (decode cX10_draws 10 = .ok (.ldc2_w 518, 3)) ∧ (decode cX10_draws 13 = .ok (.ladd, 1)) ∧ (decode cX10_draws 14 = .ok (.ldc2_w 520, 3)) ∧ (decode cX10_draws 17 = .ok (.lrem, 1)) ∧ (decode cX10_draws 18 = .ok (.l2i, 1)) ∧ (decode cX10_draws 19 = .ok (.putfield 515, 3)) ∧ (decode cX10_draws 22 = .ok (.aload_n 0, 1)) ∧ (decode cX10_draws 23 = .ok (.getfield 515, 3)) ∧ (decode cX10_draws 26 = .ok (.iload_n 1, 1)) ∧ (decode cX10_draws 27 = .ok (.irem, 1)) := by decide +kernel
theorem dX10_draws_0 : decode cX10_draws 0 = .ok (.aload_n 0, 1) := da9_dX10_draws_0.1
theorem dX10_draws_1 : decode cX10_draws 1 = .ok (.ldc2_w 513, 3) := da9_dX10_draws_0.2.1
theorem dX10_draws_4 : decode cX10_draws 4 = .ok (.aload_n 0, 1) := da9_dX10_draws_0.2.2.1
theorem dX10_draws_5 : decode cX10_draws 5 = .ok (.getfield 515, 3) := da9_dX10_draws_0.2.2.2.1
theorem dX10_draws_8 : decode cX10_draws 8 = .ok (.i2l, 1) := da9_dX10_draws_0.2.2.2.2.1
theorem dX10_draws_9 : decode cX10_draws 9 = .ok (.lmul, 1) := da9_dX10_draws_0.2.2.2.2.2.1
theorem dX10_draws_10 : decode cX10_draws 10 = .ok (.ldc2_w 518, 3) := da9_dX10_draws_0.2.2.2.2.2.2.1
theorem dX10_draws_13 : decode cX10_draws 13 = .ok (.ladd, 1) := da9_dX10_draws_0.2.2.2.2.2.2.2.1
theorem dX10_draws_14 : decode cX10_draws 14 = .ok (.ldc2_w 520, 3) := da9_dX10_draws_0.2.2.2.2.2.2.2.2.1
theorem dX10_draws_17 : decode cX10_draws 17 = .ok (.lrem, 1) := da9_dX10_draws_0.2.2.2.2.2.2.2.2.2.1
theorem dX10_draws_18 : decode cX10_draws 18 = .ok (.l2i, 1) := da9_dX10_draws_0.2.2.2.2.2.2.2.2.2.2.1
theorem dX10_draws_19 : decode cX10_draws 19 = .ok (.putfield 515, 3) := da9_dX10_draws_0.2.2.2.2.2.2.2.2.2.2.2.1
theorem dX10_draws_22 : decode cX10_draws 22 = .ok (.aload_n 0, 1) := da9_dX10_draws_0.2.2.2.2.2.2.2.2.2.2.2.2.1
theorem dX10_draws_23 : decode cX10_draws 23 = .ok (.getfield 515, 3) := da9_dX10_draws_0.2.2.2.2.2.2.2.2.2.2.2.2.2.1
theorem dX10_draws_26 : decode cX10_draws 26 = .ok (.iload_n 1, 1) := da9_dX10_draws_0.2.2.2.2.2.2.2.2.2.2.2.2.2.2.1
theorem dX10_draws_27 : decode cX10_draws 27 = .ok (.irem, 1) := da9_dX10_draws_0.2.2.2.2.2.2.2.2.2.2.2.2.2.2.2
theorem dX10_draws_28 : decode cX10_draws 28 = .ok (.ireturn, 1) := by decide +kernel
set_option maxRecDepth 20000 in
theorem ggX10_years_X10_lies : GoodIn wsX10_years wsX10_lies := wd_c vW10_ok mvW10_6
set_option maxRecDepth 20000 in
theorem gX10_years_X10_lies : GoodIn wsX10_years (va_wsS RX10 18 yX10_lies wsX10_lies) := goodIn_app (wd_l vW10_ok _ pvW10_141) ggX10_years_X10_lies
set_option maxRecDepth 20000 in
theorem ggX10_years_X10_refuses : GoodIn wsX10_years wsX10_refuses := wd_c vW10_ok mvW10_13
set_option maxRecDepth 20000 in
theorem gX10_years_X10_refuses : GoodIn wsX10_years (wsV RX10 119 RX10 yX10_refuses wsX10_refuses) := goodIn_app (wd_l vW10_ok _ pvW10_142) ggX10_years_X10_refuses
set_option maxRecDepth 20000 in
theorem ggX10_years_X10_size : GoodIn wsX10_years wsX10_size := wd_c vW10_ok mvW10_24
set_option maxRecDepth 20000 in
theorem gX10_years_X10_size : GoodIn wsX10_years (wsV RX10 125 RX10 yX10_size wsX10_size) := goodIn_app (wd_l vW10_ok _ pvW10_144) ggX10_years_X10_size
set_option maxRecDepth 20000 in
theorem ggX10_years_X10_laysAside : GoodIn wsX10_years wsX10_laysAside := wd_c vW10_ok mvW10_255
set_option maxRecDepth 20000 in
theorem gX10_years_X10_laysAside : GoodIn wsX10_years (wsV RX10 472 RX10 yX10_laysAside wsX10_laysAside) := goodIn_app (wd_l vW10_ok _ pvW10_233) ggX10_years_X10_laysAside
set_option maxRecDepth 20000 in
theorem ggX10_years_X10_draws : GoodIn wsX10_years wsX10_draws := wd_c vW10_ok mvW10_449
set_option maxRecDepth 20000 in
theorem gX10_years_X10_draws : GoodIn wsX10_years (wsV RX10 522 RX10 yX10_draws wsX10_draws) := goodIn_app (wd_l vW10_ok _ pvW10_239) ggX10_years_X10_draws
set_option maxRecDepth 20000 in
theorem ggX10_years_X10_canTurn : GoodIn wsX10_years wsX10_canTurn := wd_c vW10_ok mvW10_310
set_option maxRecDepth 20000 in
theorem gX10_years_X10_canTurn : GoodIn wsX10_years (wsV RX10 353 RX10 yX10_canTurn wsX10_canTurn) := goodIn_app (wd_l vW10_ok _ pvW10_198) ggX10_years_X10_canTurn
set_option maxRecDepth 20000 in
theorem ggX10_years_X10_turns : GoodIn wsX10_years wsX10_turns := wd_c vW10_ok mvW10_314
set_option maxRecDepth 20000 in
theorem gX10_years_X10_turns : GoodIn wsX10_years (wsV RX10 359 RX10 yX10_turns wsX10_turns) := goodIn_app (wd_l vW10_ok _ pvW10_200) ggX10_years_X10_turns
set_option maxRecDepth 20000 in
theorem ggX10_years_X10_isPlace : GoodIn wsX10_years wsX10_isPlace := wd_c vW10_ok mvW10_41
set_option maxRecDepth 20000 in
theorem gX10_years_X10_isPlace : GoodIn wsX10_years (wsV RX10 143 RX10 yX10_isPlace wsX10_isPlace) := goodIn_app (wd_l vW10_ok _ pvW10_149) ggX10_years_X10_isPlace
set_option maxRecDepth 20000 in
theorem ggX10_years_X10_yearPasses : GoodIn wsX10_years wsX10_yearPasses := wd_c vW10_ok mvW10_301
set_option maxRecDepth 20000 in
theorem gX10_years_X10_yearPasses : GoodIn wsX10_years (wsV RX10 362 RX10 yX10_yearPasses wsX10_yearPasses) := goodIn_app (wd_l vW10_ok _ pvW10_201) ggX10_years_X10_yearPasses
set_option maxRecDepth 20000 in
theorem ggX10_years_X10_takesBack : GoodIn wsX10_years wsX10_takesBack := wd_c vW10_ok mvW10_321
set_option maxRecDepth 20000 in
theorem gX10_years_X10_takesBack : GoodIn wsX10_years (wsV RX10 481 RX10 yX10_takesBack wsX10_takesBack) := goodIn_app (wd_l vW10_ok _ pvW10_235) ggX10_years_X10_takesBack
set_option maxRecDepth 20000 in
theorem ggX10_years_X10_good : GoodIn wsX10_years wsX10_good := wd_c vW10_ok mvW10_37
set_option maxRecDepth 20000 in
theorem gX10_years_X10_good : GoodIn wsX10_years (wsV RX10 14 RX10 yX10_good wsX10_good) := goodIn_app (wd_l vW10_ok _ pvW10_140) ggX10_years_X10_good
theorem da9_dX10_years_0 : (decode cX10_years 0 = .ok (.iload_n 1, 1)) ∧ (decode cX10_years 1 = .ok (.iconst 0, 1)) ∧ (decode cX10_years 2 = .ok (.ldc 188, 2)) ∧ (decode cX10_years 4 = .ok (.invokestatic 18, 3)) ∧ (decode cX10_years 7 = .ok (.ifCond .eq 13, 3)) ∧ (decode cX10_years 10 = .ok (.iload_n 2, 1)) ∧ (decode cX10_years 11 = .ok (.iconst 1, 1)) ∧ (decode cX10_years 12 = .ok (.bipush 60, 2)) ∧ (decode cX10_years 14 = .ok (.invokestatic 18, 3)) ∧ (decode cX10_years 17 = .ok (.ifCond .ne 9, 3)) ∧ (decode cX10_years 20 = .ok (.aload_n 0, 1)) ∧ (decode cX10_years 21 = .ok (.iconst (-1), 1)) ∧ (decode cX10_years 22 = .ok (.invokevirtual 119, 3)) ∧ (decode cX10_years 25 = .ok (.ireturn, 1)) ∧ (decode cX10_years 26 = .ok (.aload_n 0, 1)) ∧ (decode cX10_years 27 = .ok (.invokevirtual 125, 3)) := by decide +kernel
theorem dX10_years_0 : decode cX10_years 0 = .ok (.iload_n 1, 1) := da9_dX10_years_0.1
theorem dX10_years_1 : decode cX10_years 1 = .ok (.iconst 0, 1) := da9_dX10_years_0.2.1
theorem dX10_years_2 : decode cX10_years 2 = .ok (.ldc 188, 2) := da9_dX10_years_0.2.2.1
theorem dX10_years_4 : decode cX10_years 4 = .ok (.invokestatic 18, 3) := da9_dX10_years_0.2.2.2.1
theorem dX10_years_7 : decode cX10_years 7 = .ok (.ifCond .eq 13, 3) := da9_dX10_years_0.2.2.2.2.1
theorem dX10_years_10 : decode cX10_years 10 = .ok (.iload_n 2, 1) := da9_dX10_years_0.2.2.2.2.2.1
theorem dX10_years_11 : decode cX10_years 11 = .ok (.iconst 1, 1) := da9_dX10_years_0.2.2.2.2.2.2.1
theorem dX10_years_12 : decode cX10_years 12 = .ok (.bipush 60, 2) := da9_dX10_years_0.2.2.2.2.2.2.2.1
theorem dX10_years_14 : decode cX10_years 14 = .ok (.invokestatic 18, 3) := da9_dX10_years_0.2.2.2.2.2.2.2.2.1
theorem dX10_years_17 : decode cX10_years 17 = .ok (.ifCond .ne 9, 3) := da9_dX10_years_0.2.2.2.2.2.2.2.2.2.1
theorem dX10_years_20 : decode cX10_years 20 = .ok (.aload_n 0, 1) := da9_dX10_years_0.2.2.2.2.2.2.2.2.2.2.1
theorem dX10_years_21 : decode cX10_years 21 = .ok (.iconst (-1), 1) := da9_dX10_years_0.2.2.2.2.2.2.2.2.2.2.2.1
theorem dX10_years_22 : decode cX10_years 22 = .ok (.invokevirtual 119, 3) := da9_dX10_years_0.2.2.2.2.2.2.2.2.2.2.2.2.1
theorem dX10_years_25 : decode cX10_years 25 = .ok (.ireturn, 1) := da9_dX10_years_0.2.2.2.2.2.2.2.2.2.2.2.2.2.1
theorem dX10_years_26 : decode cX10_years 26 = .ok (.aload_n 0, 1) := da9_dX10_years_0.2.2.2.2.2.2.2.2.2.2.2.2.2.2.1
theorem dX10_years_27 : decode cX10_years 27 = .ok (.invokevirtual 125, 3) := da9_dX10_years_0.2.2.2.2.2.2.2.2.2.2.2.2.2.2.2
theorem da9_dX10_years_30 : (decode cX10_years 30 = .ok (.ifCond .ne 10, 3)) ∧ (decode cX10_years 33 = .ok (.aload_n 0, 1)) ∧ (decode cX10_years 34 = .ok (.bipush (-3), 2)) ∧ (decode cX10_years 36 = .ok (.invokevirtual 119, 3)) ∧ (decode cX10_years 39 = .ok (.ireturn, 1)) ∧ (decode cX10_years 40 = .ok (.aload_n 0, 1)) ∧ (decode cX10_years 41 = .ok (.iload_n 1, 1)) ∧ (decode cX10_years 42 = .ok (.putfield 515, 3)) ∧ (decode cX10_years 45 = .ok (.aload_n 0, 1)) ∧ (decode cX10_years 46 = .ok (.aload_n 0, 1)) ∧ (decode cX10_years 47 = .ok (.invokevirtual 125, 3)) ∧ (decode cX10_years 50 = .ok (.putfield 116, 3)) ∧ (decode cX10_years 53 = .ok (.aload_n 0, 1)) ∧ (decode cX10_years 54 = .ok (.iconst 0, 1)) ∧ (decode cX10_years 55 = .ok (.invokevirtual 472, 3)) ∧ (decode cX10_years 58 = .ok (.aload_n 0, 1)) := by decide +kernel
theorem dX10_years_30 : decode cX10_years 30 = .ok (.ifCond .ne 10, 3) := da9_dX10_years_30.1
theorem dX10_years_33 : decode cX10_years 33 = .ok (.aload_n 0, 1) := da9_dX10_years_30.2.1
theorem dX10_years_34 : decode cX10_years 34 = .ok (.bipush (-3), 2) := da9_dX10_years_30.2.2.1
theorem dX10_years_36 : decode cX10_years 36 = .ok (.invokevirtual 119, 3) := da9_dX10_years_30.2.2.2.1
theorem dX10_years_39 : decode cX10_years 39 = .ok (.ireturn, 1) := da9_dX10_years_30.2.2.2.2.1
theorem dX10_years_40 : decode cX10_years 40 = .ok (.aload_n 0, 1) := da9_dX10_years_30.2.2.2.2.2.1
theorem dX10_years_41 : decode cX10_years 41 = .ok (.iload_n 1, 1) := da9_dX10_years_30.2.2.2.2.2.2.1
theorem dX10_years_42 : decode cX10_years 42 = .ok (.putfield 515, 3) := da9_dX10_years_30.2.2.2.2.2.2.2.1
theorem dX10_years_45 : decode cX10_years 45 = .ok (.aload_n 0, 1) := da9_dX10_years_30.2.2.2.2.2.2.2.2.1
theorem dX10_years_46 : decode cX10_years 46 = .ok (.aload_n 0, 1) := da9_dX10_years_30.2.2.2.2.2.2.2.2.2.1
theorem dX10_years_47 : decode cX10_years 47 = .ok (.invokevirtual 125, 3) := da9_dX10_years_30.2.2.2.2.2.2.2.2.2.2.1
theorem dX10_years_50 : decode cX10_years 50 = .ok (.putfield 116, 3) := da9_dX10_years_30.2.2.2.2.2.2.2.2.2.2.2.1
theorem dX10_years_53 : decode cX10_years 53 = .ok (.aload_n 0, 1) := da9_dX10_years_30.2.2.2.2.2.2.2.2.2.2.2.2.1
theorem dX10_years_54 : decode cX10_years 54 = .ok (.iconst 0, 1) := da9_dX10_years_30.2.2.2.2.2.2.2.2.2.2.2.2.2.1
theorem dX10_years_55 : decode cX10_years 55 = .ok (.invokevirtual 472, 3) := da9_dX10_years_30.2.2.2.2.2.2.2.2.2.2.2.2.2.2.1
theorem dX10_years_58 : decode cX10_years 58 = .ok (.aload_n 0, 1) := da9_dX10_years_30.2.2.2.2.2.2.2.2.2.2.2.2.2.2.2
theorem da9_dX10_years_59 : (decode cX10_years 59 = .ok (.getfield 28, 3)) ∧ (decode cX10_years 62 = .ok (.bipush 12, 2)) ∧ (decode cX10_years 64 = .ok (.iaload, 1)) ∧ (decode cX10_years 65 = .ok (.istore_n 3, 1)) ∧ (decode cX10_years 66 = .ok (.iconst 0, 1)) ∧ (decode cX10_years 67 = .ok (.istore 4, 2)) ∧ (decode cX10_years 69 = .ok (.iload 4, 2)) ∧ (decode cX10_years 71 = .ok (.iload_n 2, 1)) ∧ (decode cX10_years 72 = .ok (.if_icmp .ge 105, 3)) ∧ (decode cX10_years 75 = .ok (.aload_n 0, 1)) ∧ (decode cX10_years 76 = .ok (.getfield 28, 3)) ∧ (decode cX10_years 79 = .ok (.bipush 13, 2)) ∧ (decode cX10_years 81 = .ok (.iaload, 1)) ∧ (decode cX10_years 82 = .ok (.sipush 999, 3)) ∧ (decode cX10_years 85 = .ok (.if_icmp .ge 92, 3)) ∧ (decode cX10_years 88 = .ok (.aload_n 0, 1)) := by decide +kernel
theorem dX10_years_59 : decode cX10_years 59 = .ok (.getfield 28, 3) := da9_dX10_years_59.1
theorem dX10_years_62 : decode cX10_years 62 = .ok (.bipush 12, 2) := da9_dX10_years_59.2.1
theorem dX10_years_64 : decode cX10_years 64 = .ok (.iaload, 1) := da9_dX10_years_59.2.2.1
theorem dX10_years_65 : decode cX10_years 65 = .ok (.istore_n 3, 1) := da9_dX10_years_59.2.2.2.1
theorem dX10_years_66 : decode cX10_years 66 = .ok (.iconst 0, 1) := da9_dX10_years_59.2.2.2.2.1
theorem dX10_years_67 : decode cX10_years 67 = .ok (.istore 4, 2) := da9_dX10_years_59.2.2.2.2.2.1
theorem dX10_years_69 : decode cX10_years 69 = .ok (.iload 4, 2) := da9_dX10_years_59.2.2.2.2.2.2.1
theorem dX10_years_71 : decode cX10_years 71 = .ok (.iload_n 2, 1) := da9_dX10_years_59.2.2.2.2.2.2.2.1
theorem dX10_years_72 : decode cX10_years 72 = .ok (.if_icmp .ge 105, 3) := da9_dX10_years_59.2.2.2.2.2.2.2.2.1
theorem dX10_years_75 : decode cX10_years 75 = .ok (.aload_n 0, 1) := da9_dX10_years_59.2.2.2.2.2.2.2.2.2.1
theorem dX10_years_76 : decode cX10_years 76 = .ok (.getfield 28, 3) := da9_dX10_years_59.2.2.2.2.2.2.2.2.2.2.1
theorem dX10_years_79 : decode cX10_years 79 = .ok (.bipush 13, 2) := da9_dX10_years_59.2.2.2.2.2.2.2.2.2.2.2.1
theorem dX10_years_81 : decode cX10_years 81 = .ok (.iaload, 1) := da9_dX10_years_59.2.2.2.2.2.2.2.2.2.2.2.2.1
theorem dX10_years_82 : decode cX10_years 82 = .ok (.sipush 999, 3) := da9_dX10_years_59.2.2.2.2.2.2.2.2.2.2.2.2.2.1
theorem dX10_years_85 : decode cX10_years 85 = .ok (.if_icmp .ge 92, 3) := da9_dX10_years_59.2.2.2.2.2.2.2.2.2.2.2.2.2.2.1
theorem dX10_years_88 : decode cX10_years 88 = .ok (.aload_n 0, 1) := da9_dX10_years_59.2.2.2.2.2.2.2.2.2.2.2.2.2.2.2
theorem da9_dX10_years_89 : (decode cX10_years 89 = .ok (.bipush 6, 2)) ∧ (decode cX10_years 91 = .ok (.invokevirtual 522, 3)) ∧ (decode cX10_years 94 = .ok (.istore 5, 2)) ∧ (decode cX10_years 96 = .ok (.aload_n 0, 1)) ∧ (decode cX10_years 97 = .ok (.iconst 3, 1)) ∧ (decode cX10_years 98 = .ok (.invokevirtual 522, 3)) ∧ (decode cX10_years 101 = .ok (.istore 6, 2)) ∧ (decode cX10_years 103 = .ok (.iload 6, 2)) ∧ (decode cX10_years 105 = .ok (.iconst 2, 1)) ∧ (decode cX10_years 106 = .ok (.if_icmp .ge 23, 3)) ∧ (decode cX10_years 109 = .ok (.aload_n 0, 1)) ∧ (decode cX10_years 110 = .ok (.iload 5, 2)) ∧ (decode cX10_years 112 = .ok (.iconst 1, 1)) ∧ (decode cX10_years 113 = .ok (.iadd, 1)) ∧ (decode cX10_years 114 = .ok (.invokevirtual 353, 3)) ∧ (decode cX10_years 117 = .ok (.ifCond .eq 12, 3)) := by decide +kernel
theorem dX10_years_89 : decode cX10_years 89 = .ok (.bipush 6, 2) := da9_dX10_years_89.1
theorem dX10_years_91 : decode cX10_years 91 = .ok (.invokevirtual 522, 3) := da9_dX10_years_89.2.1
theorem dX10_years_94 : decode cX10_years 94 = .ok (.istore 5, 2) := da9_dX10_years_89.2.2.1
theorem dX10_years_96 : decode cX10_years 96 = .ok (.aload_n 0, 1) := da9_dX10_years_89.2.2.2.1
theorem dX10_years_97 : decode cX10_years 97 = .ok (.iconst 3, 1) := da9_dX10_years_89.2.2.2.2.1
theorem dX10_years_98 : decode cX10_years 98 = .ok (.invokevirtual 522, 3) := da9_dX10_years_89.2.2.2.2.2.1
theorem dX10_years_101 : decode cX10_years 101 = .ok (.istore 6, 2) := da9_dX10_years_89.2.2.2.2.2.2.1
theorem dX10_years_103 : decode cX10_years 103 = .ok (.iload 6, 2) := da9_dX10_years_89.2.2.2.2.2.2.2.1
theorem dX10_years_105 : decode cX10_years 105 = .ok (.iconst 2, 1) := da9_dX10_years_89.2.2.2.2.2.2.2.2.1
theorem dX10_years_106 : decode cX10_years 106 = .ok (.if_icmp .ge 23, 3) := da9_dX10_years_89.2.2.2.2.2.2.2.2.2.1
theorem dX10_years_109 : decode cX10_years 109 = .ok (.aload_n 0, 1) := da9_dX10_years_89.2.2.2.2.2.2.2.2.2.2.1
theorem dX10_years_110 : decode cX10_years 110 = .ok (.iload 5, 2) := da9_dX10_years_89.2.2.2.2.2.2.2.2.2.2.2.1
theorem dX10_years_112 : decode cX10_years 112 = .ok (.iconst 1, 1) := da9_dX10_years_89.2.2.2.2.2.2.2.2.2.2.2.2.1
theorem dX10_years_113 : decode cX10_years 113 = .ok (.iadd, 1) := da9_dX10_years_89.2.2.2.2.2.2.2.2.2.2.2.2.2.1
theorem dX10_years_114 : decode cX10_years 114 = .ok (.invokevirtual 353, 3) := da9_dX10_years_89.2.2.2.2.2.2.2.2.2.2.2.2.2.2.1
theorem dX10_years_117 : decode cX10_years 117 = .ok (.ifCond .eq 12, 3) := da9_dX10_years_89.2.2.2.2.2.2.2.2.2.2.2.2.2.2.2
theorem da9_dX10_years_120 : (decode cX10_years 120 = .ok (.aload_n 0, 1)) ∧ (decode cX10_years 121 = .ok (.iload 5, 2)) ∧ (decode cX10_years 123 = .ok (.iconst 1, 1)) ∧ (decode cX10_years 124 = .ok (.iadd, 1)) ∧ (decode cX10_years 125 = .ok (.invokevirtual 359, 3)) ∧ (decode cX10_years 128 = .ok (.pop, 1)) ∧ (decode cX10_years 129 = .ok (.iload 6, 2)) ∧ (decode cX10_years 131 = .ok (.iconst 2, 1)) ∧ (decode cX10_years 132 = .ok (.if_icmp .ne 34, 3)) ∧ (decode cX10_years 135 = .ok (.aload_n 0, 1)) ∧ (decode cX10_years 136 = .ok (.iload 5, 2)) ∧ (decode cX10_years 138 = .ok (.invokevirtual 143, 3)) ∧ (decode cX10_years 141 = .ok (.ifCond .eq 25, 3)) ∧ (decode cX10_years 144 = .ok (.aload_n 0, 1)) ∧ (decode cX10_years 145 = .ok (.getfield 28, 3)) ∧ (decode cX10_years 148 = .ok (.bipush 6, 2)) := by decide +kernel
theorem dX10_years_120 : decode cX10_years 120 = .ok (.aload_n 0, 1) := da9_dX10_years_120.1
theorem dX10_years_121 : decode cX10_years 121 = .ok (.iload 5, 2) := da9_dX10_years_120.2.1
theorem dX10_years_123 : decode cX10_years 123 = .ok (.iconst 1, 1) := da9_dX10_years_120.2.2.1
theorem dX10_years_124 : decode cX10_years 124 = .ok (.iadd, 1) := da9_dX10_years_120.2.2.2.1
theorem dX10_years_125 : decode cX10_years 125 = .ok (.invokevirtual 359, 3) := da9_dX10_years_120.2.2.2.2.1
theorem dX10_years_128 : decode cX10_years 128 = .ok (.pop, 1) := da9_dX10_years_120.2.2.2.2.2.1
theorem dX10_years_129 : decode cX10_years 129 = .ok (.iload 6, 2) := da9_dX10_years_120.2.2.2.2.2.2.1
theorem dX10_years_131 : decode cX10_years 131 = .ok (.iconst 2, 1) := da9_dX10_years_120.2.2.2.2.2.2.2.1
theorem dX10_years_132 : decode cX10_years 132 = .ok (.if_icmp .ne 34, 3) := da9_dX10_years_120.2.2.2.2.2.2.2.2.1
theorem dX10_years_135 : decode cX10_years 135 = .ok (.aload_n 0, 1) := da9_dX10_years_120.2.2.2.2.2.2.2.2.2.1
theorem dX10_years_136 : decode cX10_years 136 = .ok (.iload 5, 2) := da9_dX10_years_120.2.2.2.2.2.2.2.2.2.2.1
theorem dX10_years_138 : decode cX10_years 138 = .ok (.invokevirtual 143, 3) := da9_dX10_years_120.2.2.2.2.2.2.2.2.2.2.2.1
theorem dX10_years_141 : decode cX10_years 141 = .ok (.ifCond .eq 25, 3) := da9_dX10_years_120.2.2.2.2.2.2.2.2.2.2.2.2.1
theorem dX10_years_144 : decode cX10_years 144 = .ok (.aload_n 0, 1) := da9_dX10_years_120.2.2.2.2.2.2.2.2.2.2.2.2.2.1
theorem dX10_years_145 : decode cX10_years 145 = .ok (.getfield 28, 3) := da9_dX10_years_120.2.2.2.2.2.2.2.2.2.2.2.2.2.2.1
theorem dX10_years_148 : decode cX10_years 148 = .ok (.bipush 6, 2) := da9_dX10_years_120.2.2.2.2.2.2.2.2.2.2.2.2.2.2.2
theorem da9_dX10_years_150 : (decode cX10_years 150 = .ok (.iload 5, 2)) ∧ (decode cX10_years 152 = .ok (.iadd, 1)) ∧ (decode cX10_years 153 = .ok (.iconst 1, 1)) ∧ (decode cX10_years 154 = .ok (.aload_n 0, 1)) ∧ (decode cX10_years 155 = .ok (.getfield 28, 3)) ∧ (decode cX10_years 158 = .ok (.bipush 6, 2)) ∧ (decode cX10_years 160 = .ok (.iload 5, 2)) ∧ (decode cX10_years 162 = .ok (.iadd, 1)) ∧ (decode cX10_years 163 = .ok (.iaload, 1)) ∧ (decode cX10_years 164 = .ok (.isub, 1)) ∧ (decode cX10_years 165 = .ok (.iastore, 1)) ∧ (decode cX10_years 166 = .ok (.aload_n 0, 1)) ∧ (decode cX10_years 167 = .ok (.invokevirtual 362, 3)) ∧ (decode cX10_years 170 = .ok (.pop, 1)) ∧ (decode cX10_years 171 = .ok (.iinc 4 1, 3)) ∧ (decode cX10_years 174 = .ok (.goto (-105), 3)) := by decide +kernel
theorem dX10_years_150 : decode cX10_years 150 = .ok (.iload 5, 2) := da9_dX10_years_150.1
theorem dX10_years_152 : decode cX10_years 152 = .ok (.iadd, 1) := da9_dX10_years_150.2.1
theorem dX10_years_153 : decode cX10_years 153 = .ok (.iconst 1, 1) := da9_dX10_years_150.2.2.1
theorem dX10_years_154 : decode cX10_years 154 = .ok (.aload_n 0, 1) := da9_dX10_years_150.2.2.2.1
theorem dX10_years_155 : decode cX10_years 155 = .ok (.getfield 28, 3) := da9_dX10_years_150.2.2.2.2.1
theorem dX10_years_158 : decode cX10_years 158 = .ok (.bipush 6, 2) := da9_dX10_years_150.2.2.2.2.2.1
theorem dX10_years_160 : decode cX10_years 160 = .ok (.iload 5, 2) := da9_dX10_years_150.2.2.2.2.2.2.1
theorem dX10_years_162 : decode cX10_years 162 = .ok (.iadd, 1) := da9_dX10_years_150.2.2.2.2.2.2.2.1
theorem dX10_years_163 : decode cX10_years 163 = .ok (.iaload, 1) := da9_dX10_years_150.2.2.2.2.2.2.2.2.1
theorem dX10_years_164 : decode cX10_years 164 = .ok (.isub, 1) := da9_dX10_years_150.2.2.2.2.2.2.2.2.2.1
theorem dX10_years_165 : decode cX10_years 165 = .ok (.iastore, 1) := da9_dX10_years_150.2.2.2.2.2.2.2.2.2.2.1
theorem dX10_years_166 : decode cX10_years 166 = .ok (.aload_n 0, 1) := da9_dX10_years_150.2.2.2.2.2.2.2.2.2.2.2.1
theorem dX10_years_167 : decode cX10_years 167 = .ok (.invokevirtual 362, 3) := da9_dX10_years_150.2.2.2.2.2.2.2.2.2.2.2.2.1
theorem dX10_years_170 : decode cX10_years 170 = .ok (.pop, 1) := da9_dX10_years_150.2.2.2.2.2.2.2.2.2.2.2.2.2.1
theorem dX10_years_171 : decode cX10_years 171 = .ok (.iinc 4 1, 3) := da9_dX10_years_150.2.2.2.2.2.2.2.2.2.2.2.2.2.2.1
theorem dX10_years_174 : decode cX10_years 174 = .ok (.goto (-105), 3) := da9_dX10_years_150.2.2.2.2.2.2.2.2.2.2.2.2.2.2.2
theorem da9_dX10_years_177 : (decode cX10_years 177 = .ok (.aload_n 0, 1)) ∧ (decode cX10_years 178 = .ok (.getfield 28, 3)) ∧ (decode cX10_years 181 = .ok (.bipush 12, 2)) ∧ (decode cX10_years 183 = .ok (.iaload, 1)) ∧ (decode cX10_years 184 = .ok (.iload_n 3, 1)) ∧ (decode cX10_years 185 = .ok (.isub, 1)) ∧ (decode cX10_years 186 = .ok (.istore 4, 2)) ∧ (decode cX10_years 188 = .ok (.iconst 0, 1)) ∧ (decode cX10_years 189 = .ok (.istore 5, 2)) ∧ (decode cX10_years 191 = .ok (.iload 5, 2)) ∧ (decode cX10_years 193 = .ok (.bipush 14, 2)) ∧ (decode cX10_years 195 = .ok (.if_icmp .ge 23, 3)) ∧ (decode cX10_years 198 = .ok (.aload_n 0, 1)) ∧ (decode cX10_years 199 = .ok (.getfield 113, 3)) ∧ (decode cX10_years 202 = .ok (.iload 5, 2)) ∧ (decode cX10_years 204 = .ok (.aload_n 0, 1)) := by decide +kernel
theorem dX10_years_177 : decode cX10_years 177 = .ok (.aload_n 0, 1) := da9_dX10_years_177.1
theorem dX10_years_178 : decode cX10_years 178 = .ok (.getfield 28, 3) := da9_dX10_years_177.2.1
theorem dX10_years_181 : decode cX10_years 181 = .ok (.bipush 12, 2) := da9_dX10_years_177.2.2.1
theorem dX10_years_183 : decode cX10_years 183 = .ok (.iaload, 1) := da9_dX10_years_177.2.2.2.1
theorem dX10_years_184 : decode cX10_years 184 = .ok (.iload_n 3, 1) := da9_dX10_years_177.2.2.2.2.1
theorem dX10_years_185 : decode cX10_years 185 = .ok (.isub, 1) := da9_dX10_years_177.2.2.2.2.2.1
theorem dX10_years_186 : decode cX10_years 186 = .ok (.istore 4, 2) := da9_dX10_years_177.2.2.2.2.2.2.1
theorem dX10_years_188 : decode cX10_years 188 = .ok (.iconst 0, 1) := da9_dX10_years_177.2.2.2.2.2.2.2.1
theorem dX10_years_189 : decode cX10_years 189 = .ok (.istore 5, 2) := da9_dX10_years_177.2.2.2.2.2.2.2.2.1
theorem dX10_years_191 : decode cX10_years 191 = .ok (.iload 5, 2) := da9_dX10_years_177.2.2.2.2.2.2.2.2.2.1
theorem dX10_years_193 : decode cX10_years 193 = .ok (.bipush 14, 2) := da9_dX10_years_177.2.2.2.2.2.2.2.2.2.2.1
theorem dX10_years_195 : decode cX10_years 195 = .ok (.if_icmp .ge 23, 3) := da9_dX10_years_177.2.2.2.2.2.2.2.2.2.2.2.1
theorem dX10_years_198 : decode cX10_years 198 = .ok (.aload_n 0, 1) := da9_dX10_years_177.2.2.2.2.2.2.2.2.2.2.2.2.1
theorem dX10_years_199 : decode cX10_years 199 = .ok (.getfield 113, 3) := da9_dX10_years_177.2.2.2.2.2.2.2.2.2.2.2.2.2.1
theorem dX10_years_202 : decode cX10_years 202 = .ok (.iload 5, 2) := da9_dX10_years_177.2.2.2.2.2.2.2.2.2.2.2.2.2.2.1
theorem dX10_years_204 : decode cX10_years 204 = .ok (.aload_n 0, 1) := da9_dX10_years_177.2.2.2.2.2.2.2.2.2.2.2.2.2.2.2
theorem da9_dX10_years_205 : (decode cX10_years 205 = .ok (.getfield 28, 3)) ∧ (decode cX10_years 208 = .ok (.iload 5, 2)) ∧ (decode cX10_years 210 = .ok (.iaload, 1)) ∧ (decode cX10_years 211 = .ok (.iastore, 1)) ∧ (decode cX10_years 212 = .ok (.iinc 5 1, 3)) ∧ (decode cX10_years 215 = .ok (.goto (-24), 3)) ∧ (decode cX10_years 218 = .ok (.aload_n 0, 1)) ∧ (decode cX10_years 219 = .ok (.iconst 0, 1)) ∧ (decode cX10_years 220 = .ok (.invokevirtual 481, 3)) ∧ (decode cX10_years 223 = .ok (.aload_n 0, 1)) ∧ (decode cX10_years 224 = .ok (.iload 4, 2)) ∧ (decode cX10_years 226 = .ok (.invokevirtual 14, 3)) ∧ (decode cX10_years 229 = .ok (.ireturn, 1)) := by decide +kernel
theorem dX10_years_205 : decode cX10_years 205 = .ok (.getfield 28, 3) := da9_dX10_years_205.1
theorem dX10_years_208 : decode cX10_years 208 = .ok (.iload 5, 2) := da9_dX10_years_205.2.1
theorem dX10_years_210 : decode cX10_years 210 = .ok (.iaload, 1) := da9_dX10_years_205.2.2.1
theorem dX10_years_211 : decode cX10_years 211 = .ok (.iastore, 1) := da9_dX10_years_205.2.2.2.1
theorem dX10_years_212 : decode cX10_years 212 = .ok (.iinc 5 1, 3) := da9_dX10_years_205.2.2.2.2.1
theorem dX10_years_215 : decode cX10_years 215 = .ok (.goto (-24), 3) := da9_dX10_years_205.2.2.2.2.2.1
theorem dX10_years_218 : decode cX10_years 218 = .ok (.aload_n 0, 1) := da9_dX10_years_205.2.2.2.2.2.2.1
theorem dX10_years_219 : decode cX10_years 219 = .ok (.iconst 0, 1) := da9_dX10_years_205.2.2.2.2.2.2.2.1
theorem dX10_years_220 : decode cX10_years 220 = .ok (.invokevirtual 481, 3) := da9_dX10_years_205.2.2.2.2.2.2.2.2.1
theorem dX10_years_223 : decode cX10_years 223 = .ok (.aload_n 0, 1) := da9_dX10_years_205.2.2.2.2.2.2.2.2.2.1
theorem dX10_years_224 : decode cX10_years 224 = .ok (.iload 4, 2) := da9_dX10_years_205.2.2.2.2.2.2.2.2.2.2.1
theorem dX10_years_226 : decode cX10_years 226 = .ok (.invokevirtual 14, 3) := da9_dX10_years_205.2.2.2.2.2.2.2.2.2.2.2.1
theorem dX10_years_229 : decode cX10_years 229 = .ok (.ireturn, 1) := da9_dX10_years_205.2.2.2.2.2.2.2.2.2.2.2.2
set_option maxRecDepth 20000 in
theorem ggX10_drawn_X10_lies : GoodIn wsX10_drawn wsX10_lies := wd_c vW10_ok mvW10_6
set_option maxRecDepth 20000 in
theorem gX10_drawn_X10_lies : GoodIn wsX10_drawn (va_wsS RX10 18 yX10_lies wsX10_lies) := goodIn_app (wd_l vW10_ok _ pvW10_141) ggX10_drawn_X10_lies
set_option maxRecDepth 20000 in
theorem ggX10_drawn_X10_isBit : GoodIn wsX10_drawn wsX10_isBit := wd_c vW10_ok mvW10_9
set_option maxRecDepth 20000 in
theorem gX10_drawn_X10_isBit : GoodIn wsX10_drawn (va_wsS RX10 133 yX10_isBit wsX10_isBit) := goodIn_app (wd_l vW10_ok _ pvW10_146) ggX10_drawn_X10_isBit
theorem da9_dX10_drawn_0 : (decode cX10_drawn 0 = .ok (.iload_n 1, 1)) ∧ (decode cX10_drawn 1 = .ok (.iconst 0, 1)) ∧ (decode cX10_drawn 2 = .ok (.aload_n 0, 1)) ∧ (decode cX10_drawn 3 = .ok (.getfield 116, 3)) ∧ (decode cX10_drawn 6 = .ok (.iconst 1, 1)) ∧ (decode cX10_drawn 7 = .ok (.isub, 1)) ∧ (decode cX10_drawn 8 = .ok (.invokestatic 18, 3)) ∧ (decode cX10_drawn 11 = .ok (.ifCond .eq 10, 3)) ∧ (decode cX10_drawn 14 = .ok (.iload_n 2, 1)) ∧ (decode cX10_drawn 15 = .ok (.invokestatic 133, 3)) ∧ (decode cX10_drawn 18 = .ok (.ifCond .ne 5, 3)) ∧ (decode cX10_drawn 21 = .ok (.iconst (-1), 1)) ∧ (decode cX10_drawn 22 = .ok (.ireturn, 1)) ∧ (decode cX10_drawn 23 = .ok (.aload_n 0, 1)) ∧ (decode cX10_drawn 24 = .ok (.getfield 113, 3)) ∧ (decode cX10_drawn 27 = .ok (.iload_n 2, 1)) := by decide +kernel
theorem dX10_drawn_0 : decode cX10_drawn 0 = .ok (.iload_n 1, 1) := da9_dX10_drawn_0.1
theorem dX10_drawn_1 : decode cX10_drawn 1 = .ok (.iconst 0, 1) := da9_dX10_drawn_0.2.1
theorem dX10_drawn_2 : decode cX10_drawn 2 = .ok (.aload_n 0, 1) := da9_dX10_drawn_0.2.2.1
theorem dX10_drawn_3 : decode cX10_drawn 3 = .ok (.getfield 116, 3) := da9_dX10_drawn_0.2.2.2.1
theorem dX10_drawn_6 : decode cX10_drawn 6 = .ok (.iconst 1, 1) := da9_dX10_drawn_0.2.2.2.2.1
theorem dX10_drawn_7 : decode cX10_drawn 7 = .ok (.isub, 1) := da9_dX10_drawn_0.2.2.2.2.2.1
theorem dX10_drawn_8 : decode cX10_drawn 8 = .ok (.invokestatic 18, 3) := da9_dX10_drawn_0.2.2.2.2.2.2.1
theorem dX10_drawn_11 : decode cX10_drawn 11 = .ok (.ifCond .eq 10, 3) := da9_dX10_drawn_0.2.2.2.2.2.2.2.1
theorem dX10_drawn_14 : decode cX10_drawn 14 = .ok (.iload_n 2, 1) := da9_dX10_drawn_0.2.2.2.2.2.2.2.2.1
theorem dX10_drawn_15 : decode cX10_drawn 15 = .ok (.invokestatic 133, 3) := da9_dX10_drawn_0.2.2.2.2.2.2.2.2.2.1
theorem dX10_drawn_18 : decode cX10_drawn 18 = .ok (.ifCond .ne 5, 3) := da9_dX10_drawn_0.2.2.2.2.2.2.2.2.2.2.1
theorem dX10_drawn_21 : decode cX10_drawn 21 = .ok (.iconst (-1), 1) := da9_dX10_drawn_0.2.2.2.2.2.2.2.2.2.2.2.1
theorem dX10_drawn_22 : decode cX10_drawn 22 = .ok (.ireturn, 1) := da9_dX10_drawn_0.2.2.2.2.2.2.2.2.2.2.2.2.1
theorem dX10_drawn_23 : decode cX10_drawn 23 = .ok (.aload_n 0, 1) := da9_dX10_drawn_0.2.2.2.2.2.2.2.2.2.2.2.2.2.1
theorem dX10_drawn_24 : decode cX10_drawn 24 = .ok (.getfield 113, 3) := da9_dX10_drawn_0.2.2.2.2.2.2.2.2.2.2.2.2.2.2.1
theorem dX10_drawn_27 : decode cX10_drawn 27 = .ok (.iload_n 2, 1) := da9_dX10_drawn_0.2.2.2.2.2.2.2.2.2.2.2.2.2.2.2
theorem da9_dX10_drawn_28 : (decode cX10_drawn 28 = .ok (.ifCond .ne 7, 3)) ∧ (decode cX10_drawn 31 = .ok (.iconst 0, 1)) ∧ (decode cX10_drawn 32 = .ok (.goto 5, 3)) ∧ (decode cX10_drawn 35 = .ok (.bipush 6, 2)) ∧ (decode cX10_drawn 37 = .ok (.iload_n 1, 1)) ∧ (decode cX10_drawn 38 = .ok (.iadd, 1)) ∧ (decode cX10_drawn 39 = .ok (.iaload, 1)) ∧ (decode cX10_drawn 40 = .ok (.ireturn, 1)) := by decide +kernel
theorem dX10_drawn_28 : decode cX10_drawn 28 = .ok (.ifCond .ne 7, 3) := da9_dX10_drawn_28.1
theorem dX10_drawn_31 : decode cX10_drawn 31 = .ok (.iconst 0, 1) := da9_dX10_drawn_28.2.1
theorem dX10_drawn_32 : decode cX10_drawn 32 = .ok (.goto 5, 3) := da9_dX10_drawn_28.2.2.1
theorem dX10_drawn_35 : decode cX10_drawn 35 = .ok (.bipush 6, 2) := da9_dX10_drawn_28.2.2.2.1
theorem dX10_drawn_37 : decode cX10_drawn 37 = .ok (.iload_n 1, 1) := da9_dX10_drawn_28.2.2.2.2.1
theorem dX10_drawn_38 : decode cX10_drawn 38 = .ok (.iadd, 1) := da9_dX10_drawn_28.2.2.2.2.2.1
theorem dX10_drawn_39 : decode cX10_drawn 39 = .ok (.iaload, 1) := da9_dX10_drawn_28.2.2.2.2.2.2.1
theorem dX10_drawn_40 : decode cX10_drawn 40 = .ok (.ireturn, 1) := da9_dX10_drawn_28.2.2.2.2.2.2.2
set_option maxRecDepth 20000 in
theorem ggX10_onHeads_X10_size : GoodIn wsX10_onHeads wsX10_size := wd_c vW10_ok mvW10_24
set_option maxRecDepth 20000 in
theorem gX10_onHeads_X10_size : GoodIn wsX10_onHeads (wsV RX10 125 RX10 yX10_size wsX10_size) := goodIn_app (wd_l vW10_ok _ pvW10_144) ggX10_onHeads_X10_size
theorem da9_dX10_onHeads_0 : (decode cX10_onHeads 0 = .ok (.iconst 0, 1)) ∧ (decode cX10_onHeads 1 = .ok (.istore_n 1, 1)) ∧ (decode cX10_onHeads 2 = .ok (.iconst 0, 1)) ∧ (decode cX10_onHeads 3 = .ok (.istore_n 2, 1)) ∧ (decode cX10_onHeads 4 = .ok (.iload_n 2, 1)) ∧ (decode cX10_onHeads 5 = .ok (.aload_n 0, 1)) ∧ (decode cX10_onHeads 6 = .ok (.invokevirtual 125, 3)) ∧ (decode cX10_onHeads 9 = .ok (.if_icmp .ge 21, 3)) ∧ (decode cX10_onHeads 12 = .ok (.iload_n 1, 1)) ∧ (decode cX10_onHeads 13 = .ok (.aload_n 0, 1)) ∧ (decode cX10_onHeads 14 = .ok (.getfield 28, 3)) ∧ (decode cX10_onHeads 17 = .ok (.bipush 6, 2)) ∧ (decode cX10_onHeads 19 = .ok (.iload_n 2, 1)) ∧ (decode cX10_onHeads 20 = .ok (.iadd, 1)) ∧ (decode cX10_onHeads 21 = .ok (.iaload, 1)) ∧ (decode cX10_onHeads 22 = .ok (.iadd, 1)) := by decide +kernel
theorem dX10_onHeads_0 : decode cX10_onHeads 0 = .ok (.iconst 0, 1) := da9_dX10_onHeads_0.1
theorem dX10_onHeads_1 : decode cX10_onHeads 1 = .ok (.istore_n 1, 1) := da9_dX10_onHeads_0.2.1
theorem dX10_onHeads_2 : decode cX10_onHeads 2 = .ok (.iconst 0, 1) := da9_dX10_onHeads_0.2.2.1
theorem dX10_onHeads_3 : decode cX10_onHeads 3 = .ok (.istore_n 2, 1) := da9_dX10_onHeads_0.2.2.2.1
theorem dX10_onHeads_4 : decode cX10_onHeads 4 = .ok (.iload_n 2, 1) := da9_dX10_onHeads_0.2.2.2.2.1
theorem dX10_onHeads_5 : decode cX10_onHeads 5 = .ok (.aload_n 0, 1) := da9_dX10_onHeads_0.2.2.2.2.2.1
theorem dX10_onHeads_6 : decode cX10_onHeads 6 = .ok (.invokevirtual 125, 3) := da9_dX10_onHeads_0.2.2.2.2.2.2.1
theorem dX10_onHeads_9 : decode cX10_onHeads 9 = .ok (.if_icmp .ge 21, 3) := da9_dX10_onHeads_0.2.2.2.2.2.2.2.1
theorem dX10_onHeads_12 : decode cX10_onHeads 12 = .ok (.iload_n 1, 1) := da9_dX10_onHeads_0.2.2.2.2.2.2.2.2.1
theorem dX10_onHeads_13 : decode cX10_onHeads 13 = .ok (.aload_n 0, 1) := da9_dX10_onHeads_0.2.2.2.2.2.2.2.2.2.1
theorem dX10_onHeads_14 : decode cX10_onHeads 14 = .ok (.getfield 28, 3) := da9_dX10_onHeads_0.2.2.2.2.2.2.2.2.2.2.1
theorem dX10_onHeads_17 : decode cX10_onHeads 17 = .ok (.bipush 6, 2) := da9_dX10_onHeads_0.2.2.2.2.2.2.2.2.2.2.2.1
theorem dX10_onHeads_19 : decode cX10_onHeads 19 = .ok (.iload_n 2, 1) := da9_dX10_onHeads_0.2.2.2.2.2.2.2.2.2.2.2.2.1
theorem dX10_onHeads_20 : decode cX10_onHeads 20 = .ok (.iadd, 1) := da9_dX10_onHeads_0.2.2.2.2.2.2.2.2.2.2.2.2.2.1
theorem dX10_onHeads_21 : decode cX10_onHeads 21 = .ok (.iaload, 1) := da9_dX10_onHeads_0.2.2.2.2.2.2.2.2.2.2.2.2.2.2.1
theorem dX10_onHeads_22 : decode cX10_onHeads 22 = .ok (.iadd, 1) := da9_dX10_onHeads_0.2.2.2.2.2.2.2.2.2.2.2.2.2.2.2
theorem da9_dX10_onHeads_23 : (decode cX10_onHeads 23 = .ok (.istore_n 1, 1)) ∧ (decode cX10_onHeads 24 = .ok (.iinc 2 1, 3)) ∧ (decode cX10_onHeads 27 = .ok (.goto (-23), 3)) ∧ (decode cX10_onHeads 30 = .ok (.iload_n 1, 1)) ∧ (decode cX10_onHeads 31 = .ok (.ireturn, 1)) := by decide +kernel
theorem dX10_onHeads_23 : decode cX10_onHeads 23 = .ok (.istore_n 1, 1) := da9_dX10_onHeads_23.1
theorem dX10_onHeads_24 : decode cX10_onHeads 24 = .ok (.iinc 2 1, 3) := da9_dX10_onHeads_23.2.1
theorem dX10_onHeads_27 : decode cX10_onHeads 27 = .ok (.goto (-23), 3) := da9_dX10_onHeads_23.2.2.1
theorem dX10_onHeads_30 : decode cX10_onHeads 30 = .ok (.iload_n 1, 1) := da9_dX10_onHeads_23.2.2.2.1
theorem dX10_onHeads_31 : decode cX10_onHeads 31 = .ok (.ireturn, 1) := da9_dX10_onHeads_23.2.2.2.2
set_option maxRecDepth 20000 in
theorem ggX10_isOrderedNow_X10_size : GoodIn wsX10_isOrderedNow wsX10_size := wd_c vW10_ok mvW10_24
set_option maxRecDepth 20000 in
theorem gX10_isOrderedNow_X10_size : GoodIn wsX10_isOrderedNow (wsV RX10 125 RX10 yX10_size wsX10_size) := goodIn_app (wd_l vW10_ok _ pvW10_144) ggX10_isOrderedNow_X10_size
set_option maxRecDepth 20000 in
theorem ggX10_isOrderedNow_X10_canStay : GoodIn wsX10_isOrderedNow wsX10_canStay := wd_c vW10_ok mvW10_417
set_option maxRecDepth 20000 in
theorem gX10_isOrderedNow_X10_canStay : GoodIn wsX10_isOrderedNow (wsV RX10 451 RX10 yX10_canStay wsX10_canStay) := goodIn_app (wd_l vW10_ok _ pvW10_228) ggX10_isOrderedNow_X10_canStay
theorem da9_dX10_isOrderedNow_0 : (decode cX10_isOrderedNow 0 = .ok (.aload_n 0, 1)) ∧ (decode cX10_isOrderedNow 1 = .ok (.iconst 1, 1)) ∧ (decode cX10_isOrderedNow 2 = .ok (.aload_n 0, 1)) ∧ (decode cX10_isOrderedNow 3 = .ok (.invokevirtual 125, 3)) ∧ (decode cX10_isOrderedNow 6 = .ok (.ishl, 1)) ∧ (decode cX10_isOrderedNow 7 = .ok (.iconst 1, 1)) ∧ (decode cX10_isOrderedNow 8 = .ok (.isub, 1)) ∧ (decode cX10_isOrderedNow 9 = .ok (.invokevirtual 451, 3)) ∧ (decode cX10_isOrderedNow 12 = .ok (.ireturn, 1)) := by decide +kernel
theorem dX10_isOrderedNow_0 : decode cX10_isOrderedNow 0 = .ok (.aload_n 0, 1) := da9_dX10_isOrderedNow_0.1
theorem dX10_isOrderedNow_1 : decode cX10_isOrderedNow 1 = .ok (.iconst 1, 1) := da9_dX10_isOrderedNow_0.2.1
theorem dX10_isOrderedNow_2 : decode cX10_isOrderedNow 2 = .ok (.aload_n 0, 1) := da9_dX10_isOrderedNow_0.2.2.1
theorem dX10_isOrderedNow_3 : decode cX10_isOrderedNow 3 = .ok (.invokevirtual 125, 3) := da9_dX10_isOrderedNow_0.2.2.2.1
theorem dX10_isOrderedNow_6 : decode cX10_isOrderedNow 6 = .ok (.ishl, 1) := da9_dX10_isOrderedNow_0.2.2.2.2.1
theorem dX10_isOrderedNow_7 : decode cX10_isOrderedNow 7 = .ok (.iconst 1, 1) := da9_dX10_isOrderedNow_0.2.2.2.2.2.1
theorem dX10_isOrderedNow_8 : decode cX10_isOrderedNow 8 = .ok (.isub, 1) := da9_dX10_isOrderedNow_0.2.2.2.2.2.2.1
theorem dX10_isOrderedNow_9 : decode cX10_isOrderedNow 9 = .ok (.invokevirtual 451, 3) := da9_dX10_isOrderedNow_0.2.2.2.2.2.2.2.1
theorem dX10_isOrderedNow_12 : decode cX10_isOrderedNow 12 = .ok (.ireturn, 1) := da9_dX10_isOrderedNow_0.2.2.2.2.2.2.2.2
set_option maxRecDepth 20000 in
theorem ggX10_count_X10_size : GoodIn wsX10_count wsX10_size := wd_c vW10_ok mvW10_24
set_option maxRecDepth 20000 in
theorem gX10_count_X10_size : GoodIn wsX10_count (wsV RX10 125 RX10 yX10_size wsX10_size) := goodIn_app (wd_l vW10_ok _ pvW10_144) ggX10_count_X10_size
set_option maxRecDepth 20000 in
theorem ggX10_count_X10_onHeads : GoodIn wsX10_count wsX10_onHeads := wd_c vW10_ok mvW10_458
set_option maxRecDepth 20000 in
theorem gX10_count_X10_onHeads : GoodIn wsX10_count (wsV RX10 525 RX10 yX10_onHeads wsX10_onHeads) := goodIn_app (wd_l vW10_ok _ pvW10_240) ggX10_count_X10_onHeads
set_option maxRecDepth 20000 in
theorem ggX10_count_X10_termAt : GoodIn wsX10_count wsX10_termAt := wd_c vW10_ok mvW10_144
set_option maxRecDepth 20000 in
theorem gX10_count_X10_termAt : GoodIn wsX10_count (va_wsS RX10 166 yX10_termAt wsX10_termAt) := goodIn_app (wd_l vW10_ok _ pvW10_156) ggX10_count_X10_termAt
set_option maxRecDepth 20000 in
theorem ggX10_count_X10_isOrderedNow : GoodIn wsX10_count wsX10_isOrderedNow := wd_c vW10_ok mvW10_462
set_option maxRecDepth 20000 in
theorem gX10_count_X10_isOrderedNow : GoodIn wsX10_count (wsV RX10 528 RX10 yX10_isOrderedNow wsX10_isOrderedNow) := goodIn_app (wd_l vW10_ok _ pvW10_241) ggX10_count_X10_isOrderedNow
theorem da9_dX10_count_0 : (decode cX10_count 0 = .ok (.iload_n 1, 1)) ∧ (decode cX10_count 1 = .ok (.tableswitch 190 0 17 #[87, 92, 97, 105, 113, 121, 126, 131, 131, 131, 141, 148, 156, 164, 164, 164, 164, 177], 87)) ∧ (decode cX10_count 88 = .ok (.aload_n 0, 1)) ∧ (decode cX10_count 89 = .ok (.invokevirtual 125, 3)) ∧ (decode cX10_count 92 = .ok (.ireturn, 1)) ∧ (decode cX10_count 93 = .ok (.aload_n 0, 1)) ∧ (decode cX10_count 94 = .ok (.invokevirtual 525, 3)) ∧ (decode cX10_count 97 = .ok (.ireturn, 1)) ∧ (decode cX10_count 98 = .ok (.aload_n 0, 1)) ∧ (decode cX10_count 99 = .ok (.getfield 28, 3)) ∧ (decode cX10_count 102 = .ok (.bipush 12, 2)) ∧ (decode cX10_count 104 = .ok (.iaload, 1)) ∧ (decode cX10_count 105 = .ok (.ireturn, 1)) ∧ (decode cX10_count 106 = .ok (.aload_n 0, 1)) ∧ (decode cX10_count 107 = .ok (.getfield 28, 3)) ∧ (decode cX10_count 110 = .ok (.bipush 30, 2)) := by decide +kernel
theorem dX10_count_0 : decode cX10_count 0 = .ok (.iload_n 1, 1) := da9_dX10_count_0.1
theorem dX10_count_1 : decode cX10_count 1 = .ok (.tableswitch 190 0 17 #[87, 92, 97, 105, 113, 121, 126, 131, 131, 131, 141, 148, 156, 164, 164, 164, 164, 177], 87) := da9_dX10_count_0.2.1
theorem dX10_count_88 : decode cX10_count 88 = .ok (.aload_n 0, 1) := da9_dX10_count_0.2.2.1
theorem dX10_count_89 : decode cX10_count 89 = .ok (.invokevirtual 125, 3) := da9_dX10_count_0.2.2.2.1
theorem dX10_count_92 : decode cX10_count 92 = .ok (.ireturn, 1) := da9_dX10_count_0.2.2.2.2.1
theorem dX10_count_93 : decode cX10_count 93 = .ok (.aload_n 0, 1) := da9_dX10_count_0.2.2.2.2.2.1
theorem dX10_count_94 : decode cX10_count 94 = .ok (.invokevirtual 525, 3) := da9_dX10_count_0.2.2.2.2.2.2.1
theorem dX10_count_97 : decode cX10_count 97 = .ok (.ireturn, 1) := da9_dX10_count_0.2.2.2.2.2.2.2.1
theorem dX10_count_98 : decode cX10_count 98 = .ok (.aload_n 0, 1) := da9_dX10_count_0.2.2.2.2.2.2.2.2.1
theorem dX10_count_99 : decode cX10_count 99 = .ok (.getfield 28, 3) := da9_dX10_count_0.2.2.2.2.2.2.2.2.2.1
theorem dX10_count_102 : decode cX10_count 102 = .ok (.bipush 12, 2) := da9_dX10_count_0.2.2.2.2.2.2.2.2.2.2.1
theorem dX10_count_104 : decode cX10_count 104 = .ok (.iaload, 1) := da9_dX10_count_0.2.2.2.2.2.2.2.2.2.2.2.1
theorem dX10_count_105 : decode cX10_count 105 = .ok (.ireturn, 1) := da9_dX10_count_0.2.2.2.2.2.2.2.2.2.2.2.2.1
theorem dX10_count_106 : decode cX10_count 106 = .ok (.aload_n 0, 1) := da9_dX10_count_0.2.2.2.2.2.2.2.2.2.2.2.2.2.1
theorem dX10_count_107 : decode cX10_count 107 = .ok (.getfield 28, 3) := da9_dX10_count_0.2.2.2.2.2.2.2.2.2.2.2.2.2.2.1
theorem dX10_count_110 : decode cX10_count 110 = .ok (.bipush 30, 2) := da9_dX10_count_0.2.2.2.2.2.2.2.2.2.2.2.2.2.2.2
theorem da9_dX10_count_112 : (decode cX10_count 112 = .ok (.iaload, 1)) ∧ (decode cX10_count 113 = .ok (.ireturn, 1)) ∧ (decode cX10_count 114 = .ok (.aload_n 0, 1)) ∧ (decode cX10_count 115 = .ok (.getfield 28, 3)) ∧ (decode cX10_count 118 = .ok (.bipush 31, 2)) ∧ (decode cX10_count 120 = .ok (.iaload, 1)) ∧ (decode cX10_count 121 = .ok (.ireturn, 1)) ∧ (decode cX10_count 122 = .ok (.aload_n 0, 1)) ∧ (decode cX10_count 123 = .ok (.getfield 11, 3)) ∧ (decode cX10_count 126 = .ok (.ireturn, 1)) ∧ (decode cX10_count 127 = .ok (.aload_n 0, 1)) ∧ (decode cX10_count 128 = .ok (.getfield 169, 3)) ∧ (decode cX10_count 131 = .ok (.ireturn, 1)) ∧ (decode cX10_count 132 = .ok (.aload_n 0, 1)) ∧ (decode cX10_count 133 = .ok (.getfield 7, 3)) ∧ (decode cX10_count 136 = .ok (.iload_n 1, 1)) := by decide +kernel
theorem dX10_count_112 : decode cX10_count 112 = .ok (.iaload, 1) := da9_dX10_count_112.1
theorem dX10_count_113 : decode cX10_count 113 = .ok (.ireturn, 1) := da9_dX10_count_112.2.1
theorem dX10_count_114 : decode cX10_count 114 = .ok (.aload_n 0, 1) := da9_dX10_count_112.2.2.1
theorem dX10_count_115 : decode cX10_count 115 = .ok (.getfield 28, 3) := da9_dX10_count_112.2.2.2.1
theorem dX10_count_118 : decode cX10_count 118 = .ok (.bipush 31, 2) := da9_dX10_count_112.2.2.2.2.1
theorem dX10_count_120 : decode cX10_count 120 = .ok (.iaload, 1) := da9_dX10_count_112.2.2.2.2.2.1
theorem dX10_count_121 : decode cX10_count 121 = .ok (.ireturn, 1) := da9_dX10_count_112.2.2.2.2.2.2.1
theorem dX10_count_122 : decode cX10_count 122 = .ok (.aload_n 0, 1) := da9_dX10_count_112.2.2.2.2.2.2.2.1
theorem dX10_count_123 : decode cX10_count 123 = .ok (.getfield 11, 3) := da9_dX10_count_112.2.2.2.2.2.2.2.2.1
theorem dX10_count_126 : decode cX10_count 126 = .ok (.ireturn, 1) := da9_dX10_count_112.2.2.2.2.2.2.2.2.2.1
theorem dX10_count_127 : decode cX10_count 127 = .ok (.aload_n 0, 1) := da9_dX10_count_112.2.2.2.2.2.2.2.2.2.2.1
theorem dX10_count_128 : decode cX10_count 128 = .ok (.getfield 169, 3) := da9_dX10_count_112.2.2.2.2.2.2.2.2.2.2.2.1
theorem dX10_count_131 : decode cX10_count 131 = .ok (.ireturn, 1) := da9_dX10_count_112.2.2.2.2.2.2.2.2.2.2.2.2.1
theorem dX10_count_132 : decode cX10_count 132 = .ok (.aload_n 0, 1) := da9_dX10_count_112.2.2.2.2.2.2.2.2.2.2.2.2.2.1
theorem dX10_count_133 : decode cX10_count 133 = .ok (.getfield 7, 3) := da9_dX10_count_112.2.2.2.2.2.2.2.2.2.2.2.2.2.2.1
theorem dX10_count_136 : decode cX10_count 136 = .ok (.iload_n 1, 1) := da9_dX10_count_112.2.2.2.2.2.2.2.2.2.2.2.2.2.2.2
theorem da9_dX10_count_137 : (decode cX10_count 137 = .ok (.bipush 6, 2)) ∧ (decode cX10_count 139 = .ok (.isub, 1)) ∧ (decode cX10_count 140 = .ok (.iaload, 1)) ∧ (decode cX10_count 141 = .ok (.ireturn, 1)) ∧ (decode cX10_count 142 = .ok (.aload_n 0, 1)) ∧ (decode cX10_count 143 = .ok (.getfield 7, 3)) ∧ (decode cX10_count 146 = .ok (.iconst 5, 1)) ∧ (decode cX10_count 147 = .ok (.iaload, 1)) ∧ (decode cX10_count 148 = .ok (.ireturn, 1)) ∧ (decode cX10_count 149 = .ok (.aload_n 0, 1)) ∧ (decode cX10_count 150 = .ok (.getfield 7, 3)) ∧ (decode cX10_count 153 = .ok (.bipush 6, 2)) ∧ (decode cX10_count 155 = .ok (.iaload, 1)) ∧ (decode cX10_count 156 = .ok (.ireturn, 1)) ∧ (decode cX10_count 157 = .ok (.aload_n 0, 1)) ∧ (decode cX10_count 158 = .ok (.getfield 28, 3)) := by decide +kernel
theorem dX10_count_137 : decode cX10_count 137 = .ok (.bipush 6, 2) := da9_dX10_count_137.1
theorem dX10_count_139 : decode cX10_count 139 = .ok (.isub, 1) := da9_dX10_count_137.2.1
theorem dX10_count_140 : decode cX10_count 140 = .ok (.iaload, 1) := da9_dX10_count_137.2.2.1
theorem dX10_count_141 : decode cX10_count 141 = .ok (.ireturn, 1) := da9_dX10_count_137.2.2.2.1
theorem dX10_count_142 : decode cX10_count 142 = .ok (.aload_n 0, 1) := da9_dX10_count_137.2.2.2.2.1
theorem dX10_count_143 : decode cX10_count 143 = .ok (.getfield 7, 3) := da9_dX10_count_137.2.2.2.2.2.1
theorem dX10_count_146 : decode cX10_count 146 = .ok (.iconst 5, 1) := da9_dX10_count_137.2.2.2.2.2.2.1
theorem dX10_count_147 : decode cX10_count 147 = .ok (.iaload, 1) := da9_dX10_count_137.2.2.2.2.2.2.2.1
theorem dX10_count_148 : decode cX10_count 148 = .ok (.ireturn, 1) := da9_dX10_count_137.2.2.2.2.2.2.2.2.1
theorem dX10_count_149 : decode cX10_count 149 = .ok (.aload_n 0, 1) := da9_dX10_count_137.2.2.2.2.2.2.2.2.2.1
theorem dX10_count_150 : decode cX10_count 150 = .ok (.getfield 7, 3) := da9_dX10_count_137.2.2.2.2.2.2.2.2.2.2.1
theorem dX10_count_153 : decode cX10_count 153 = .ok (.bipush 6, 2) := da9_dX10_count_137.2.2.2.2.2.2.2.2.2.2.2.1
theorem dX10_count_155 : decode cX10_count 155 = .ok (.iaload, 1) := da9_dX10_count_137.2.2.2.2.2.2.2.2.2.2.2.2.1
theorem dX10_count_156 : decode cX10_count 156 = .ok (.ireturn, 1) := da9_dX10_count_137.2.2.2.2.2.2.2.2.2.2.2.2.2.1
theorem dX10_count_157 : decode cX10_count 157 = .ok (.aload_n 0, 1) := da9_dX10_count_137.2.2.2.2.2.2.2.2.2.2.2.2.2.2.1
theorem dX10_count_158 : decode cX10_count 158 = .ok (.getfield 28, 3) := da9_dX10_count_137.2.2.2.2.2.2.2.2.2.2.2.2.2.2.2
theorem da9_dX10_count_161 : (decode cX10_count 161 = .ok (.bipush 32, 2)) ∧ (decode cX10_count 163 = .ok (.iaload, 1)) ∧ (decode cX10_count 164 = .ok (.ireturn, 1)) ∧ (decode cX10_count 165 = .ok (.aload_n 0, 1)) ∧ (decode cX10_count 166 = .ok (.getfield 28, 3)) ∧ (decode cX10_count 169 = .ok (.iload_n 1, 1)) ∧ (decode cX10_count 170 = .ok (.bipush 13, 2)) ∧ (decode cX10_count 172 = .ok (.isub, 1)) ∧ (decode cX10_count 173 = .ok (.invokestatic 166, 3)) ∧ (decode cX10_count 176 = .ok (.iaload, 1)) ∧ (decode cX10_count 177 = .ok (.ireturn, 1)) ∧ (decode cX10_count 178 = .ok (.aload_n 0, 1)) ∧ (decode cX10_count 179 = .ok (.invokevirtual 528, 3)) ∧ (decode cX10_count 182 = .ok (.ifCond .eq 7, 3)) ∧ (decode cX10_count 185 = .ok (.iconst 1, 1)) ∧ (decode cX10_count 186 = .ok (.goto 4, 3)) := by decide +kernel
theorem dX10_count_161 : decode cX10_count 161 = .ok (.bipush 32, 2) := da9_dX10_count_161.1
theorem dX10_count_163 : decode cX10_count 163 = .ok (.iaload, 1) := da9_dX10_count_161.2.1
theorem dX10_count_164 : decode cX10_count 164 = .ok (.ireturn, 1) := da9_dX10_count_161.2.2.1
theorem dX10_count_165 : decode cX10_count 165 = .ok (.aload_n 0, 1) := da9_dX10_count_161.2.2.2.1
theorem dX10_count_166 : decode cX10_count 166 = .ok (.getfield 28, 3) := da9_dX10_count_161.2.2.2.2.1
theorem dX10_count_169 : decode cX10_count 169 = .ok (.iload_n 1, 1) := da9_dX10_count_161.2.2.2.2.2.1
theorem dX10_count_170 : decode cX10_count 170 = .ok (.bipush 13, 2) := da9_dX10_count_161.2.2.2.2.2.2.1
theorem dX10_count_172 : decode cX10_count 172 = .ok (.isub, 1) := da9_dX10_count_161.2.2.2.2.2.2.2.1
theorem dX10_count_173 : decode cX10_count 173 = .ok (.invokestatic 166, 3) := da9_dX10_count_161.2.2.2.2.2.2.2.2.1
theorem dX10_count_176 : decode cX10_count 176 = .ok (.iaload, 1) := da9_dX10_count_161.2.2.2.2.2.2.2.2.2.1
theorem dX10_count_177 : decode cX10_count 177 = .ok (.ireturn, 1) := da9_dX10_count_161.2.2.2.2.2.2.2.2.2.2.1
theorem dX10_count_178 : decode cX10_count 178 = .ok (.aload_n 0, 1) := da9_dX10_count_161.2.2.2.2.2.2.2.2.2.2.2.1
theorem dX10_count_179 : decode cX10_count 179 = .ok (.invokevirtual 528, 3) := da9_dX10_count_161.2.2.2.2.2.2.2.2.2.2.2.2.1
theorem dX10_count_182 : decode cX10_count 182 = .ok (.ifCond .eq 7, 3) := da9_dX10_count_161.2.2.2.2.2.2.2.2.2.2.2.2.2.1
theorem dX10_count_185 : decode cX10_count 185 = .ok (.iconst 1, 1) := da9_dX10_count_161.2.2.2.2.2.2.2.2.2.2.2.2.2.2.1
theorem dX10_count_186 : decode cX10_count 186 = .ok (.goto 4, 3) := da9_dX10_count_161.2.2.2.2.2.2.2.2.2.2.2.2.2.2.2
theorem da9_dX10_count_189 : (decode cX10_count 189 = .ok (.iconst 0, 1)) ∧ (decode cX10_count 190 = .ok (.ireturn, 1)) ∧ (decode cX10_count 191 = .ok (.iconst (-1), 1)) ∧ (decode cX10_count 192 = .ok (.ireturn, 1)) := by decide +kernel
theorem dX10_count_189 : decode cX10_count 189 = .ok (.iconst 0, 1) := da9_dX10_count_189.1
theorem dX10_count_190 : decode cX10_count 190 = .ok (.ireturn, 1) := da9_dX10_count_189.2.1
theorem dX10_count_191 : decode cX10_count 191 = .ok (.iconst (-1), 1) := da9_dX10_count_189.2.2.1
theorem dX10_count_192 : decode cX10_count 192 = .ok (.ireturn, 1) := da9_dX10_count_189.2.2.2
theorem da9_dX10_status_0 : (decode cX10_status 0 = .ok (.aload_n 0, 1)) ∧ (decode cX10_status 1 = .ok (.getfield 3, 3)) ∧ (decode cX10_status 4 = .ok (.ireturn, 1)) := by decide +kernel
theorem dX10_status_0 : decode cX10_status 0 = .ok (.aload_n 0, 1) := da9_dX10_status_0.1
theorem dX10_status_1 : decode cX10_status 1 = .ok (.getfield 3, 3) := da9_dX10_status_0.2.1
theorem dX10_status_4 : decode cX10_status 4 = .ok (.ireturn, 1) := da9_dX10_status_0.2.2
end
