section
set_option maxRecDepth 20000 in
theorem ggX4_readTerm_X4_readPart : GoodIn wsX4_readTerm wsX4_readPart := wd_c vW9_ok mvW9_282
set_option maxRecDepth 20000 in
theorem gX4_readTerm_X4_readPart : GoodIn wsX4_readTerm (wsV RX4 149 RX4 yX4_readPart wsX4_readPart) := goodIn_app (wd_l vW9_ok _ pvW9_57) ggX4_readTerm_X4_readPart
set_option maxRecDepth 20000 in
theorem ggX4_readTerm_X4_signIn : GoodIn wsX4_readTerm wsX4_signIn := wd_c vW9_ok mvW9_272
set_option maxRecDepth 20000 in
theorem gX4_readTerm_X4_signIn : GoodIn wsX4_readTerm (wsV RX4 140 RX4 yX4_signIn wsX4_signIn) := goodIn_app (wd_l vW9_ok _ pvW9_55) ggX4_readTerm_X4_signIn
set_option maxRecDepth 20000 in
theorem ggX4_readTerm_X4_step : GoodIn wsX4_readTerm wsX4_step := wd_c vW9_ok mvW9_182
set_option maxRecDepth 20000 in
theorem gX4_readTerm_X4_step : GoodIn wsX4_readTerm (wsV RX4 59 RX4 yX4_step wsX4_step) := goodIn_app (wd_l vW9_ok _ pvW9_36) ggX4_readTerm_X4_step
set_option maxRecDepth 20000 in
theorem ggX4_readTerm_X7_emit : GoodIn wsX4_readTerm wsX7_emit := wd_c vW9_ok mvW9_280
set_option maxRecDepth 20000 in
theorem gX4_readTerm_X7_emit : GoodIn wsX4_readTerm (wsV RX4 116 RX7 yX7_emit wsX7_emit) := goodIn_app (wd_l vW9_ok _ pvW9_50) ggX4_readTerm_X7_emit
theorem da9_dX4_readTerm_0 : (decode cX4_readTerm 0 = .ok (.aload_n 0, 1)) ∧ (decode cX4_readTerm 1 = .ok (.invokevirtual 149, 3)) ∧ (decode cX4_readTerm 4 = .ok (.iconst 0, 1)) ∧ (decode cX4_readTerm 5 = .ok (.istore_n 1, 1)) ∧ (decode cX4_readTerm 6 = .ok (.iload_n 1, 1)) ∧ (decode cX4_readTerm 7 = .ok (.aload_n 0, 1)) ∧ (decode cX4_readTerm 8 = .ok (.getfield 15, 3)) ∧ (decode cX4_readTerm 11 = .ok (.if_icmp .ge 48, 3)) ∧ (decode cX4_readTerm 14 = .ok (.aload_n 0, 1)) ∧ (decode cX4_readTerm 15 = .ok (.getfield 45, 3)) ∧ (decode cX4_readTerm 18 = .ok (.iconst (-1), 1)) ∧ (decode cX4_readTerm 19 = .ok (.if_icmp .ne 40, 3)) ∧ (decode cX4_readTerm 22 = .ok (.aload_n 0, 1)) ∧ (decode cX4_readTerm 23 = .ok (.ldc 152, 2)) ∧ (decode cX4_readTerm 25 = .ok (.iconst 4, 1)) ∧ (decode cX4_readTerm 26 = .ok (.invokevirtual 140, 3)) := by decide +kernel
theorem dX4_readTerm_0 : decode cX4_readTerm 0 = .ok (.aload_n 0, 1) := da9_dX4_readTerm_0.1
theorem dX4_readTerm_1 : decode cX4_readTerm 1 = .ok (.invokevirtual 149, 3) := da9_dX4_readTerm_0.2.1
theorem dX4_readTerm_4 : decode cX4_readTerm 4 = .ok (.iconst 0, 1) := da9_dX4_readTerm_0.2.2.1
theorem dX4_readTerm_5 : decode cX4_readTerm 5 = .ok (.istore_n 1, 1) := da9_dX4_readTerm_0.2.2.2.1
theorem dX4_readTerm_6 : decode cX4_readTerm 6 = .ok (.iload_n 1, 1) := da9_dX4_readTerm_0.2.2.2.2.1
theorem dX4_readTerm_7 : decode cX4_readTerm 7 = .ok (.aload_n 0, 1) := da9_dX4_readTerm_0.2.2.2.2.2.1
theorem dX4_readTerm_8 : decode cX4_readTerm 8 = .ok (.getfield 15, 3) := da9_dX4_readTerm_0.2.2.2.2.2.2.1
theorem dX4_readTerm_11 : decode cX4_readTerm 11 = .ok (.if_icmp .ge 48, 3) := da9_dX4_readTerm_0.2.2.2.2.2.2.2.1
theorem dX4_readTerm_14 : decode cX4_readTerm 14 = .ok (.aload_n 0, 1) := da9_dX4_readTerm_0.2.2.2.2.2.2.2.2.1
theorem dX4_readTerm_15 : decode cX4_readTerm 15 = .ok (.getfield 45, 3) := da9_dX4_readTerm_0.2.2.2.2.2.2.2.2.2.1
theorem dX4_readTerm_18 : decode cX4_readTerm 18 = .ok (.iconst (-1), 1) := da9_dX4_readTerm_0.2.2.2.2.2.2.2.2.2.2.1
theorem dX4_readTerm_19 : decode cX4_readTerm 19 = .ok (.if_icmp .ne 40, 3) := da9_dX4_readTerm_0.2.2.2.2.2.2.2.2.2.2.2.1
theorem dX4_readTerm_22 : decode cX4_readTerm 22 = .ok (.aload_n 0, 1) := da9_dX4_readTerm_0.2.2.2.2.2.2.2.2.2.2.2.2.1
theorem dX4_readTerm_23 : decode cX4_readTerm 23 = .ok (.ldc 152, 2) := da9_dX4_readTerm_0.2.2.2.2.2.2.2.2.2.2.2.2.2.1
theorem dX4_readTerm_25 : decode cX4_readTerm 25 = .ok (.iconst 4, 1) := da9_dX4_readTerm_0.2.2.2.2.2.2.2.2.2.2.2.2.2.2.1
theorem dX4_readTerm_26 : decode cX4_readTerm 26 = .ok (.invokevirtual 140, 3) := da9_dX4_readTerm_0.2.2.2.2.2.2.2.2.2.2.2.2.2.2.2
theorem da9_dX4_readTerm_29 : (decode cX4_readTerm 29 = .ok (.istore_n 2, 1)) ∧ (decode cX4_readTerm 30 = .ok (.iload_n 2, 1)) ∧ (decode cX4_readTerm 31 = .ok (.iconst (-1), 1)) ∧ (decode cX4_readTerm 32 = .ok (.if_icmp .ne 4, 3)) ∧ (decode cX4_readTerm 35 = .ok (.return_, 1)) ∧ (decode cX4_readTerm 36 = .ok (.aload_n 0, 1)) ∧ (decode cX4_readTerm 37 = .ok (.invokevirtual 59, 3)) ∧ (decode cX4_readTerm 40 = .ok (.aload_n 0, 1)) ∧ (decode cX4_readTerm 41 = .ok (.invokevirtual 149, 3)) ∧ (decode cX4_readTerm 44 = .ok (.aload_n 0, 1)) ∧ (decode cX4_readTerm 45 = .ok (.getfield 23, 3)) ∧ (decode cX4_readTerm 48 = .ok (.iload_n 2, 1)) ∧ (decode cX4_readTerm 49 = .ok (.iconst 0, 1)) ∧ (decode cX4_readTerm 50 = .ok (.invokevirtual 116, 3)) ∧ (decode cX4_readTerm 53 = .ok (.iinc 1 1, 3)) ∧ (decode cX4_readTerm 56 = .ok (.goto (-50), 3)) := by decide +kernel
theorem dX4_readTerm_29 : decode cX4_readTerm 29 = .ok (.istore_n 2, 1) := da9_dX4_readTerm_29.1
theorem dX4_readTerm_30 : decode cX4_readTerm 30 = .ok (.iload_n 2, 1) := da9_dX4_readTerm_29.2.1
theorem dX4_readTerm_31 : decode cX4_readTerm 31 = .ok (.iconst (-1), 1) := da9_dX4_readTerm_29.2.2.1
theorem dX4_readTerm_32 : decode cX4_readTerm 32 = .ok (.if_icmp .ne 4, 3) := da9_dX4_readTerm_29.2.2.2.1
theorem dX4_readTerm_35 : decode cX4_readTerm 35 = .ok (.return_, 1) := da9_dX4_readTerm_29.2.2.2.2.1
theorem dX4_readTerm_36 : decode cX4_readTerm 36 = .ok (.aload_n 0, 1) := da9_dX4_readTerm_29.2.2.2.2.2.1
theorem dX4_readTerm_37 : decode cX4_readTerm 37 = .ok (.invokevirtual 59, 3) := da9_dX4_readTerm_29.2.2.2.2.2.2.1
theorem dX4_readTerm_40 : decode cX4_readTerm 40 = .ok (.aload_n 0, 1) := da9_dX4_readTerm_29.2.2.2.2.2.2.2.1
theorem dX4_readTerm_41 : decode cX4_readTerm 41 = .ok (.invokevirtual 149, 3) := da9_dX4_readTerm_29.2.2.2.2.2.2.2.2.1
theorem dX4_readTerm_44 : decode cX4_readTerm 44 = .ok (.aload_n 0, 1) := da9_dX4_readTerm_29.2.2.2.2.2.2.2.2.2.1
theorem dX4_readTerm_45 : decode cX4_readTerm 45 = .ok (.getfield 23, 3) := da9_dX4_readTerm_29.2.2.2.2.2.2.2.2.2.2.1
theorem dX4_readTerm_48 : decode cX4_readTerm 48 = .ok (.iload_n 2, 1) := da9_dX4_readTerm_29.2.2.2.2.2.2.2.2.2.2.2.1
theorem dX4_readTerm_49 : decode cX4_readTerm 49 = .ok (.iconst 0, 1) := da9_dX4_readTerm_29.2.2.2.2.2.2.2.2.2.2.2.2.1
theorem dX4_readTerm_50 : decode cX4_readTerm 50 = .ok (.invokevirtual 116, 3) := da9_dX4_readTerm_29.2.2.2.2.2.2.2.2.2.2.2.2.2.1
theorem dX4_readTerm_53 : decode cX4_readTerm 53 = .ok (.iinc 1 1, 3) := da9_dX4_readTerm_29.2.2.2.2.2.2.2.2.2.2.2.2.2.2.1
theorem dX4_readTerm_56 : decode cX4_readTerm 56 = .ok (.goto (-50), 3) := da9_dX4_readTerm_29.2.2.2.2.2.2.2.2.2.2.2.2.2.2.2
theorem dX4_readTerm_59 : decode cX4_readTerm 59 = .ok (.return_, 1) := by decide +kernel
set_option maxRecDepth 20000 in
theorem ggX4_readPart_X4_isSign : GoodIn wsX4_readPart wsX4_isSign := wd_c vW9_ok mvW9_276
set_option maxRecDepth 20000 in
theorem gX4_readPart_X4_isSign : GoodIn wsX4_readPart (wsV RX4 130 RX4 yX4_isSign wsX4_isSign) := goodIn_app (wd_l vW9_ok _ pvW9_53) ggX4_readPart_X4_isSign
set_option maxRecDepth 20000 in
theorem ggX4_readPart_X4_openBracket : GoodIn wsX4_readPart wsX4_openBracket := wd_c vW9_ok mvW9_286
set_option maxRecDepth 20000 in
theorem gX4_readPart_X4_openBracket : GoodIn wsX4_readPart (wsV RX4 134 RX4 yX4_openBracket wsX4_openBracket) := goodIn_app (wd_l vW9_ok _ pvW9_54) ggX4_readPart_X4_openBracket
set_option maxRecDepth 20000 in
theorem ggX4_readPart_X4_readSum : GoodIn wsX4_readPart wsX4_readSum := wd_c vW9_ok mvW9_265
set_option maxRecDepth 20000 in
theorem gX4_readPart_X4_readSum : GoodIn wsX4_readPart (wsV RX4 84 RX4 yX4_readSum wsX4_readSum) := goodIn_app (wd_l vW9_ok _ pvW9_42) ggX4_readPart_X4_readSum
set_option maxRecDepth 20000 in
theorem ggX4_readPart_X4_expectSign : GoodIn wsX4_readPart wsX4_expectSign := wd_c vW9_ok mvW9_290
set_option maxRecDepth 20000 in
theorem gX4_readPart_X4_expectSign : GoodIn wsX4_readPart (wsV RX4 68 RX4 yX4_expectSign wsX4_expectSign) := goodIn_app (wd_l vW9_ok _ pvW9_39) ggX4_readPart_X4_expectSign
set_option maxRecDepth 20000 in
theorem ggX4_readPart_X4_wordIn : GoodIn wsX4_readPart wsX4_wordIn := wd_c vW9_ok mvW9_199
set_option maxRecDepth 20000 in
theorem gX4_readPart_X4_wordIn : GoodIn wsX4_readPart (wsV RX4 76 RX4 yX4_wordIn wsX4_wordIn) := goodIn_app (wd_l vW9_ok _ pvW9_40) ggX4_readPart_X4_wordIn
set_option maxRecDepth 20000 in
theorem ggX4_readPart_X4_fail : GoodIn wsX4_readPart wsX4_fail := wd_c vW9_ok mvW9_191
set_option maxRecDepth 20000 in
theorem gX4_readPart_X4_fail : GoodIn wsX4_readPart (wsV RX4 62 RX4 yX4_fail wsX4_fail) := goodIn_app (wd_l vW9_ok _ pvW9_37) ggX4_readPart_X4_fail
set_option maxRecDepth 20000 in
theorem ggX4_readPart_X4_step : GoodIn wsX4_readPart wsX4_step := wd_c vW9_ok mvW9_182
set_option maxRecDepth 20000 in
theorem gX4_readPart_X4_step : GoodIn wsX4_readPart (wsV RX4 59 RX4 yX4_step wsX4_step) := goodIn_app (wd_l vW9_ok _ pvW9_36) ggX4_readPart_X4_step
set_option maxRecDepth 20000 in
theorem ggX4_readPart_X7_emit : GoodIn wsX4_readPart wsX7_emit := wd_c vW9_ok mvW9_280
set_option maxRecDepth 20000 in
theorem gX4_readPart_X7_emit : GoodIn wsX4_readPart (wsV RX4 116 RX7 yX7_emit wsX7_emit) := goodIn_app (wd_l vW9_ok _ pvW9_50) ggX4_readPart_X7_emit
set_option maxRecDepth 20000 in
theorem ggX4_readPart_X4_readPlace : GoodIn wsX4_readPart wsX4_readPlace := wd_c vW9_ok mvW9_294
set_option maxRecDepth 20000 in
theorem gX4_readPart_X4_readPlace : GoodIn wsX4_readPart (wsV RX4 160 RX4 yX4_readPlace wsX4_readPlace) := goodIn_app (wd_l vW9_ok _ pvW9_58) ggX4_readPart_X4_readPlace
theorem da9_dX4_readPart_0 : (decode cX4_readPart 0 = .ok (.aload_n 0, 1)) ∧ (decode cX4_readPart 1 = .ok (.bipush 91, 2)) ∧ (decode cX4_readPart 3 = .ok (.invokevirtual 130, 3)) ∧ (decode cX4_readPart 6 = .ok (.ifCond .eq 31, 3)) ∧ (decode cX4_readPart 9 = .ok (.aload_n 0, 1)) ∧ (decode cX4_readPart 10 = .ok (.invokevirtual 134, 3)) ∧ (decode cX4_readPart 13 = .ok (.ifCond .eq 23, 3)) ∧ (decode cX4_readPart 16 = .ok (.aload_n 0, 1)) ∧ (decode cX4_readPart 17 = .ok (.invokevirtual 84, 3)) ∧ (decode cX4_readPart 20 = .ok (.aload_n 0, 1)) ∧ (decode cX4_readPart 21 = .ok (.dup, 1)) ∧ (decode cX4_readPart 22 = .ok (.getfield 42, 3)) ∧ (decode cX4_readPart 25 = .ok (.iconst 1, 1)) ∧ (decode cX4_readPart 26 = .ok (.isub, 1)) ∧ (decode cX4_readPart 27 = .ok (.putfield 42, 3)) ∧ (decode cX4_readPart 30 = .ok (.aload_n 0, 1)) := by decide +kernel
theorem dX4_readPart_0 : decode cX4_readPart 0 = .ok (.aload_n 0, 1) := da9_dX4_readPart_0.1
theorem dX4_readPart_1 : decode cX4_readPart 1 = .ok (.bipush 91, 2) := da9_dX4_readPart_0.2.1
theorem dX4_readPart_3 : decode cX4_readPart 3 = .ok (.invokevirtual 130, 3) := da9_dX4_readPart_0.2.2.1
theorem dX4_readPart_6 : decode cX4_readPart 6 = .ok (.ifCond .eq 31, 3) := da9_dX4_readPart_0.2.2.2.1
theorem dX4_readPart_9 : decode cX4_readPart 9 = .ok (.aload_n 0, 1) := da9_dX4_readPart_0.2.2.2.2.1
theorem dX4_readPart_10 : decode cX4_readPart 10 = .ok (.invokevirtual 134, 3) := da9_dX4_readPart_0.2.2.2.2.2.1
theorem dX4_readPart_13 : decode cX4_readPart 13 = .ok (.ifCond .eq 23, 3) := da9_dX4_readPart_0.2.2.2.2.2.2.1
theorem dX4_readPart_16 : decode cX4_readPart 16 = .ok (.aload_n 0, 1) := da9_dX4_readPart_0.2.2.2.2.2.2.2.1
theorem dX4_readPart_17 : decode cX4_readPart 17 = .ok (.invokevirtual 84, 3) := da9_dX4_readPart_0.2.2.2.2.2.2.2.2.1
theorem dX4_readPart_20 : decode cX4_readPart 20 = .ok (.aload_n 0, 1) := da9_dX4_readPart_0.2.2.2.2.2.2.2.2.2.1
theorem dX4_readPart_21 : decode cX4_readPart 21 = .ok (.dup, 1) := da9_dX4_readPart_0.2.2.2.2.2.2.2.2.2.2.1
theorem dX4_readPart_22 : decode cX4_readPart 22 = .ok (.getfield 42, 3) := da9_dX4_readPart_0.2.2.2.2.2.2.2.2.2.2.2.1
theorem dX4_readPart_25 : decode cX4_readPart 25 = .ok (.iconst 1, 1) := da9_dX4_readPart_0.2.2.2.2.2.2.2.2.2.2.2.2.1
theorem dX4_readPart_26 : decode cX4_readPart 26 = .ok (.isub, 1) := da9_dX4_readPart_0.2.2.2.2.2.2.2.2.2.2.2.2.2.1
theorem dX4_readPart_27 : decode cX4_readPart 27 = .ok (.putfield 42, 3) := da9_dX4_readPart_0.2.2.2.2.2.2.2.2.2.2.2.2.2.2.1
theorem dX4_readPart_30 : decode cX4_readPart 30 = .ok (.aload_n 0, 1) := da9_dX4_readPart_0.2.2.2.2.2.2.2.2.2.2.2.2.2.2.2
theorem da9_dX4_readPart_31 : (decode cX4_readPart 31 = .ok (.bipush 93, 2)) ∧ (decode cX4_readPart 33 = .ok (.invokevirtual 68, 3)) ∧ (decode cX4_readPart 36 = .ok (.return_, 1)) ∧ (decode cX4_readPart 37 = .ok (.aload_n 0, 1)) ∧ (decode cX4_readPart 38 = .ok (.aload_n 0, 1)) ∧ (decode cX4_readPart 39 = .ok (.getfield 19, 3)) ∧ (decode cX4_readPart 42 = .ok (.ifCond .eq 8, 3)) ∧ (decode cX4_readPart 45 = .ok (.ldc 154, 2)) ∧ (decode cX4_readPart 47 = .ok (.goto 5, 3)) ∧ (decode cX4_readPart 50 = .ok (.ldc 156, 2)) ∧ (decode cX4_readPart 52 = .ok (.invokevirtual 76, 3)) ∧ (decode cX4_readPart 55 = .ok (.istore_n 1, 1)) ∧ (decode cX4_readPart 56 = .ok (.aload_n 0, 1)) ∧ (decode cX4_readPart 57 = .ok (.getfield 27, 3)) ∧ (decode cX4_readPart 60 = .ok (.iconst 2, 1)) ∧ (decode cX4_readPart 61 = .ok (.if_icmp .ne 17, 3)) := by decide +kernel
theorem dX4_readPart_31 : decode cX4_readPart 31 = .ok (.bipush 93, 2) := da9_dX4_readPart_31.1
theorem dX4_readPart_33 : decode cX4_readPart 33 = .ok (.invokevirtual 68, 3) := da9_dX4_readPart_31.2.1
theorem dX4_readPart_36 : decode cX4_readPart 36 = .ok (.return_, 1) := da9_dX4_readPart_31.2.2.1
theorem dX4_readPart_37 : decode cX4_readPart 37 = .ok (.aload_n 0, 1) := da9_dX4_readPart_31.2.2.2.1
theorem dX4_readPart_38 : decode cX4_readPart 38 = .ok (.aload_n 0, 1) := da9_dX4_readPart_31.2.2.2.2.1
theorem dX4_readPart_39 : decode cX4_readPart 39 = .ok (.getfield 19, 3) := da9_dX4_readPart_31.2.2.2.2.2.1
theorem dX4_readPart_42 : decode cX4_readPart 42 = .ok (.ifCond .eq 8, 3) := da9_dX4_readPart_31.2.2.2.2.2.2.1
theorem dX4_readPart_45 : decode cX4_readPart 45 = .ok (.ldc 154, 2) := da9_dX4_readPart_31.2.2.2.2.2.2.2.1
theorem dX4_readPart_47 : decode cX4_readPart 47 = .ok (.goto 5, 3) := da9_dX4_readPart_31.2.2.2.2.2.2.2.2.1
theorem dX4_readPart_50 : decode cX4_readPart 50 = .ok (.ldc 156, 2) := da9_dX4_readPart_31.2.2.2.2.2.2.2.2.2.1
theorem dX4_readPart_52 : decode cX4_readPart 52 = .ok (.invokevirtual 76, 3) := da9_dX4_readPart_31.2.2.2.2.2.2.2.2.2.2.1
theorem dX4_readPart_55 : decode cX4_readPart 55 = .ok (.istore_n 1, 1) := da9_dX4_readPart_31.2.2.2.2.2.2.2.2.2.2.2.1
theorem dX4_readPart_56 : decode cX4_readPart 56 = .ok (.aload_n 0, 1) := da9_dX4_readPart_31.2.2.2.2.2.2.2.2.2.2.2.2.1
theorem dX4_readPart_57 : decode cX4_readPart 57 = .ok (.getfield 27, 3) := da9_dX4_readPart_31.2.2.2.2.2.2.2.2.2.2.2.2.2.1
theorem dX4_readPart_60 : decode cX4_readPart 60 = .ok (.iconst 2, 1) := da9_dX4_readPart_31.2.2.2.2.2.2.2.2.2.2.2.2.2.2.1
theorem dX4_readPart_61 : decode cX4_readPart 61 = .ok (.if_icmp .ne 17, 3) := da9_dX4_readPart_31.2.2.2.2.2.2.2.2.2.2.2.2.2.2.2
theorem da9_dX4_readPart_64 : (decode cX4_readPart 64 = .ok (.aload_n 0, 1)) ∧ (decode cX4_readPart 65 = .ok (.getfield 36, 3)) ∧ (decode cX4_readPart 68 = .ok (.sipush 1000, 3)) ∧ (decode cX4_readPart 71 = .ok (.if_icmp .gt 7, 3)) ∧ (decode cX4_readPart 74 = .ok (.iconst 1, 1)) ∧ (decode cX4_readPart 75 = .ok (.goto 4, 3)) ∧ (decode cX4_readPart 78 = .ok (.iconst 0, 1)) ∧ (decode cX4_readPart 79 = .ok (.istore_n 2, 1)) ∧ (decode cX4_readPart 80 = .ok (.iload_n 1, 1)) ∧ (decode cX4_readPart 81 = .ok (.iconst (-1), 1)) ∧ (decode cX4_readPart 82 = .ok (.if_icmp .ne 7, 3)) ∧ (decode cX4_readPart 85 = .ok (.iload_n 2, 1)) ∧ (decode cX4_readPart 86 = .ok (.ifCond .eq 12, 3)) ∧ (decode cX4_readPart 89 = .ok (.aload_n 0, 1)) ∧ (decode cX4_readPart 90 = .ok (.getfield 39, 3)) ∧ (decode cX4_readPart 93 = .ok (.bipush 50, 2)) := by decide +kernel
theorem dX4_readPart_64 : decode cX4_readPart 64 = .ok (.aload_n 0, 1) := da9_dX4_readPart_64.1
theorem dX4_readPart_65 : decode cX4_readPart 65 = .ok (.getfield 36, 3) := da9_dX4_readPart_64.2.1
theorem dX4_readPart_68 : decode cX4_readPart 68 = .ok (.sipush 1000, 3) := da9_dX4_readPart_64.2.2.1
theorem dX4_readPart_71 : decode cX4_readPart 71 = .ok (.if_icmp .gt 7, 3) := da9_dX4_readPart_64.2.2.2.1
theorem dX4_readPart_74 : decode cX4_readPart 74 = .ok (.iconst 1, 1) := da9_dX4_readPart_64.2.2.2.2.1
theorem dX4_readPart_75 : decode cX4_readPart 75 = .ok (.goto 4, 3) := da9_dX4_readPart_64.2.2.2.2.2.1
theorem dX4_readPart_78 : decode cX4_readPart 78 = .ok (.iconst 0, 1) := da9_dX4_readPart_64.2.2.2.2.2.2.1
theorem dX4_readPart_79 : decode cX4_readPart 79 = .ok (.istore_n 2, 1) := da9_dX4_readPart_64.2.2.2.2.2.2.2.1
theorem dX4_readPart_80 : decode cX4_readPart 80 = .ok (.iload_n 1, 1) := da9_dX4_readPart_64.2.2.2.2.2.2.2.2.1
theorem dX4_readPart_81 : decode cX4_readPart 81 = .ok (.iconst (-1), 1) := da9_dX4_readPart_64.2.2.2.2.2.2.2.2.2.1
theorem dX4_readPart_82 : decode cX4_readPart 82 = .ok (.if_icmp .ne 7, 3) := da9_dX4_readPart_64.2.2.2.2.2.2.2.2.2.2.1
theorem dX4_readPart_85 : decode cX4_readPart 85 = .ok (.iload_n 2, 1) := da9_dX4_readPart_64.2.2.2.2.2.2.2.2.2.2.2.1
theorem dX4_readPart_86 : decode cX4_readPart 86 = .ok (.ifCond .eq 12, 3) := da9_dX4_readPart_64.2.2.2.2.2.2.2.2.2.2.2.2.1
theorem dX4_readPart_89 : decode cX4_readPart 89 = .ok (.aload_n 0, 1) := da9_dX4_readPart_64.2.2.2.2.2.2.2.2.2.2.2.2.2.1
theorem dX4_readPart_90 : decode cX4_readPart 90 = .ok (.getfield 39, 3) := da9_dX4_readPart_64.2.2.2.2.2.2.2.2.2.2.2.2.2.2.1
theorem dX4_readPart_93 : decode cX4_readPart 93 = .ok (.bipush 50, 2) := da9_dX4_readPart_64.2.2.2.2.2.2.2.2.2.2.2.2.2.2.2
theorem da9_dX4_readPart_95 : (decode cX4_readPart 95 = .ok (.if_icmp .lt 8, 3)) ∧ (decode cX4_readPart 98 = .ok (.aload_n 0, 1)) ∧ (decode cX4_readPart 99 = .ok (.invokevirtual 62, 3)) ∧ (decode cX4_readPart 102 = .ok (.return_, 1)) ∧ (decode cX4_readPart 103 = .ok (.aload_n 0, 1)) ∧ (decode cX4_readPart 104 = .ok (.dup, 1)) ∧ (decode cX4_readPart 105 = .ok (.getfield 39, 3)) ∧ (decode cX4_readPart 108 = .ok (.iconst 1, 1)) ∧ (decode cX4_readPart 109 = .ok (.iadd, 1)) ∧ (decode cX4_readPart 110 = .ok (.putfield 39, 3)) ∧ (decode cX4_readPart 113 = .ok (.aload_n 0, 1)) ∧ (decode cX4_readPart 114 = .ok (.getfield 36, 3)) ∧ (decode cX4_readPart 117 = .ok (.istore_n 3, 1)) ∧ (decode cX4_readPart 118 = .ok (.aload_n 0, 1)) ∧ (decode cX4_readPart 119 = .ok (.invokevirtual 59, 3)) ∧ (decode cX4_readPart 122 = .ok (.iload_n 2, 1)) := by decide +kernel
theorem dX4_readPart_95 : decode cX4_readPart 95 = .ok (.if_icmp .lt 8, 3) := da9_dX4_readPart_95.1
theorem dX4_readPart_98 : decode cX4_readPart 98 = .ok (.aload_n 0, 1) := da9_dX4_readPart_95.2.1
theorem dX4_readPart_99 : decode cX4_readPart 99 = .ok (.invokevirtual 62, 3) := da9_dX4_readPart_95.2.2.1
theorem dX4_readPart_102 : decode cX4_readPart 102 = .ok (.return_, 1) := da9_dX4_readPart_95.2.2.2.1
theorem dX4_readPart_103 : decode cX4_readPart 103 = .ok (.aload_n 0, 1) := da9_dX4_readPart_95.2.2.2.2.1
theorem dX4_readPart_104 : decode cX4_readPart 104 = .ok (.dup, 1) := da9_dX4_readPart_95.2.2.2.2.2.1
theorem dX4_readPart_105 : decode cX4_readPart 105 = .ok (.getfield 39, 3) := da9_dX4_readPart_95.2.2.2.2.2.2.1
theorem dX4_readPart_108 : decode cX4_readPart 108 = .ok (.iconst 1, 1) := da9_dX4_readPart_95.2.2.2.2.2.2.2.1
theorem dX4_readPart_109 : decode cX4_readPart 109 = .ok (.iadd, 1) := da9_dX4_readPart_95.2.2.2.2.2.2.2.2.1
theorem dX4_readPart_110 : decode cX4_readPart 110 = .ok (.putfield 39, 3) := da9_dX4_readPart_95.2.2.2.2.2.2.2.2.2.1
theorem dX4_readPart_113 : decode cX4_readPart 113 = .ok (.aload_n 0, 1) := da9_dX4_readPart_95.2.2.2.2.2.2.2.2.2.2.1
theorem dX4_readPart_114 : decode cX4_readPart 114 = .ok (.getfield 36, 3) := da9_dX4_readPart_95.2.2.2.2.2.2.2.2.2.2.2.1
theorem dX4_readPart_117 : decode cX4_readPart 117 = .ok (.istore_n 3, 1) := da9_dX4_readPart_95.2.2.2.2.2.2.2.2.2.2.2.2.1
theorem dX4_readPart_118 : decode cX4_readPart 118 = .ok (.aload_n 0, 1) := da9_dX4_readPart_95.2.2.2.2.2.2.2.2.2.2.2.2.2.1
theorem dX4_readPart_119 : decode cX4_readPart 119 = .ok (.invokevirtual 59, 3) := da9_dX4_readPart_95.2.2.2.2.2.2.2.2.2.2.2.2.2.2.1
theorem dX4_readPart_122 : decode cX4_readPart 122 = .ok (.iload_n 2, 1) := da9_dX4_readPart_95.2.2.2.2.2.2.2.2.2.2.2.2.2.2.2
theorem da9_dX4_readPart_123 : (decode cX4_readPart 123 = .ok (.ifCond .eq 15, 3)) ∧ (decode cX4_readPart 126 = .ok (.aload_n 0, 1)) ∧ (decode cX4_readPart 127 = .ok (.getfield 23, 3)) ∧ (decode cX4_readPart 130 = .ok (.iconst 0, 1)) ∧ (decode cX4_readPart 131 = .ok (.iload_n 3, 1)) ∧ (decode cX4_readPart 132 = .ok (.invokevirtual 116, 3)) ∧ (decode cX4_readPart 135 = .ok (.goto 42, 3)) ∧ (decode cX4_readPart 138 = .ok (.aload_n 0, 1)) ∧ (decode cX4_readPart 139 = .ok (.getfield 19, 3)) ∧ (decode cX4_readPart 142 = .ok (.ifCond .eq 26, 3)) ∧ (decode cX4_readPart 145 = .ok (.iload_n 1, 1)) ∧ (decode cX4_readPart 146 = .ok (.iconst 5, 1)) ∧ (decode cX4_readPart 147 = .ok (.if_icmp .lt 21, 3)) ∧ (decode cX4_readPart 150 = .ok (.aload_n 0, 1)) ∧ (decode cX4_readPart 151 = .ok (.iload_n 1, 1)) ∧ (decode cX4_readPart 152 = .ok (.iconst 5, 1)) := by decide +kernel
theorem dX4_readPart_123 : decode cX4_readPart 123 = .ok (.ifCond .eq 15, 3) := da9_dX4_readPart_123.1
theorem dX4_readPart_126 : decode cX4_readPart 126 = .ok (.aload_n 0, 1) := da9_dX4_readPart_123.2.1
theorem dX4_readPart_127 : decode cX4_readPart 127 = .ok (.getfield 23, 3) := da9_dX4_readPart_123.2.2.1
theorem dX4_readPart_130 : decode cX4_readPart 130 = .ok (.iconst 0, 1) := da9_dX4_readPart_123.2.2.2.1
theorem dX4_readPart_131 : decode cX4_readPart 131 = .ok (.iload_n 3, 1) := da9_dX4_readPart_123.2.2.2.2.1
theorem dX4_readPart_132 : decode cX4_readPart 132 = .ok (.invokevirtual 116, 3) := da9_dX4_readPart_123.2.2.2.2.2.1
theorem dX4_readPart_135 : decode cX4_readPart 135 = .ok (.goto 42, 3) := da9_dX4_readPart_123.2.2.2.2.2.2.1
theorem dX4_readPart_138 : decode cX4_readPart 138 = .ok (.aload_n 0, 1) := da9_dX4_readPart_123.2.2.2.2.2.2.2.1
theorem dX4_readPart_139 : decode cX4_readPart 139 = .ok (.getfield 19, 3) := da9_dX4_readPart_123.2.2.2.2.2.2.2.2.1
theorem dX4_readPart_142 : decode cX4_readPart 142 = .ok (.ifCond .eq 26, 3) := da9_dX4_readPart_123.2.2.2.2.2.2.2.2.2.1
theorem dX4_readPart_145 : decode cX4_readPart 145 = .ok (.iload_n 1, 1) := da9_dX4_readPart_123.2.2.2.2.2.2.2.2.2.2.1
theorem dX4_readPart_146 : decode cX4_readPart 146 = .ok (.iconst 5, 1) := da9_dX4_readPart_123.2.2.2.2.2.2.2.2.2.2.2.1
theorem dX4_readPart_147 : decode cX4_readPart 147 = .ok (.if_icmp .lt 21, 3) := da9_dX4_readPart_123.2.2.2.2.2.2.2.2.2.2.2.2.1
theorem dX4_readPart_150 : decode cX4_readPart 150 = .ok (.aload_n 0, 1) := da9_dX4_readPart_123.2.2.2.2.2.2.2.2.2.2.2.2.2.1
theorem dX4_readPart_151 : decode cX4_readPart 151 = .ok (.iload_n 1, 1) := da9_dX4_readPart_123.2.2.2.2.2.2.2.2.2.2.2.2.2.2.1
theorem dX4_readPart_152 : decode cX4_readPart 152 = .ok (.iconst 5, 1) := da9_dX4_readPart_123.2.2.2.2.2.2.2.2.2.2.2.2.2.2.2
theorem da9_dX4_readPart_153 : (decode cX4_readPart 153 = .ok (.if_icmp .ne 7, 3)) ∧ (decode cX4_readPart 156 = .ok (.iconst 5, 1)) ∧ (decode cX4_readPart 157 = .ok (.goto 5, 3)) ∧ (decode cX4_readPart 160 = .ok (.bipush 11, 2)) ∧ (decode cX4_readPart 162 = .ok (.invokevirtual 160, 3)) ∧ (decode cX4_readPart 165 = .ok (.goto 12, 3)) ∧ (decode cX4_readPart 168 = .ok (.aload_n 0, 1)) ∧ (decode cX4_readPart 169 = .ok (.getfield 23, 3)) ∧ (decode cX4_readPart 172 = .ok (.iconst 1, 1)) ∧ (decode cX4_readPart 173 = .ok (.iload_n 1, 1)) ∧ (decode cX4_readPart 174 = .ok (.invokevirtual 116, 3)) ∧ (decode cX4_readPart 177 = .ok (.return_, 1)) := by decide +kernel
theorem dX4_readPart_153 : decode cX4_readPart 153 = .ok (.if_icmp .ne 7, 3) := da9_dX4_readPart_153.1
theorem dX4_readPart_156 : decode cX4_readPart 156 = .ok (.iconst 5, 1) := da9_dX4_readPart_153.2.1
theorem dX4_readPart_157 : decode cX4_readPart 157 = .ok (.goto 5, 3) := da9_dX4_readPart_153.2.2.1
theorem dX4_readPart_160 : decode cX4_readPart 160 = .ok (.bipush 11, 2) := da9_dX4_readPart_153.2.2.2.1
theorem dX4_readPart_162 : decode cX4_readPart 162 = .ok (.invokevirtual 160, 3) := da9_dX4_readPart_153.2.2.2.2.1
theorem dX4_readPart_165 : decode cX4_readPart 165 = .ok (.goto 12, 3) := da9_dX4_readPart_153.2.2.2.2.2.1
theorem dX4_readPart_168 : decode cX4_readPart 168 = .ok (.aload_n 0, 1) := da9_dX4_readPart_153.2.2.2.2.2.2.1
theorem dX4_readPart_169 : decode cX4_readPart 169 = .ok (.getfield 23, 3) := da9_dX4_readPart_153.2.2.2.2.2.2.2.1
theorem dX4_readPart_172 : decode cX4_readPart 172 = .ok (.iconst 1, 1) := da9_dX4_readPart_153.2.2.2.2.2.2.2.2.1
theorem dX4_readPart_173 : decode cX4_readPart 173 = .ok (.iload_n 1, 1) := da9_dX4_readPart_153.2.2.2.2.2.2.2.2.2.1
theorem dX4_readPart_174 : decode cX4_readPart 174 = .ok (.invokevirtual 116, 3) := da9_dX4_readPart_153.2.2.2.2.2.2.2.2.2.2.1
theorem dX4_readPart_177 : decode cX4_readPart 177 = .ok (.return_, 1) := da9_dX4_readPart_153.2.2.2.2.2.2.2.2.2.2.2
set_option maxRecDepth 20000 in
theorem ggX4_readPlace_X4_fail : GoodIn wsX4_readPlace wsX4_fail := wd_c vW9_ok mvW9_191
set_option maxRecDepth 20000 in
theorem gX4_readPlace_X4_fail : GoodIn wsX4_readPlace (wsV RX4 62 RX4 yX4_fail wsX4_fail) := goodIn_app (wd_l vW9_ok _ pvW9_37) ggX4_readPlace_X4_fail
set_option maxRecDepth 20000 in
theorem ggX4_readPlace_X7_emit : GoodIn wsX4_readPlace wsX7_emit := wd_c vW9_ok mvW9_280
set_option maxRecDepth 20000 in
theorem gX4_readPlace_X7_emit : GoodIn wsX4_readPlace (wsV RX4 116 RX7 yX7_emit wsX7_emit) := goodIn_app (wd_l vW9_ok _ pvW9_50) ggX4_readPlace_X7_emit
set_option maxRecDepth 20000 in
theorem ggX4_readPlace_X4_step : GoodIn wsX4_readPlace wsX4_step := wd_c vW9_ok mvW9_182
set_option maxRecDepth 20000 in
theorem gX4_readPlace_X4_step : GoodIn wsX4_readPlace (wsV RX4 59 RX4 yX4_step wsX4_step) := goodIn_app (wd_l vW9_ok _ pvW9_36) ggX4_readPlace_X4_step
theorem da9_dX4_readPlace_0 : (decode cX4_readPlace 0 = .ok (.aload_n 0, 1)) ∧ (decode cX4_readPlace 1 = .ok (.getfield 27, 3)) ∧ (decode cX4_readPlace 4 = .ok (.iconst 2, 1)) ∧ (decode cX4_readPlace 5 = .ok (.if_icmp .ne 12, 3)) ∧ (decode cX4_readPlace 8 = .ok (.aload_n 0, 1)) ∧ (decode cX4_readPlace 9 = .ok (.getfield 36, 3)) ∧ (decode cX4_readPlace 12 = .ok (.bipush 6, 2)) ∧ (decode cX4_readPlace 14 = .ok (.if_icmp .lt 8, 3)) ∧ (decode cX4_readPlace 17 = .ok (.aload_n 0, 1)) ∧ (decode cX4_readPlace 18 = .ok (.invokevirtual 62, 3)) ∧ (decode cX4_readPlace 21 = .ok (.return_, 1)) ∧ (decode cX4_readPlace 22 = .ok (.aload_n 0, 1)) ∧ (decode cX4_readPlace 23 = .ok (.getfield 23, 3)) ∧ (decode cX4_readPlace 26 = .ok (.iconst 1, 1)) ∧ (decode cX4_readPlace 27 = .ok (.iload_n 1, 1)) ∧ (decode cX4_readPlace 28 = .ok (.aload_n 0, 1)) := by decide +kernel
theorem dX4_readPlace_0 : decode cX4_readPlace 0 = .ok (.aload_n 0, 1) := da9_dX4_readPlace_0.1
theorem dX4_readPlace_1 : decode cX4_readPlace 1 = .ok (.getfield 27, 3) := da9_dX4_readPlace_0.2.1
theorem dX4_readPlace_4 : decode cX4_readPlace 4 = .ok (.iconst 2, 1) := da9_dX4_readPlace_0.2.2.1
theorem dX4_readPlace_5 : decode cX4_readPlace 5 = .ok (.if_icmp .ne 12, 3) := da9_dX4_readPlace_0.2.2.2.1
theorem dX4_readPlace_8 : decode cX4_readPlace 8 = .ok (.aload_n 0, 1) := da9_dX4_readPlace_0.2.2.2.2.1
theorem dX4_readPlace_9 : decode cX4_readPlace 9 = .ok (.getfield 36, 3) := da9_dX4_readPlace_0.2.2.2.2.2.1
theorem dX4_readPlace_12 : decode cX4_readPlace 12 = .ok (.bipush 6, 2) := da9_dX4_readPlace_0.2.2.2.2.2.2.1
theorem dX4_readPlace_14 : decode cX4_readPlace 14 = .ok (.if_icmp .lt 8, 3) := da9_dX4_readPlace_0.2.2.2.2.2.2.2.1
theorem dX4_readPlace_17 : decode cX4_readPlace 17 = .ok (.aload_n 0, 1) := da9_dX4_readPlace_0.2.2.2.2.2.2.2.2.1
theorem dX4_readPlace_18 : decode cX4_readPlace 18 = .ok (.invokevirtual 62, 3) := da9_dX4_readPlace_0.2.2.2.2.2.2.2.2.2.1
theorem dX4_readPlace_21 : decode cX4_readPlace 21 = .ok (.return_, 1) := da9_dX4_readPlace_0.2.2.2.2.2.2.2.2.2.2.1
theorem dX4_readPlace_22 : decode cX4_readPlace 22 = .ok (.aload_n 0, 1) := da9_dX4_readPlace_0.2.2.2.2.2.2.2.2.2.2.2.1
theorem dX4_readPlace_23 : decode cX4_readPlace 23 = .ok (.getfield 23, 3) := da9_dX4_readPlace_0.2.2.2.2.2.2.2.2.2.2.2.2.1
theorem dX4_readPlace_26 : decode cX4_readPlace 26 = .ok (.iconst 1, 1) := da9_dX4_readPlace_0.2.2.2.2.2.2.2.2.2.2.2.2.2.1
theorem dX4_readPlace_27 : decode cX4_readPlace 27 = .ok (.iload_n 1, 1) := da9_dX4_readPlace_0.2.2.2.2.2.2.2.2.2.2.2.2.2.2.1
theorem dX4_readPlace_28 : decode cX4_readPlace 28 = .ok (.aload_n 0, 1) := da9_dX4_readPlace_0.2.2.2.2.2.2.2.2.2.2.2.2.2.2.2
theorem da9_dX4_readPlace_29 : (decode cX4_readPlace 29 = .ok (.getfield 36, 3)) ∧ (decode cX4_readPlace 32 = .ok (.iadd, 1)) ∧ (decode cX4_readPlace 33 = .ok (.invokevirtual 116, 3)) ∧ (decode cX4_readPlace 36 = .ok (.aload_n 0, 1)) ∧ (decode cX4_readPlace 37 = .ok (.invokevirtual 59, 3)) ∧ (decode cX4_readPlace 40 = .ok (.return_, 1)) := by decide +kernel
theorem dX4_readPlace_29 : decode cX4_readPlace 29 = .ok (.getfield 36, 3) := da9_dX4_readPlace_29.1
theorem dX4_readPlace_32 : decode cX4_readPlace 32 = .ok (.iadd, 1) := da9_dX4_readPlace_29.2.1
theorem dX4_readPlace_33 : decode cX4_readPlace 33 = .ok (.invokevirtual 116, 3) := da9_dX4_readPlace_29.2.2.1
theorem dX4_readPlace_36 : decode cX4_readPlace 36 = .ok (.aload_n 0, 1) := da9_dX4_readPlace_29.2.2.2.1
theorem dX4_readPlace_37 : decode cX4_readPlace 37 = .ok (.invokevirtual 59, 3) := da9_dX4_readPlace_29.2.2.2.2.1
theorem dX4_readPlace_40 : decode cX4_readPlace 40 = .ok (.return_, 1) := da9_dX4_readPlace_29.2.2.2.2.2
set_option maxRecDepth 20000 in
theorem ggX4_signIn_J0_length_8abf5 : GoodIn wsX4_signIn wsJ0_length_8abf5 := wd_l vW9_ok _ (List.forall_mem_cons.mpr ⟨mvW9_204, (List.forall_mem_cons.mpr ⟨mvW9_205, (List.forall_mem_cons.mpr ⟨mvW9_206, (List.forall_mem_cons.mpr ⟨mvW9_207, (List.forall_mem_cons.mpr ⟨mvW9_208, (List.forall_mem_cons.mpr ⟨mvW9_203, (List.forall_mem_cons.mpr ⟨mvW9_209, (List.forall_mem_cons.mpr ⟨mvW9_210, (List.forall_mem_cons.mpr ⟨mvW9_211, (fun _ h => absurd h List.not_mem_nil)⟩)⟩)⟩)⟩)⟩)⟩)⟩)⟩)⟩)
set_option maxRecDepth 20000 in
theorem gX4_signIn_J0_length_8abf5 : GoodIn wsX4_signIn (wsV RX4 167 RJ0 yJ0_length_8abf5 wsJ0_length_8abf5) := goodIn_app (wd_l vW9_ok _ pvW9_60) ggX4_signIn_J0_length_8abf5
set_option maxRecDepth 20000 in
theorem ggX4_signIn_J0_charAt_5068e : GoodIn wsX4_signIn wsJ0_charAt_5068e := wd_l vW9_ok _ (List.forall_mem_cons.mpr ⟨mvW9_215, (List.forall_mem_cons.mpr ⟨mvW9_205, (List.forall_mem_cons.mpr ⟨mvW9_216, (List.forall_mem_cons.mpr ⟨mvW9_217, (List.forall_mem_cons.mpr ⟨mvW9_218, (List.forall_mem_cons.mpr ⟨mvW9_203, (List.forall_mem_cons.mpr ⟨mvW9_219, (List.forall_mem_cons.mpr ⟨mvW9_210, (List.forall_mem_cons.mpr ⟨mvW9_211, (List.forall_mem_cons.mpr ⟨mvW9_220, (List.forall_mem_cons.mpr ⟨mvW9_221, (List.forall_mem_cons.mpr ⟨mvW9_222, (List.forall_mem_cons.mpr ⟨mvW9_223, (List.forall_mem_cons.mpr ⟨mvW9_224, (List.forall_mem_cons.mpr ⟨mvW9_225, (List.forall_mem_cons.mpr ⟨mvW9_226, (List.forall_mem_cons.mpr ⟨mvW9_227, (List.forall_mem_cons.mpr ⟨mvW9_228, (List.forall_mem_cons.mpr ⟨mvW9_229, (List.forall_mem_cons.mpr ⟨mvW9_230, (List.forall_mem_cons.mpr ⟨mvW9_231, (List.forall_mem_cons.mpr ⟨mvW9_232, (List.forall_mem_cons.mpr ⟨mvW9_233, (List.forall_mem_cons.mpr ⟨mvW9_234, (List.forall_mem_cons.mpr ⟨mvW9_235, (List.forall_mem_cons.mpr ⟨mvW9_236, (List.forall_mem_cons.mpr ⟨mvW9_237, (List.forall_mem_cons.mpr ⟨mvW9_238, (List.forall_mem_cons.mpr ⟨mvW9_239, (List.forall_mem_cons.mpr ⟨mvW9_240, (List.forall_mem_cons.mpr ⟨mvW9_241, (List.forall_mem_cons.mpr ⟨mvW9_242, (List.forall_mem_cons.mpr ⟨mvW9_243, (List.forall_mem_cons.mpr ⟨mvW9_244, (List.forall_mem_cons.mpr ⟨mvW9_245, (List.forall_mem_cons.mpr ⟨mvW9_246, (List.forall_mem_cons.mpr ⟨mvW9_247, (List.forall_mem_cons.mpr ⟨mvW9_248, (fun _ h => absurd h List.not_mem_nil)⟩)⟩)⟩)⟩)⟩)⟩)⟩)⟩)⟩)⟩)⟩)⟩)⟩)⟩)⟩)⟩)⟩)⟩)⟩)⟩)⟩)⟩)⟩)⟩)⟩)⟩)⟩)⟩)⟩)⟩)⟩)⟩)⟩)⟩)⟩)⟩)⟩)⟩)
set_option maxRecDepth 20000 in
theorem gX4_signIn_J0_charAt_5068e : GoodIn wsX4_signIn (wsV RX4 172 RJ0 yJ0_charAt_5068e wsJ0_charAt_5068e) := goodIn_app (wd_l vW9_ok _ pvW9_61) ggX4_signIn_J0_charAt_5068e
set_option maxRecDepth 20000 in
theorem ggX4_signIn_X4_isSign : GoodIn wsX4_signIn wsX4_isSign := wd_c vW9_ok mvW9_276
set_option maxRecDepth 20000 in
theorem gX4_signIn_X4_isSign : GoodIn wsX4_signIn (wsV RX4 130 RX4 yX4_isSign wsX4_isSign) := goodIn_app (wd_l vW9_ok _ pvW9_53) ggX4_signIn_X4_isSign
theorem da9_dX4_signIn_0 : (decode cX4_signIn 0 = .ok (.iconst 0, 1)) ∧ (decode cX4_signIn 1 = .ok (.istore_n 3, 1)) ∧ (decode cX4_signIn 2 = .ok (.iload_n 3, 1)) ∧ (decode cX4_signIn 3 = .ok (.aload_n 1, 1)) ∧ (decode cX4_signIn 4 = .ok (.invokevirtual 167, 3)) ∧ (decode cX4_signIn 7 = .ok (.if_icmp .ge 25, 3)) ∧ (decode cX4_signIn 10 = .ok (.aload_n 0, 1)) ∧ (decode cX4_signIn 11 = .ok (.aload_n 1, 1)) ∧ (decode cX4_signIn 12 = .ok (.iload_n 3, 1)) ∧ (decode cX4_signIn 13 = .ok (.invokevirtual 172, 3)) ∧ (decode cX4_signIn 16 = .ok (.invokevirtual 130, 3)) ∧ (decode cX4_signIn 19 = .ok (.ifCond .eq 7, 3)) ∧ (decode cX4_signIn 22 = .ok (.iload_n 2, 1)) ∧ (decode cX4_signIn 23 = .ok (.iload_n 3, 1)) ∧ (decode cX4_signIn 24 = .ok (.iadd, 1)) ∧ (decode cX4_signIn 25 = .ok (.ireturn, 1)) := by decide +kernel
theorem dX4_signIn_0 : decode cX4_signIn 0 = .ok (.iconst 0, 1) := da9_dX4_signIn_0.1
theorem dX4_signIn_1 : decode cX4_signIn 1 = .ok (.istore_n 3, 1) := da9_dX4_signIn_0.2.1
theorem dX4_signIn_2 : decode cX4_signIn 2 = .ok (.iload_n 3, 1) := da9_dX4_signIn_0.2.2.1
theorem dX4_signIn_3 : decode cX4_signIn 3 = .ok (.aload_n 1, 1) := da9_dX4_signIn_0.2.2.2.1
theorem dX4_signIn_4 : decode cX4_signIn 4 = .ok (.invokevirtual 167, 3) := da9_dX4_signIn_0.2.2.2.2.1
theorem dX4_signIn_7 : decode cX4_signIn 7 = .ok (.if_icmp .ge 25, 3) := da9_dX4_signIn_0.2.2.2.2.2.1
theorem dX4_signIn_10 : decode cX4_signIn 10 = .ok (.aload_n 0, 1) := da9_dX4_signIn_0.2.2.2.2.2.2.1
theorem dX4_signIn_11 : decode cX4_signIn 11 = .ok (.aload_n 1, 1) := da9_dX4_signIn_0.2.2.2.2.2.2.2.1
theorem dX4_signIn_12 : decode cX4_signIn 12 = .ok (.iload_n 3, 1) := da9_dX4_signIn_0.2.2.2.2.2.2.2.2.1
theorem dX4_signIn_13 : decode cX4_signIn 13 = .ok (.invokevirtual 172, 3) := da9_dX4_signIn_0.2.2.2.2.2.2.2.2.2.1
theorem dX4_signIn_16 : decode cX4_signIn 16 = .ok (.invokevirtual 130, 3) := da9_dX4_signIn_0.2.2.2.2.2.2.2.2.2.2.1
theorem dX4_signIn_19 : decode cX4_signIn 19 = .ok (.ifCond .eq 7, 3) := da9_dX4_signIn_0.2.2.2.2.2.2.2.2.2.2.2.1
theorem dX4_signIn_22 : decode cX4_signIn 22 = .ok (.iload_n 2, 1) := da9_dX4_signIn_0.2.2.2.2.2.2.2.2.2.2.2.2.1
theorem dX4_signIn_23 : decode cX4_signIn 23 = .ok (.iload_n 3, 1) := da9_dX4_signIn_0.2.2.2.2.2.2.2.2.2.2.2.2.2.1
theorem dX4_signIn_24 : decode cX4_signIn 24 = .ok (.iadd, 1) := da9_dX4_signIn_0.2.2.2.2.2.2.2.2.2.2.2.2.2.2.1
theorem dX4_signIn_25 : decode cX4_signIn 25 = .ok (.ireturn, 1) := da9_dX4_signIn_0.2.2.2.2.2.2.2.2.2.2.2.2.2.2.2
theorem da9_dX4_signIn_26 : (decode cX4_signIn 26 = .ok (.iinc 3 1, 3)) ∧ (decode cX4_signIn 29 = .ok (.goto (-27), 3)) ∧ (decode cX4_signIn 32 = .ok (.iconst (-1), 1)) ∧ (decode cX4_signIn 33 = .ok (.ireturn, 1)) := by decide +kernel
theorem dX4_signIn_26 : decode cX4_signIn 26 = .ok (.iinc 3 1, 3) := da9_dX4_signIn_26.1
theorem dX4_signIn_29 : decode cX4_signIn 29 = .ok (.goto (-27), 3) := da9_dX4_signIn_26.2.1
theorem dX4_signIn_32 : decode cX4_signIn 32 = .ok (.iconst (-1), 1) := da9_dX4_signIn_26.2.2.1
theorem dX4_signIn_33 : decode cX4_signIn 33 = .ok (.ireturn, 1) := da9_dX4_signIn_26.2.2.2
theorem da9_dX7_emit_0 : (decode cX7_emit 0 = .ok (.aload_n 0, 1)) ∧ (decode cX7_emit 1 = .ok (.getfield 13, 3)) ∧ (decode cX7_emit 4 = .ok (.aload_n 0, 1)) ∧ (decode cX7_emit 5 = .ok (.getfield 32, 3)) ∧ (decode cX7_emit 8 = .ok (.arraylength, 1)) ∧ (decode cX7_emit 9 = .ok (.if_icmp .ge 27, 3)) ∧ (decode cX7_emit 12 = .ok (.aload_n 0, 1)) ∧ (decode cX7_emit 13 = .ok (.getfield 32, 3)) ∧ (decode cX7_emit 16 = .ok (.aload_n 0, 1)) ∧ (decode cX7_emit 17 = .ok (.getfield 13, 3)) ∧ (decode cX7_emit 20 = .ok (.iload_n 2, 1)) ∧ (decode cX7_emit 21 = .ok (.iconst 4, 1)) ∧ (decode cX7_emit 22 = .ok (.ishl, 1)) ∧ (decode cX7_emit 23 = .ok (.iload_n 1, 1)) ∧ (decode cX7_emit 24 = .ok (.ior, 1)) ∧ (decode cX7_emit 25 = .ok (.iastore, 1)) := by decide +kernel
theorem dX7_emit_0 : decode cX7_emit 0 = .ok (.aload_n 0, 1) := da9_dX7_emit_0.1
theorem dX7_emit_1 : decode cX7_emit 1 = .ok (.getfield 13, 3) := da9_dX7_emit_0.2.1
theorem dX7_emit_4 : decode cX7_emit 4 = .ok (.aload_n 0, 1) := da9_dX7_emit_0.2.2.1
theorem dX7_emit_5 : decode cX7_emit 5 = .ok (.getfield 32, 3) := da9_dX7_emit_0.2.2.2.1
theorem dX7_emit_8 : decode cX7_emit 8 = .ok (.arraylength, 1) := da9_dX7_emit_0.2.2.2.2.1
theorem dX7_emit_9 : decode cX7_emit 9 = .ok (.if_icmp .ge 27, 3) := da9_dX7_emit_0.2.2.2.2.2.1
theorem dX7_emit_12 : decode cX7_emit 12 = .ok (.aload_n 0, 1) := da9_dX7_emit_0.2.2.2.2.2.2.1
theorem dX7_emit_13 : decode cX7_emit 13 = .ok (.getfield 32, 3) := da9_dX7_emit_0.2.2.2.2.2.2.2.1
theorem dX7_emit_16 : decode cX7_emit 16 = .ok (.aload_n 0, 1) := da9_dX7_emit_0.2.2.2.2.2.2.2.2.1
theorem dX7_emit_17 : decode cX7_emit 17 = .ok (.getfield 13, 3) := da9_dX7_emit_0.2.2.2.2.2.2.2.2.2.1
theorem dX7_emit_20 : decode cX7_emit 20 = .ok (.iload_n 2, 1) := da9_dX7_emit_0.2.2.2.2.2.2.2.2.2.2.1
theorem dX7_emit_21 : decode cX7_emit 21 = .ok (.iconst 4, 1) := da9_dX7_emit_0.2.2.2.2.2.2.2.2.2.2.2.1
theorem dX7_emit_22 : decode cX7_emit 22 = .ok (.ishl, 1) := da9_dX7_emit_0.2.2.2.2.2.2.2.2.2.2.2.2.1
theorem dX7_emit_23 : decode cX7_emit 23 = .ok (.iload_n 1, 1) := da9_dX7_emit_0.2.2.2.2.2.2.2.2.2.2.2.2.2.1
theorem dX7_emit_24 : decode cX7_emit 24 = .ok (.ior, 1) := da9_dX7_emit_0.2.2.2.2.2.2.2.2.2.2.2.2.2.2.1
theorem dX7_emit_25 : decode cX7_emit 25 = .ok (.iastore, 1) := da9_dX7_emit_0.2.2.2.2.2.2.2.2.2.2.2.2.2.2.2
theorem da9_dX7_emit_26 : (decode cX7_emit 26 = .ok (.aload_n 0, 1)) ∧ (decode cX7_emit 27 = .ok (.dup, 1)) ∧ (decode cX7_emit 28 = .ok (.getfield 13, 3)) ∧ (decode cX7_emit 31 = .ok (.iconst 1, 1)) ∧ (decode cX7_emit 32 = .ok (.iadd, 1)) ∧ (decode cX7_emit 33 = .ok (.putfield 13, 3)) ∧ (decode cX7_emit 36 = .ok (.return_, 1)) := by decide +kernel
theorem dX7_emit_26 : decode cX7_emit 26 = .ok (.aload_n 0, 1) := da9_dX7_emit_26.1
theorem dX7_emit_27 : decode cX7_emit 27 = .ok (.dup, 1) := da9_dX7_emit_26.2.1
theorem dX7_emit_28 : decode cX7_emit 28 = .ok (.getfield 13, 3) := da9_dX7_emit_26.2.2.1
theorem dX7_emit_31 : decode cX7_emit 31 = .ok (.iconst 1, 1) := da9_dX7_emit_26.2.2.2.1
theorem dX7_emit_32 : decode cX7_emit 32 = .ok (.iadd, 1) := da9_dX7_emit_26.2.2.2.2.1
theorem dX7_emit_33 : decode cX7_emit 33 = .ok (.putfield 13, 3) := da9_dX7_emit_26.2.2.2.2.2.1
theorem dX7_emit_36 : decode cX7_emit 36 = .ok (.return_, 1) := da9_dX7_emit_26.2.2.2.2.2.2
end
section
theorem u9_wsX7_emit_X7 : ∀ w ∈ u_ws RX7 TX7 8, w ∈ wsX7_emit := fun w h => List.mem_cons_of_mem _ (vW9_wsX70 w h)
theorem f9_wsX7_emit_498 : (Cond.fieldLink RX7 13 "TurnedFloors$Text" "length" "I") ∈ wsX7_emit := List.mem_cons_of_mem _ mvW9_178
theorem f9_wsX7_emit_499 : (Cond.fieldLink RX7 32 "TurnedFloors$Text" "code" "[I") ∈ wsX7_emit := List.mem_cons_of_mem _ mvW9_281
theorem u9_wsX4_readPlace_X4 : ∀ w ∈ u_ws RX4 TX4 11, w ∈ wsX4_readPlace := fun w h => List.mem_cons_of_mem _ (vW9_wsX40 w h)
theorem f9_wsX4_readPlace_501 : (Cond.fieldLink RX4 27 "TurnedFloors$Reader" "token" "I") ∈ wsX4_readPlace := List.mem_cons_of_mem _ mvW9_171
theorem f9_wsX4_readPlace_502 : (Cond.fieldLink RX4 36 "TurnedFloors$Reader" "number" "I") ∈ wsX4_readPlace := List.mem_cons_of_mem _ mvW9_184
theorem f9_wsX4_readPlace_503 : (Cond.fieldLink RX4 23 "TurnedFloors$Reader" "text" "LTurnedFloors$Text;") ∈ wsX4_readPlace := List.mem_cons_of_mem _ mvW9_166
theorem u9_wsX4_readPart_X4 : ∀ w ∈ u_ws RX4 TX4 11, w ∈ wsX4_readPart := fun w h => List.mem_cons_of_mem _ (vW9_wsX40 w h)
theorem f9_wsX4_readPart_505 : (Cond.fieldLink RX4 23 "TurnedFloors$Reader" "text" "LTurnedFloors$Text;") ∈ wsX4_readPart := List.mem_cons_of_mem _ mvW9_166
theorem f9_wsX4_readPart_506 : (Cond.fieldLink RX4 39 "TurnedFloors$Reader" "parts" "I") ∈ wsX4_readPart := List.mem_cons_of_mem _ mvW9_168
theorem f9_wsX4_readPart_507 : (Cond.fieldLink RX4 36 "TurnedFloors$Reader" "number" "I") ∈ wsX4_readPart := List.mem_cons_of_mem _ mvW9_184
theorem f9_wsX4_readPart_508 : (Cond.fieldLink RX4 19 "TurnedFloors$Reader" "ofOrders" "Z") ∈ wsX4_readPart := List.mem_cons_of_mem _ mvW9_165
theorem f9_wsX4_readPart_509 : (Cond.fieldLink RX4 27 "TurnedFloors$Reader" "token" "I") ∈ wsX4_readPart := List.mem_cons_of_mem _ mvW9_171
theorem u9_wsX4_readTerm_X4 : ∀ w ∈ u_ws RX4 TX4 11, w ∈ wsX4_readTerm := fun w h => List.mem_cons_of_mem _ (vW9_wsX40 w h)
theorem f9_wsX4_readTerm_511 : (Cond.fieldLink RX4 15 "TurnedFloors$Reader" "length" "I") ∈ wsX4_readTerm := List.mem_cons_of_mem _ mvW9_164
theorem f9_wsX4_readTerm_512 : (Cond.fieldLink RX4 45 "TurnedFloors$Reader" "faultAt" "I") ∈ wsX4_readTerm := List.mem_cons_of_mem _ mvW9_170
theorem f9_wsX4_readTerm_513 : (Cond.fieldLink RX4 23 "TurnedFloors$Reader" "text" "LTurnedFloors$Text;") ∈ wsX4_readTerm := List.mem_cons_of_mem _ mvW9_166
set_option maxHeartbeats 4000000 in
set_option maxRecDepth 100000 in
theorem WX4_wordIn_s24_t3_62 {p : Program} {l : Launch} {e : Env} {s : State} {m : MethodId} {args : Array Value} {below : List Frame} {meth : Method} {c : Code} {D : va_G} {ty : Nat → ClassId} {eo : Nat → Nat} {A : Nat → Prop} {ad : Nat → Nat} {o1 : Int32} {o2 : dK} (C : dc_C p s m args meth c cX4_wordIn (some .int) 5 RX4 wsX4_wordIn D ty eo A)   (q : dK)  (H : Heap) (locs : List Loc) (ls : Array Slot) (h : zX4_wordIn_s24_t3_62  q = some (o1, o2)) (hP : va_P D vwCl (wF ty ad q) H) (hD : va_D A (wF ty ad q)) (hS : va_S A s.heap H locs) (hl : lv_has ls 5 []) : W p l e ({ frames := 5, cells := 0, slots := 0, locals := 109 } : Room) s m args below meth c H locs 0 0 (MQ below (va_Qi (fun (r : Int32) (u : va_W) => o1 = r ∧ wF ty ad o2 = u) (kz_B D ty A) A) args s 0 0 A) (F0 m 62 ls []) := by
  have C0 := C
  obtain ⟨hx, hb, hr, hts, hown, hlocks, hml, hK, hN, hE, hA⟩ := C
  unfold zX4_wordIn_s24_t3_62 at h
  refine lv_iconst (v := (-1)) hx hb dX4_wordIn_62 (by decide) ?_
  cases h
  exact kz_iret hx hb hr hlocks hP hK hD hS dX4_wordIn_63 ⟨rfl, rfl⟩
set_option maxHeartbeats 4000000 in
set_option maxRecDepth 100000 in
theorem WX4_wordIn_s24_t3_56 {p : Program} {l : Launch} {e : Env} {s : State} {m : MethodId} {args : Array Value} {below : List Frame} {meth : Method} {c : Code} {D : va_G} {ty : Nat → ClassId} {eo : Nat → Nat} {A : Nat → Prop} {ad : Nat → Nat} {o1 : Int32} {o2 : dK} (C : dc_C p s m args meth c cX4_wordIn (some .int) 5 RX4 wsX4_wordIn D ty eo A) {k7 : dK → Int32 → Int32 → Int32 → Option (Int32 × dK)} (hk7 : ∀ (q : dK) (x2 : Int32) (x3 : Int32) (x4 : Int32) (H : Heap) (locs : List Loc) (ls : Array Slot), k7 q x2 x3 x4 = some (o1, o2) → va_P D vwCl (wF ty ad q) H → va_D A (wF ty ad q) → va_S A s.heap H locs → lv_has ls 5 [(0, .ref (ad 24)), (1, .ref (eo (1 + 3))), (2, .int x2), (3, .int x3), (4, .int x4)] → W p l e ({ frames := 5, cells := 0, slots := 0, locals := 109 } : Room) s m args below meth c H locs 0 0 (MQ below (va_Qi (fun (r : Int32) (u : va_W) => o1 = r ∧ wF ty ad o2 = u) (kz_B D ty A) A) args s 0 0 A) (F0 m 7 ls [])) (q : dK) (x2 : Int32) (x3 : Int32) (x4 : Int32) (H : Heap) (locs : List Loc) (ls : Array Slot) (h : zX4_wordIn_s24_t3_56 k7 q x2 x3 x4 = some (o1, o2)) (hP : va_P D vwCl (wF ty ad q) H) (hD : va_D A (wF ty ad q)) (hS : va_S A s.heap H locs) (hl : lv_has ls 5 [(0, .ref (ad 24)), (1, .ref (eo (1 + 3))), (2, .int x2), (3, .int x3), (4, .int x4)]) : W p l e ({ frames := 5, cells := 0, slots := 0, locals := 109 } : Room) s m args below meth c H locs 0 0 (MQ below (va_Qi (fun (r : Int32) (u : va_W) => o1 = r ∧ wF ty ad o2 = u) (kz_B D ty A) A) args s 0 0 A) (F0 m 56 ls []) := by
  have C0 := C
  obtain ⟨hx, hb, hr, hts, hown, hlocks, hml, hK, hN, hE, hA⟩ := C
  unfold zX4_wordIn_s24_t3_56 at h
  refine lv_iinc (v := x4 + 1) (lv' := [(4, .int (x4 + 1)), (0, .ref (ad 24)), (1, .ref (eo (1 + 3))), (2, .int x2), (3, .int x3)]) hx hb dX4_wordIn_56 hl (k := 4) rfl rfl (by decide) rfl (fun ls hl => ?_)
  refine lv_goto (tgt := 7) hx hb dX4_wordIn_59 (by decide) ?_
  exact hk7 _ _ _ _ _ _ _ h hP hD hS (lv_sub hl [1, 2, 3, 4, 0] rfl)
set_option maxHeartbeats 4000000 in
set_option maxRecDepth 100000 in
theorem WX4_wordIn_s24_t3_7b {p : Program} {l : Launch} {e : Env} {s : State} {m : MethodId} {args : Array Value} {below : List Frame} {meth : Method} {c : Code} {D : va_G} {ty : Nat → ClassId} {eo : Nat → Nat} {A : Nat → Prop} {ad : Nat → Nat} {o1 : Int32} {o2 : dK} (C : dc_C p s m args meth c cX4_wordIn (some .int) 5 RX4 wsX4_wordIn D ty eo A) {k7 : dK → Int32 → Int32 → Int32 → Option (Int32 × dK)} (hk7 : ∀ (q : dK) (x2 : Int32) (x3 : Int32) (x4 : Int32) (H : Heap) (locs : List Loc) (ls : Array Slot), k7 q x2 x3 x4 = some (o1, o2) → va_P D vwCl (wF ty ad q) H → va_D A (wF ty ad q) → va_S A s.heap H locs → lv_has ls 5 [(0, .ref (ad 24)), (1, .ref (eo (1 + 3))), (2, .int x2), (3, .int x3), (4, .int x4)] → W p l e ({ frames := 5, cells := 0, slots := 0, locals := 109 } : Room) s m args below meth c H locs 0 0 (MQ below (va_Qi (fun (r : Int32) (u : va_W) => o1 = r ∧ wF ty ad o2 = u) (kz_B D ty A) A) args s 0 0 A) (F0 m 7 ls [])) (q : dK) (x2 : Int32) (x3 : Int32) (x4 : Int32) (H : Heap) (locs : List Loc) (ls : Array Slot) (h : zX4_wordIn_s24_t3_7b k7 q x2 x3 x4 = some (o1, o2)) (hP : va_P D vwCl (wF ty ad q) H) (hD : va_D A (wF ty ad q)) (hS : va_S A s.heap H locs) (hl : lv_has ls 5 [(0, .ref (ad 24)), (1, .ref (eo (1 + 3))), (2, .int x2), (3, .int x3), (4, .int x4)]) : W p l e ({ frames := 5, cells := 0, slots := 0, locals := 109 } : Room) s m args below meth c H locs 0 0 (MQ below (va_Qi (fun (r : Int32) (u : va_W) => o1 = r ∧ wF ty ad o2 = u) (kz_B D ty A) A) args s 0 0 A) (F0 m 7 ls []) := by
  have C0 := C
  obtain ⟨hx, hb, hr, hts, hown, hlocks, hml, hK, hN, hE, hA⟩ := C
  unfold zX4_wordIn_s24_t3_7b at h
  refine lv_iload hx hb dX4_wordIn_7 (lv_at hl 4 rfl) ?_
  refine lv_aload_n hx hb dX4_wordIn_9 rfl (lv_at hl 1 rfl) ?_
  refine dw_ks (va_runV (As := []) (rest := [.int x4]) ⟨hx, hb, hml, hown, hts⟩ (kcJ0le l D ty eo _ 3 (by decide)) (cwV 0 hts gX4_wordIn_J0_length_8abf5 rfl rfl rfl hd_J0_length_8abf5_v ⟨Nat.le_of_ble_eq_true rfl, Nat.le_of_ble_eq_true rfl⟩) (kz_preT hK hN hE hP hD hS hA 3 (by decide) [] (by decide) rfl) rfl rfl hl.1 rfl (lv_room (Nat.le_of_ble_eq_true rfl)) dX4_wordIn_10 ⟨Nat.le_of_ble_eq_true rfl, Nat.le_of_ble_eq_true rfl⟩) hP hD hS hA (fun _ _ h9 => h9.2.symm) (fun r9 u9 H locs hw hp hd hs => ?_)
  obtain ⟨rfl, -⟩ := hw
  clear hP hD hS
  have hP := hp; have hD := hd; have hS := hs; clear hp hd hs
  refine kz_topi 47 (by decide +kernel) ?_
  refine lv_icmp_ge (tgt := 62) hx hb dX4_wordIn_13 (by decide) (fun c9 => ?_) (fun c9 => ?_)
  · rw [if_pos c9] at h
    exact WX4_wordIn_s24_t3_62 C0  _ _ _ _ h hP hD hS (lv_sub hl [] rfl)
  · rw [if_neg c9] at h
    refine lv_aload_n hx hb dX4_wordIn_16 rfl (lv_at hl 0 rfl) ?_
    refine va_get (D := D) (ci := 4) (v := .int (q.1 24 4)) (C := RX4) (T := TX4) (N := 11) hx hb hts u9_wsX4_wordIn_X4 hown hK hP 24 rfl rfl 4 (by decide) (hts (.fieldLink RX4 27 "TurnedFloors$Reader" "token" "I") f9_wsX4_wordIn_478) (fun _ h9 => h9) rfl dX4_wordIn_17 ?_
    refine lv_iconst (v := 1) hx hb dX4_wordIn_20 (by decide) ?_
    refine lv_icmp_ne (tgt := 62) hx hb dX4_wordIn_21 (by decide) (fun c9 => ?_) (fun c9 => ?_)
    · rw [if_neg c9] at h
      exact WX4_wordIn_s24_t3_62 C0  _ _ _ _ h hP hD hS (lv_sub hl [] rfl)
    · rw [if_pos c9] at h
      refine lv_aload_n hx hb dX4_wordIn_24 rfl (lv_at hl 1 rfl) ?_
      refine lv_iload hx hb dX4_wordIn_25 (lv_at hl 4 rfl) ?_
      obtain ⟨g1, h⟩ := dG_some h
      refine dw_ks (va_runV (As := [.int x4]) (rest := []) ⟨hx, hb, hml, hown, hts⟩ (kcJ0ch l D ty eo _ 3 (by decide) x4 (dg_in g1)) (cwV 1 hts gX4_wordIn_J0_charAt_5068e rfl rfl rfl hd_J0_charAt_5068e_v ⟨Nat.le_of_ble_eq_true rfl, Nat.le_of_ble_eq_true rfl⟩) (kz_preT hK hN hE hP hD hS hA 3 (by decide) [] (by decide) rfl) rfl rfl hl.1 rfl (lv_room (Nat.le_of_ble_eq_true rfl)) dX4_wordIn_27 ⟨Nat.le_of_ble_eq_true rfl, Nat.le_of_ble_eq_true rfl⟩) hP hD hS hA (fun _ _ h9 => h9.2.symm) (fun r9 u9 H locs hw hp hd hs => ?_)
      obtain ⟨rfl, -⟩ := hw
      clear hP hD hS
      have hP := hp; have hD := hd; have hS := hs; clear hp hd hs
      obtain ⟨v2, ev2, h⟩ := dL_some h
      refine kz_topi v2 ev2 ?_
      refine lv_bipush (v := 32) hx hb dX4_wordIn_30 (by decide) ?_
      refine lv_icmp_ne (tgt := 56) hx hb dX4_wordIn_32 (by decide) (fun c9 => ?_) (fun c9 => ?_)
      · rw [if_neg c9] at h
        exact WX4_wordIn_s24_t3_56 C0 hk7 _ _ _ _ _ _ _ h hP hD hS (lv_sub hl [0, 1, 2, 3, 4] rfl)
      · rw [if_pos c9] at h
        refine lv_aload_n hx hb dX4_wordIn_35 rfl (lv_at hl 0 rfl) ?_
        refine lv_aload_n hx hb dX4_wordIn_36 rfl (lv_at hl 1 rfl) ?_
        refine lv_iload_n hx hb dX4_wordIn_37 rfl (lv_at hl 3 rfl) ?_
        refine lv_iload hx hb dX4_wordIn_38 (lv_at hl 4 rfl) ?_
        obtain ⟨r3, q5, h4, h⟩ := dB_some h
        refine dw_ki (va_runV (As := [.ref (eo (1 + 3)), .int x3, .int x4]) (rest := []) ⟨hx, hb, hml, hown, hts⟩ (qX4_isSame_s24_t3 l D ty eo _ ad q x3 x4 r3 q5 h4) (cwV 3 hts gX4_wordIn_X4_isSame rfl rfl rfl hd_X4_isSame_v ⟨Nat.le_of_ble_eq_true rfl, Nat.le_of_ble_eq_true rfl⟩) (pvF_4_24 hK hN hE hP hD hS hA) rfl rfl hl.1 rfl (lv_room (Nat.le_of_ble_eq_true rfl)) dX4_wordIn_40 ⟨Nat.le_of_ble_eq_true rfl, Nat.le_of_ble_eq_true rfl⟩) hD hS hA (fun r9 u9 H locs hw hp hd hs => ?_)
        clear hP hD hS
        obtain ⟨rfl, rfl⟩ := hw
        have hP := hp; have hD := hd; have hS := hs; clear hp hd hs
        refine lv_if_eq (tgt := 48) hx hb dX4_wordIn_43 (by decide) (fun c9 => ?_) (fun c9 => ?_)
        · rw [if_pos c9] at h
          refine lv_iinc (v := x2 + 1) (lv' := [(2, .int (x2 + 1)), (0, .ref (ad 24)), (1, .ref (eo (1 + 3))), (3, .int x3), (4, .int x4)]) hx hb dX4_wordIn_48 hl (k := 2) rfl rfl (by decide) rfl (fun ls hl => ?_)
          refine lv_iload hx hb dX4_wordIn_51 (lv_at hl 4 rfl) ?_
          refine lv_iconst (v := 1) hx hb dX4_wordIn_53 (by decide) ?_
          refine lv_iadd hx hb dX4_wordIn_54 ?_
          refine lv_istore_n (lv' := [(3, .int (x4 + 1 : Int32)), (2, .int (x2 + 1)), (0, .ref (ad 24)), (1, .ref (eo (1 + 3))), (4, .int x4)]) hx hb dX4_wordIn_55 rfl hl (by decide) rfl (fun ls hl => ?_)
          exact WX4_wordIn_s24_t3_56 C0 hk7 _ _ _ _ _ _ _ h hP hD hS (lv_sub hl [2, 3, 1, 0, 4] rfl)
        · rw [if_neg c9] at h
          refine lv_iload_n hx hb dX4_wordIn_46 rfl (lv_at hl 2 rfl) ?_
          cases h
          exact kz_iret hx hb hr hlocks hP hK hD hS dX4_wordIn_47 ⟨rfl, rfl⟩
set_option maxHeartbeats 4000000 in
set_option maxRecDepth 100000 in
theorem WX4_wordIn_s24_t3_7 {p : Program} {l : Launch} {e : Env} {s : State} {m : MethodId} {args : Array Value} {below : List Frame} {meth : Method} {c : Code} {D : va_G} {ty : Nat → ClassId} {eo : Nat → Nat} {A : Nat → Prop} {ad : Nat → Nat} {o1 : Int32} {o2 : dK} (C : dc_C p s m args meth c cX4_wordIn (some .int) 5 RX4 wsX4_wordIn D ty eo A)   (n : Nat) (q : dK) (x2 : Int32) (x3 : Int32) (x4 : Int32) (H : Heap) (locs : List Loc) (ls : Array Slot) (h : zX4_wordIn_s24_t3_7  n q x2 x3 x4 = some (o1, o2)) (hP : va_P D vwCl (wF ty ad q) H) (hD : va_D A (wF ty ad q)) (hS : va_S A s.heap H locs) (hl : lv_has ls 5 [(0, .ref (ad 24)), (1, .ref (eo (1 + 3))), (2, .int x2), (3, .int x3), (4, .int x4)]) : W p l e ({ frames := 5, cells := 0, slots := 0, locals := 109 } : Room) s m args below meth c H locs 0 0 (MQ below (va_Qi (fun (r : Int32) (u : va_W) => o1 = r ∧ wF ty ad o2 = u) (kz_B D ty A) A) args s 0 0 A) (F0 m 7 ls []) := by
  exact dFix_W (F := fun k (a : dK × Int32 × Int32 × Int32) => zX4_wordIn_s24_t3_7b  (fun q x2 x3 x4 => k (q, x2, x3, x4)) a.1 a.2.1 a.2.2.1 a.2.2.2) (o := (o1, o2)) (P := fun (a : dK × Int32 × Int32 × Int32) H locs ls => va_P D vwCl (wF ty ad a.1) H ∧ va_D A (wF ty ad a.1) ∧ va_S A s.heap H locs ∧ lv_has ls 5 [(0, .ref (ad 24)), (1, .ref (eo (1 + 3))), (2, .int a.2.1), (3, .int a.2.2.1), (4, .int a.2.2.2)]) (G := fun H locs ls => W p l e ({ frames := 5, cells := 0, slots := 0, locals := 109 } : Room) s m args below meth c H locs 0 0 (MQ below (va_Qi (fun (r : Int32) (u : va_W) => o1 = r ∧ wF ty ad o2 = u) (kz_B D ty A) A) args s 0 0 A) (F0 m 7 ls []))
    (fun k hk a H locs ls h hp => WX4_wordIn_s24_t3_7b C  (fun q x2 x3 x4 H locs ls h h1 h2 h3 h4 => hk (q, x2, x3, x4) H locs ls h ⟨h1, h2, h3, h4⟩) a.1 a.2.1 a.2.2.1 a.2.2.2 H locs ls h hp.1 hp.2.1 hp.2.2.1 hp.2.2.2) n (q, x2, x3, x4) H locs ls h ⟨hP, hD, hS, hl⟩
set_option maxHeartbeats 4000000 in
set_option maxRecDepth 100000 in
theorem qX4_wordIn_s24_t3 (l : Launch) (D : va_G) (ty : Nat → ClassId) (eo : Nat → Nat) (sz : Nat) (ad : Nat → Nat) (q : dK)  (o1 : Int32) (o2 : dK) (h : zX4_wordIn_s24_t3 q = some (o1, o2)) : Met l yX4_wordIn wsX4_wordIn ({ frames := 5, cells := 0, slots := 0, locals := 109 } : Room) (va_Pc [.ref (ad 24), .ref (eo (1 + 3))] (kz_pre D ty eo (wF ty ad q) sz)) (va_Qi (fun (r : Int32) (u : va_W) => o1 = r ∧ wF ty ad o2 = u) (kz_B D ty (va_A (wF ty ad q) sz)) (va_A (wF ty ad q) sz)) 0 0 (va_A (wF ty ad q) sz) := by
  refine Met.ofW (cc := cX4_wordIn) (maxL := 5) (ret := (some .int)) (by decide) rfl ?_
  intro p e s m args below meth c s₁ B hml hv
  obtain ⟨rfl, hsz, hP, hK, hD0, hN, hE⟩ := hv
  have hx := B.exec
  have hb := B.bytes
  have hr := B.returns
  have hts := atoms_spec (ws := wsX4_wordIn) B.pre
  have hown : s.vm.findClass RX4 = some m.cls := findClass_of_methodNamed B.named
  have hlocks := B.notSynchronized
  subst hsz
  have hD := hD0.self (sz := s.heap.size)
  generalize hAe : va_A (wF ty ad q) s.heap.size = A at hD hE ⊢
  have hA : ∀ q : Nat, s.heap.size ≤ q → A q := fun q h => by rw [← hAe]; exact Or.inr h
  clear hAe
  have hS : va_S A s.heap s.heap [] := va_S.rf
  have hl := lv_entry ([.ref (ad 24), .ref (eo (1 + 3))]) (n := 5) (Nat.le_of_ble_eq_true rfl)
  rw [lg_entry_eq]
  generalize (lg_sl ([.ref (ad 24), .ref (eo (1 + 3))]) ++ List.replicate (5 - (lg_sl ([.ref (ad 24), .ref (eo (1 + 3))])).length) Slot.unset).toArray = ls at hl ⊢
  have hl : lv_has ls 5 [(0, .ref (ad 24)), (1, .ref (eo (1 + 3)))] := hl
  have C : dc_C p s m _ meth c cX4_wordIn (some .int) 5 RX4 wsX4_wordIn D ty eo A := ⟨hx, hb, hr, hts, hown, hlocks, hml, hK, hN, hE, hA⟩
  unfold zX4_wordIn_s24_t3 at h
  refine lv_iconst (v := 0) hx hb dX4_wordIn_0 (by decide) ?_
  refine lv_istore_n (lv' := [(2, .int 0), (0, .ref (ad 24)), (1, .ref (eo (1 + 3)))]) hx hb dX4_wordIn_1 rfl hl (by decide) rfl (fun ls hl => ?_)
  refine lv_iconst (v := 0) hx hb dX4_wordIn_2 (by decide) ?_
  refine lv_istore_n (lv' := [(3, .int 0), (2, .int 0), (0, .ref (ad 24)), (1, .ref (eo (1 + 3)))]) hx hb dX4_wordIn_3 rfl hl (by decide) rfl (fun ls hl => ?_)
  refine lv_iconst (v := 0) hx hb dX4_wordIn_4 (by decide) ?_
  refine lv_istore (lv' := [(4, .int 0), (3, .int 0), (2, .int 0), (0, .ref (ad 24)), (1, .ref (eo (1 + 3)))]) hx hb dX4_wordIn_5 hl (by decide) rfl (fun ls hl => ?_)
  exact WX4_wordIn_s24_t3_7 C  _ _ _ _ _ _ _ _ h hP hD hS (lv_sub hl [3, 4, 2, 1, 0] rfl)

set_option maxHeartbeats 4000000 in
set_option maxRecDepth 100000 in
theorem WX7_emit_s25_36 {p : Program} {l : Launch} {e : Env} {s : State} {m : MethodId} {args : Array Value} {below : List Frame} {meth : Method} {c : Code} {D : va_G} {ty : Nat → ClassId} {eo : Nat → Nat} {A : Nat → Prop} {ad : Nat → Nat} {o2 : dK} (C : dc_C p s m args meth c cX7_emit none 3 RX7 wsX7_emit D ty eo A)   (q : dK)  (H : Heap) (locs : List Loc) (ls : Array Slot) (h : zX7_emit_s25_36  q = some o2) (hP : va_P D vwCl (wF ty ad q) H) (hD : va_D A (wF ty ad q)) (hS : va_S A s.heap H locs) (hl : lv_has ls 3 []) : W p l e ({ frames := 0, cells := 0, slots := 0, locals := 0 } : Room) s m args below meth c H locs 0 0 (MQ below (va_Qv (fun (u : va_W) => wF ty ad o2 = u) (kz_B D ty A) A) args s 0 0 A) (F0 m 36 ls []) := by
  have C0 := C
  obtain ⟨hx, hb, hr, hts, hown, hlocks, hml, hK, hN, hE, hA⟩ := C
  unfold zX7_emit_s25_36 at h
  cases h
  exact kz_vret hx hb hr hlocks hP hK hD hS dX7_emit_36 rfl
set_option maxHeartbeats 4000000 in
set_option maxRecDepth 100000 in
theorem qX7_emit_s25 (l : Launch) (D : va_G) (ty : Nat → ClassId) (eo : Nat → Nat) (sz : Nat) (ad : Nat → Nat) (q : dK) (p1 : Int32) (p2 : Int32) (o2 : dK) (h : zX7_emit_s25 q p1 p2 = some o2) : Met l yX7_emit wsX7_emit ({ frames := 0, cells := 0, slots := 0, locals := 0 } : Room) (va_Pc [.ref (ad 25), .int p1, .int p2] (kz_pre D ty eo (wF ty ad q) sz)) (va_Qv (fun (u : va_W) => wF ty ad o2 = u) (kz_B D ty (va_A (wF ty ad q) sz)) (va_A (wF ty ad q) sz)) 0 0 (va_A (wF ty ad q) sz) := by
  refine Met.ofW (cc := cX7_emit) (maxL := 3) (ret := none) (by decide) rfl ?_
  intro p e s m args below meth c s₁ B hml hv
  obtain ⟨rfl, hsz, hP, hK, hD0, hN, hE⟩ := hv
  have hx := B.exec
  have hb := B.bytes
  have hr := B.returns
  have hts := atoms_spec (ws := wsX7_emit) B.pre
  have hown : s.vm.findClass RX7 = some m.cls := findClass_of_methodNamed B.named
  have hlocks := B.notSynchronized
  subst hsz
  have hD := hD0.self (sz := s.heap.size)
  generalize hAe : va_A (wF ty ad q) s.heap.size = A at hD hE ⊢
  have hA : ∀ q : Nat, s.heap.size ≤ q → A q := fun q h => by rw [← hAe]; exact Or.inr h
  clear hAe
  have hS : va_S A s.heap s.heap [] := va_S.rf
  have hl := lv_entry ([.ref (ad 25), .int p1, .int p2]) (n := 3) (Nat.le_of_ble_eq_true rfl)
  rw [lg_entry_eq]
  generalize (lg_sl ([.ref (ad 25), .int p1, .int p2]) ++ List.replicate (3 - (lg_sl ([.ref (ad 25), .int p1, .int p2])).length) Slot.unset).toArray = ls at hl ⊢
  have hl : lv_has ls 3 [(0, .ref (ad 25)), (1, .int p1), (2, .int p2)] := hl
  have C : dc_C p s m _ meth c cX7_emit none 3 RX7 wsX7_emit D ty eo A := ⟨hx, hb, hr, hts, hown, hlocks, hml, hK, hN, hE, hA⟩
  unfold zX7_emit_s25 at h
  refine lv_aload_n hx hb dX7_emit_0 rfl (lv_at hl 0 rfl) ?_
  refine va_get (D := D) (ci := 7) (v := .int (q.1 25 7)) (C := RX7) (T := TX7) (N := 8) hx hb hts u9_wsX7_emit_X7 hown hK hP 25 rfl rfl 7 (by decide) (hts (.fieldLink RX7 13 "TurnedFloors$Text" "length" "I") f9_wsX7_emit_498) (fun _ h9 => h9) rfl dX7_emit_1 ?_
  refine lv_aload_n hx hb dX7_emit_4 rfl (lv_at hl 0 rfl) ?_
  refine va_get (D := D) (ci := 7) (v := .ref (ad 31)) (C := RX7) (T := TX7) (N := 8) hx hb hts u9_wsX7_emit_X7 hown hK hP 25 rfl rfl 5 (by decide) (hts (.fieldLink RX7 32 "TurnedFloors$Text" "code" "[I") f9_wsX7_emit_499) (fun _ h9 => h9) rfl dX7_emit_5 ?_
  refine va_alen (v := 400) hx hb hK hP 31 0 rfl rfl rfl dX7_emit_8 ?_
  refine lv_icmp_ge (tgt := 36) hx hb dX7_emit_9 (by decide) (fun c9 => ?_) (fun c9 => ?_)
  · rw [if_pos c9] at h
    exact WX7_emit_s25_36 C  _ _ _ _ h hP hD hS (lv_sub hl [] rfl)
  · rw [if_neg c9] at h
    refine lv_aload_n hx hb dX7_emit_12 rfl (lv_at hl 0 rfl) ?_
    refine va_get (D := D) (ci := 7) (v := .ref (ad 31)) (C := RX7) (T := TX7) (N := 8) hx hb hts u9_wsX7_emit_X7 hown hK hP 25 rfl rfl 5 (by decide) (hts (.fieldLink RX7 32 "TurnedFloors$Text" "code" "[I") f9_wsX7_emit_499) (fun _ h9 => h9) rfl dX7_emit_13 ?_
    refine lv_aload_n hx hb dX7_emit_16 rfl (lv_at hl 0 rfl) ?_
    refine va_get (D := D) (ci := 7) (v := .int (q.1 25 7)) (C := RX7) (T := TX7) (N := 8) hx hb hts u9_wsX7_emit_X7 hown hK hP 25 rfl rfl 7 (by decide) (hts (.fieldLink RX7 13 "TurnedFloors$Text" "length" "I") f9_wsX7_emit_498) (fun _ h9 => h9) rfl dX7_emit_17 ?_
    refine lv_iload_n hx hb dX7_emit_20 rfl (lv_at hl 2 rfl) ?_
    refine lv_iconst (v := 4) hx hb dX7_emit_21 (by decide) ?_
    refine lv_ishl hx hb dX7_emit_22 ?_
    refine lv_iload_n hx hb dX7_emit_23 rfl (lv_at hl 1 rfl) ?_
    refine lv_ior hx hb dX7_emit_24 ?_
    obtain ⟨g1, h⟩ := dG_some h
    refine va_iast hx hb hK hP hD hS 31 0 rfl rfl (dg_in g1) dX7_emit_25 (fun H locs hp hd hs => ?_)
    obtain ⟨q2, eq2, h⟩ := dL_some h
    refine kz_re (w2 := wF ty ad q2) hp hd hs (by rw [← eq2]; exact wF_a31 ty ad q (Int32.toNatClampNeg (q.1 25 7)) ((p2 <<< ((4 : Int32) &&& 31) : Int32) ||| p1)) ?_
    clear hp hd hs hP hD hS
    intro hP hD hS
    refine lv_aload_n hx hb dX7_emit_26 rfl (lv_at hl 0 rfl) ?_
    refine lv_dup hx hb dX7_emit_27 rfl ?_
    refine va_get (D := D) (ci := 7) (v := .int (q2.1 25 7)) (C := RX7) (T := TX7) (N := 8) hx hb hts u9_wsX7_emit_X7 hown hK hP 25 rfl rfl 7 (by decide) (hts (.fieldLink RX7 13 "TurnedFloors$Text" "length" "I") f9_wsX7_emit_498) (fun _ h9 => h9) rfl dX7_emit_28 ?_
    refine lv_iconst (v := 1) hx hb dX7_emit_31 (by decide) ?_
    refine lv_iadd hx hb dX7_emit_32 ?_
    refine va_put (D := D) (ci := 7) (v := .int ((q2.1 25 7) + 1 : Int32)) (ty := .int) (C := RX7) (T := TX7) (N := 8) hx hb hts u9_wsX7_emit_X7 tyX7 tyX7_ok nmX7 hown hK hP hD hS 25 rfl rfl 7 (by decide) (hts (.fieldLink RX7 13 "TurnedFloors$Text" "length" "I") f9_wsX7_emit_498) (fun _ h9 => h9) rfl (by decide +kernel) rfl rfl (Nat.le_of_ble_eq_true rfl) dX7_emit_33 (fun H locs hp hd hs => ?_)
    obtain ⟨q3, eq3, h⟩ := dL_some h
    refine kz_re (w2 := wF ty ad q3) hp hd hs (by rw [← eq3]; exact wF_f25_7 ty ad q2 ((q2.1 25 7) + 1 : Int32)) ?_
    clear hp hd hs hP hD hS
    intro hP hD hS
    exact WX7_emit_s25_36 C  _ _ _ _ h hP hD hS (lv_sub hl [] rfl)

set_option maxHeartbeats 4000000 in
set_option maxRecDepth 100000 in
theorem WX4_readPlace_s24_17 {p : Program} {l : Launch} {e : Env} {s : State} {m : MethodId} {args : Array Value} {below : List Frame} {meth : Method} {c : Code} {D : va_G} {ty : Nat → ClassId} {eo : Nat → Nat} {A : Nat → Prop} {ad : Nat → Nat} {o2 : dK} (C : dc_C p s m args meth c cX4_readPlace none 2 RX4 wsX4_readPlace D ty eo A)   (q : dK)  (H : Heap) (locs : List Loc) (ls : Array Slot) (h : zX4_readPlace_s24_17  q = some o2) (hP : va_P D vwCl (wF ty ad q) H) (hD : va_D A (wF ty ad q)) (hS : va_S A s.heap H locs) (hl : lv_has ls 2 [(0, .ref (ad 24))]) : W p l e ({ frames := 2, cells := 0, slots := 0, locals := 42 } : Room) s m args below meth c H locs 0 0 (MQ below (va_Qv (fun (u : va_W) => wF ty ad o2 = u) (kz_B D ty A) A) args s 0 0 A) (F0 m 17 ls []) := by
  have C0 := C
  obtain ⟨hx, hb, hr, hts, hown, hlocks, hml, hK, hN, hE, hA⟩ := C
  unfold zX4_readPlace_s24_17 at h
  refine lv_aload_n hx hb dX4_readPlace_17 rfl (lv_at hl 0 rfl) ?_
  obtain ⟨q3, h2, h⟩ := dV_some h
  refine dw_kv (va_runV (As := []) (rest := []) ⟨hx, hb, hml, hown, hts⟩ (qX4_fail_s24 l D ty eo _ ad q  q3 h2) (cwV 0 hts gX4_readPlace_X4_fail rfl rfl rfl hd_X4_fail_v ⟨Nat.le_of_ble_eq_true rfl, Nat.le_of_ble_eq_true rfl⟩) (pvF_4_24 hK hN hE hP hD hS hA) rfl rfl hl.1 rfl (lv_room (Nat.le_of_ble_eq_true rfl)) dX4_readPlace_18 ⟨Nat.le_of_ble_eq_true rfl, Nat.le_of_ble_eq_true rfl⟩) hD hS hA (fun u9 H locs hw hp hd hs => ?_)
  clear hP hD hS
  obtain rfl := hw
  have hP := hp; have hD := hd; have hS := hs; clear hp hd hs
  cases h
  exact kz_vret hx hb hr hlocks hP hK hD hS dX4_readPlace_21 rfl
set_option maxHeartbeats 4000000 in
set_option maxRecDepth 100000 in
theorem qX4_readPlace_s24 (l : Launch) (D : va_G) (ty : Nat → ClassId) (eo : Nat → Nat) (sz : Nat) (ad : Nat → Nat) (q : dK) (p1 : Int32) (o2 : dK) (h : zX4_readPlace_s24 q p1 = some o2) : Met l yX4_readPlace wsX4_readPlace ({ frames := 2, cells := 0, slots := 0, locals := 42 } : Room) (va_Pc [.ref (ad 24), .int p1] (kz_pre D ty eo (wF ty ad q) sz)) (va_Qv (fun (u : va_W) => wF ty ad o2 = u) (kz_B D ty (va_A (wF ty ad q) sz)) (va_A (wF ty ad q) sz)) 0 0 (va_A (wF ty ad q) sz) := by
  refine Met.ofW (cc := cX4_readPlace) (maxL := 2) (ret := none) (by decide) rfl ?_
  intro p e s m args below meth c s₁ B hml hv
  obtain ⟨rfl, hsz, hP, hK, hD0, hN, hE⟩ := hv
  have hx := B.exec
  have hb := B.bytes
  have hr := B.returns
  have hts := atoms_spec (ws := wsX4_readPlace) B.pre
  have hown : s.vm.findClass RX4 = some m.cls := findClass_of_methodNamed B.named
  have hlocks := B.notSynchronized
  subst hsz
  have hD := hD0.self (sz := s.heap.size)
  generalize hAe : va_A (wF ty ad q) s.heap.size = A at hD hE ⊢
  have hA : ∀ q : Nat, s.heap.size ≤ q → A q := fun q h => by rw [← hAe]; exact Or.inr h
  clear hAe
  have hS : va_S A s.heap s.heap [] := va_S.rf
  have hl := lv_entry ([.ref (ad 24), .int p1]) (n := 2) (Nat.le_of_ble_eq_true rfl)
  rw [lg_entry_eq]
  generalize (lg_sl ([.ref (ad 24), .int p1]) ++ List.replicate (2 - (lg_sl ([.ref (ad 24), .int p1])).length) Slot.unset).toArray = ls at hl ⊢
  have hl : lv_has ls 2 [(0, .ref (ad 24)), (1, .int p1)] := hl
  have C : dc_C p s m _ meth c cX4_readPlace none 2 RX4 wsX4_readPlace D ty eo A := ⟨hx, hb, hr, hts, hown, hlocks, hml, hK, hN, hE, hA⟩
  unfold zX4_readPlace_s24 at h
  refine lv_aload_n hx hb dX4_readPlace_0 rfl (lv_at hl 0 rfl) ?_
  refine va_get (D := D) (ci := 4) (v := .int (q.1 24 4)) (C := RX4) (T := TX4) (N := 11) hx hb hts u9_wsX4_readPlace_X4 hown hK hP 24 rfl rfl 4 (by decide) (hts (.fieldLink RX4 27 "TurnedFloors$Reader" "token" "I") f9_wsX4_readPlace_501) (fun _ h9 => h9) rfl dX4_readPlace_1 ?_
  refine lv_iconst (v := 2) hx hb dX4_readPlace_4 (by decide) ?_
  refine lv_icmp_ne (tgt := 17) hx hb dX4_readPlace_5 (by decide) (fun c9 => ?_) (fun c9 => ?_)
  · rw [if_neg c9] at h
    exact WX4_readPlace_s24_17 C  _ _ _ _ h hP hD hS (lv_sub hl [0] rfl)
  · rw [if_pos c9] at h
    refine lv_aload_n hx hb dX4_readPlace_8 rfl (lv_at hl 0 rfl) ?_
    refine va_get (D := D) (ci := 4) (v := .int (q.1 24 7)) (C := RX4) (T := TX4) (N := 11) hx hb hts u9_wsX4_readPlace_X4 hown hK hP 24 rfl rfl 7 (by decide) (hts (.fieldLink RX4 36 "TurnedFloors$Reader" "number" "I") f9_wsX4_readPlace_502) (fun _ h9 => h9) rfl dX4_readPlace_9 ?_
    refine lv_bipush (v := 6) hx hb dX4_readPlace_12 (by decide) ?_
    refine lv_icmp_lt (tgt := 22) hx hb dX4_readPlace_14 (by decide) (fun c9 => ?_) (fun c9 => ?_)
    · rw [if_pos c9] at h
      refine lv_aload_n hx hb dX4_readPlace_22 rfl (lv_at hl 0 rfl) ?_
      refine va_get (D := D) (ci := 4) (v := dN (ad 25) (q.1 24 3)) (C := RX4) (T := TX4) (N := 11) hx hb hts u9_wsX4_readPlace_X4 hown hK hP 24 rfl rfl 3 (by decide) (hts (.fieldLink RX4 23 "TurnedFloors$Reader" "text" "LTurnedFloors$Text;") f9_wsX4_readPlace_503) (fun _ h9 => h9) rfl dX4_readPlace_23 ?_
      obtain ⟨g1, h⟩ := dG_some h
      refine kz_topv (if_neg (dnz_ne g1)) ?_
      refine lv_iconst (v := 1) hx hb dX4_readPlace_26 (by decide) ?_
      refine lv_iload_n hx hb dX4_readPlace_27 rfl (lv_at hl 1 rfl) ?_
      refine lv_aload_n hx hb dX4_readPlace_28 rfl (lv_at hl 0 rfl) ?_
      refine va_get (D := D) (ci := 4) (v := .int (q.1 24 7)) (C := RX4) (T := TX4) (N := 11) hx hb hts u9_wsX4_readPlace_X4 hown hK hP 24 rfl rfl 7 (by decide) (hts (.fieldLink RX4 36 "TurnedFloors$Reader" "number" "I") f9_wsX4_readPlace_502) (fun _ h9 => h9) rfl dX4_readPlace_29 ?_
      refine lv_iadd hx hb dX4_readPlace_32 ?_
      obtain ⟨q4, h3, h⟩ := dV_some h
      refine dw_kv (va_runV (As := [.int 1, .int (p1 + (q.1 24 7))]) (rest := []) ⟨hx, hb, hml, hown, hts⟩ (qX7_emit_s25 l D ty eo _ ad q 1 (p1 + (q.1 24 7)) q4 h3) (cwV 2 hts gX4_readPlace_X7_emit rfl rfl rfl hd_X7_emit_v ⟨Nat.le_of_ble_eq_true rfl, Nat.le_of_ble_eq_true rfl⟩) (pvF_7_25 hK hN hE hP hD hS hA) rfl rfl hl.1 rfl (lv_room (Nat.le_of_ble_eq_true rfl)) dX4_readPlace_33 ⟨Nat.le_of_ble_eq_true rfl, Nat.le_of_ble_eq_true rfl⟩) hD hS hA (fun u9 H locs hw hp hd hs => ?_)
      clear hP hD hS
      obtain rfl := hw
      have hP := hp; have hD := hd; have hS := hs; clear hp hd hs
      refine lv_aload_n hx hb dX4_readPlace_36 rfl (lv_at hl 0 rfl) ?_
      obtain ⟨q7, h6, h⟩ := dV_some h
      refine dw_kv (va_runV (As := []) (rest := []) ⟨hx, hb, hml, hown, hts⟩ (qX4_step_s24 l D ty eo _ ad q4  q7 h6) (cwV 0 hts gX4_readPlace_X4_step rfl rfl rfl hd_X4_step_v ⟨Nat.le_of_ble_eq_true rfl, Nat.le_of_ble_eq_true rfl⟩) (pvF_4_24 hK hN hE hP hD hS hA) rfl rfl hl.1 rfl (lv_room (Nat.le_of_ble_eq_true rfl)) dX4_readPlace_37 ⟨Nat.le_of_ble_eq_true rfl, Nat.le_of_ble_eq_true rfl⟩) hD hS hA (fun u9 H locs hw hp hd hs => ?_)
      clear hP hD hS
      obtain rfl := hw
      have hP := hp; have hD := hd; have hS := hs; clear hp hd hs
      cases h
      exact kz_vret hx hb hr hlocks hP hK hD hS dX4_readPlace_40 rfl
    · rw [if_neg c9] at h
      exact WX4_readPlace_s24_17 C  _ _ _ _ h hP hD hS (lv_sub hl [0] rfl)

set_option maxHeartbeats 4000000 in
set_option maxRecDepth 100000 in
theorem WX4_readPart_s24_177 {p : Program} {l : Launch} {e : Env} {s : State} {m : MethodId} {args : Array Value} {below : List Frame} {meth : Method} {c : Code} {D : va_G} {ty : Nat → ClassId} {eo : Nat → Nat} {A : Nat → Prop} {ad : Nat → Nat} {o2 : dK} {kS : dK → Option (dK)} {nS : Nat} (hkS : ∀ (sz : Nat) (q : dK)  (o2 : dK), kS q  = some o2 → Met l yX4_readSum wsX4_readSum ({ frames := 12 + 3 * nS, cells := 0, slots := 0, locals := 400 + 67 * nS } : Room) (va_Pc [.ref (ad 24)] (kz_pre D ty eo (wF ty ad q) sz)) (va_Qv (fun (u : va_W) => wF ty ad o2 = u) (kz_B D ty (va_A (wF ty ad q) sz)) (va_A (wF ty ad q) sz)) 0 0 (va_A (wF ty ad q) sz)) (C : dc_C p s m args meth c cX4_readPart none 4 RX4 wsX4_readPart D ty eo A)   (q : dK)  (H : Heap) (locs : List Loc) (ls : Array Slot) (h : zX4_readPart_s24_177 kS  q = some o2) (hP : va_P D vwCl (wF ty ad q) H) (hD : va_D A (wF ty ad q)) (hS : va_S A s.heap H locs) (hl : lv_has ls 4 []) : W p l e ({ frames := 12 + 3 * nS + 1, cells := 0, slots := 0, locals := 400 + 67 * nS + 22 } : Room) s m args below meth c H locs 0 0 (MQ below (va_Qv (fun (u : va_W) => wF ty ad o2 = u) (kz_B D ty A) A) args s 0 0 A) (F0 m 177 ls []) := by
  have C0 := C
  obtain ⟨hx, hb, hr, hts, hown, hlocks, hml, hK, hN, hE, hA⟩ := C
  unfold zX4_readPart_s24_177 at h
  cases h
  exact kz_vret hx hb hr hlocks hP hK hD hS dX4_readPart_177 rfl
set_option maxHeartbeats 4000000 in
set_option maxRecDepth 100000 in
theorem WX4_readPart_s24_168 {p : Program} {l : Launch} {e : Env} {s : State} {m : MethodId} {args : Array Value} {below : List Frame} {meth : Method} {c : Code} {D : va_G} {ty : Nat → ClassId} {eo : Nat → Nat} {A : Nat → Prop} {ad : Nat → Nat} {o2 : dK} {kS : dK → Option (dK)} {nS : Nat} (hkS : ∀ (sz : Nat) (q : dK)  (o2 : dK), kS q  = some o2 → Met l yX4_readSum wsX4_readSum ({ frames := 12 + 3 * nS, cells := 0, slots := 0, locals := 400 + 67 * nS } : Room) (va_Pc [.ref (ad 24)] (kz_pre D ty eo (wF ty ad q) sz)) (va_Qv (fun (u : va_W) => wF ty ad o2 = u) (kz_B D ty (va_A (wF ty ad q) sz)) (va_A (wF ty ad q) sz)) 0 0 (va_A (wF ty ad q) sz)) (C : dc_C p s m args meth c cX4_readPart none 4 RX4 wsX4_readPart D ty eo A)   (q : dK) (x1 : Int32) (H : Heap) (locs : List Loc) (ls : Array Slot) (h : zX4_readPart_s24_168 kS  q x1 = some o2) (hP : va_P D vwCl (wF ty ad q) H) (hD : va_D A (wF ty ad q)) (hS : va_S A s.heap H locs) (hl : lv_has ls 4 [(0, .ref (ad 24)), (1, .int x1)]) : W p l e ({ frames := 12 + 3 * nS + 1, cells := 0, slots := 0, locals := 400 + 67 * nS + 22 } : Room) s m args below meth c H locs 0 0 (MQ below (va_Qv (fun (u : va_W) => wF ty ad o2 = u) (kz_B D ty A) A) args s 0 0 A) (F0 m 168 ls []) := by
  have C0 := C
  obtain ⟨hx, hb, hr, hts, hown, hlocks, hml, hK, hN, hE, hA⟩ := C
  unfold zX4_readPart_s24_168 at h
  refine lv_aload_n hx hb dX4_readPart_168 rfl (lv_at hl 0 rfl) ?_
  refine va_get (D := D) (ci := 4) (v := dN (ad 25) (q.1 24 3)) (C := RX4) (T := TX4) (N := 11) hx hb hts u9_wsX4_readPart_X4 hown hK hP 24 rfl rfl 3 (by decide) (hts (.fieldLink RX4 23 "TurnedFloors$Reader" "text" "LTurnedFloors$Text;") f9_wsX4_readPart_505) (fun _ h9 => h9) rfl dX4_readPart_169 ?_
  obtain ⟨g1, h⟩ := dG_some h
  refine kz_topv (if_neg (dnz_ne g1)) ?_
  refine lv_iconst (v := 1) hx hb dX4_readPart_172 (by decide) ?_
  refine lv_iload_n hx hb dX4_readPart_173 rfl (lv_at hl 1 rfl) ?_
  obtain ⟨q4, h3, h⟩ := dV_some h
  refine dw_kv (va_runV (As := [.int 1, .int x1]) (rest := []) ⟨hx, hb, hml, hown, hts⟩ (qX7_emit_s25 l D ty eo _ ad q 1 x1 q4 h3) (cwV 2 hts gX4_readPart_X7_emit rfl rfl rfl hd_X7_emit_v ⟨by dsimp only [headSpec]; omega, by dsimp only [headSpec]; omega⟩) (pvF_7_25 hK hN hE hP hD hS hA) rfl rfl hl.1 rfl (lv_room (Nat.le_of_ble_eq_true rfl)) dX4_readPart_174 ⟨Nat.le_of_ble_eq_true rfl, Nat.le_of_ble_eq_true rfl⟩) hD hS hA (fun u9 H locs hw hp hd hs => ?_)
  clear hP hD hS
  obtain rfl := hw
  have hP := hp; have hD := hd; have hS := hs; clear hp hd hs
  exact WX4_readPart_s24_177 hkS C0  _ _ _ _ h hP hD hS (lv_sub hl [] rfl)
set_option maxHeartbeats 4000000 in
set_option maxRecDepth 100000 in
theorem WX4_readPart_s24_162 {p : Program} {l : Launch} {e : Env} {s : State} {m : MethodId} {args : Array Value} {below : List Frame} {meth : Method} {c : Code} {D : va_G} {ty : Nat → ClassId} {eo : Nat → Nat} {A : Nat → Prop} {ad : Nat → Nat} {o2 : dK} {kS : dK → Option (dK)} {nS : Nat} (hkS : ∀ (sz : Nat) (q : dK)  (o2 : dK), kS q  = some o2 → Met l yX4_readSum wsX4_readSum ({ frames := 12 + 3 * nS, cells := 0, slots := 0, locals := 400 + 67 * nS } : Room) (va_Pc [.ref (ad 24)] (kz_pre D ty eo (wF ty ad q) sz)) (va_Qv (fun (u : va_W) => wF ty ad o2 = u) (kz_B D ty (va_A (wF ty ad q) sz)) (va_A (wF ty ad q) sz)) 0 0 (va_A (wF ty ad q) sz)) (C : dc_C p s m args meth c cX4_readPart none 4 RX4 wsX4_readPart D ty eo A)   (q : dK) (y0 : Int32) (H : Heap) (locs : List Loc) (ls : Array Slot) (h : zX4_readPart_s24_162 kS  q y0 = some o2) (hP : va_P D vwCl (wF ty ad q) H) (hD : va_D A (wF ty ad q)) (hS : va_S A s.heap H locs) (hl : lv_has ls 4 []) : W p l e ({ frames := 12 + 3 * nS + 1, cells := 0, slots := 0, locals := 400 + 67 * nS + 22 } : Room) s m args below meth c H locs 0 0 (MQ below (va_Qv (fun (u : va_W) => wF ty ad o2 = u) (kz_B D ty A) A) args s 0 0 A) (F0 m 162 ls [.int y0, .ref (ad 24)]) := by
  have C0 := C
  obtain ⟨hx, hb, hr, hts, hown, hlocks, hml, hK, hN, hE, hA⟩ := C
  unfold zX4_readPart_s24_162 at h
  obtain ⟨q3, h2, h⟩ := dV_some h
  refine dw_kv (va_runV (As := [.int y0]) (rest := []) ⟨hx, hb, hml, hown, hts⟩ (qX4_readPlace_s24 l D ty eo _ ad q y0 q3 h2) (cwV 1 hts gX4_readPart_X4_readPlace rfl rfl rfl hd_X4_readPlace_v ⟨by dsimp only [headSpec]; omega, by dsimp only [headSpec]; omega⟩) (pvF_4_24 hK hN hE hP hD hS hA) rfl rfl hl.1 rfl (lv_room (Nat.le_of_ble_eq_true rfl)) dX4_readPart_162 ⟨Nat.le_of_ble_eq_true rfl, Nat.le_of_ble_eq_true rfl⟩) hD hS hA (fun u9 H locs hw hp hd hs => ?_)
  clear hP hD hS
  obtain rfl := hw
  have hP := hp; have hD := hd; have hS := hs; clear hp hd hs
  refine lv_goto (tgt := 177) hx hb dX4_readPart_165 (by decide) ?_
  exact WX4_readPart_s24_177 hkS C0  _ _ _ _ h hP hD hS (lv_sub hl [] rfl)
set_option maxHeartbeats 4000000 in
set_option maxRecDepth 100000 in
theorem WX4_readPart_s24_98 {p : Program} {l : Launch} {e : Env} {s : State} {m : MethodId} {args : Array Value} {below : List Frame} {meth : Method} {c : Code} {D : va_G} {ty : Nat → ClassId} {eo : Nat → Nat} {A : Nat → Prop} {ad : Nat → Nat} {o2 : dK} {kS : dK → Option (dK)} {nS : Nat} (hkS : ∀ (sz : Nat) (q : dK)  (o2 : dK), kS q  = some o2 → Met l yX4_readSum wsX4_readSum ({ frames := 12 + 3 * nS, cells := 0, slots := 0, locals := 400 + 67 * nS } : Room) (va_Pc [.ref (ad 24)] (kz_pre D ty eo (wF ty ad q) sz)) (va_Qv (fun (u : va_W) => wF ty ad o2 = u) (kz_B D ty (va_A (wF ty ad q) sz)) (va_A (wF ty ad q) sz)) 0 0 (va_A (wF ty ad q) sz)) (C : dc_C p s m args meth c cX4_readPart none 4 RX4 wsX4_readPart D ty eo A)   (q : dK)  (H : Heap) (locs : List Loc) (ls : Array Slot) (h : zX4_readPart_s24_98 kS  q = some o2) (hP : va_P D vwCl (wF ty ad q) H) (hD : va_D A (wF ty ad q)) (hS : va_S A s.heap H locs) (hl : lv_has ls 4 [(0, .ref (ad 24))]) : W p l e ({ frames := 12 + 3 * nS + 1, cells := 0, slots := 0, locals := 400 + 67 * nS + 22 } : Room) s m args below meth c H locs 0 0 (MQ below (va_Qv (fun (u : va_W) => wF ty ad o2 = u) (kz_B D ty A) A) args s 0 0 A) (F0 m 98 ls []) := by
  have C0 := C
  obtain ⟨hx, hb, hr, hts, hown, hlocks, hml, hK, hN, hE, hA⟩ := C
  unfold zX4_readPart_s24_98 at h
  refine lv_aload_n hx hb dX4_readPart_98 rfl (lv_at hl 0 rfl) ?_
  obtain ⟨q3, h2, h⟩ := dV_some h
  refine dw_kv (va_runV (As := []) (rest := []) ⟨hx, hb, hml, hown, hts⟩ (qX4_fail_s24 l D ty eo _ ad q  q3 h2) (cwV 0 hts gX4_readPart_X4_fail rfl rfl rfl hd_X4_fail_v ⟨by dsimp only [headSpec]; omega, by dsimp only [headSpec]; omega⟩) (pvF_4_24 hK hN hE hP hD hS hA) rfl rfl hl.1 rfl (lv_room (Nat.le_of_ble_eq_true rfl)) dX4_readPart_99 ⟨Nat.le_of_ble_eq_true rfl, Nat.le_of_ble_eq_true rfl⟩) hD hS hA (fun u9 H locs hw hp hd hs => ?_)
  clear hP hD hS
  obtain rfl := hw
  have hP := hp; have hD := hd; have hS := hs; clear hp hd hs
  cases h
  exact kz_vret hx hb hr hlocks hP hK hD hS dX4_readPart_102 rfl
set_option maxHeartbeats 4000000 in
set_option maxRecDepth 100000 in
theorem WX4_readPart_s24_89 {p : Program} {l : Launch} {e : Env} {s : State} {m : MethodId} {args : Array Value} {below : List Frame} {meth : Method} {c : Code} {D : va_G} {ty : Nat → ClassId} {eo : Nat → Nat} {A : Nat → Prop} {ad : Nat → Nat} {o2 : dK} {kS : dK → Option (dK)} {nS : Nat} (hkS : ∀ (sz : Nat) (q : dK)  (o2 : dK), kS q  = some o2 → Met l yX4_readSum wsX4_readSum ({ frames := 12 + 3 * nS, cells := 0, slots := 0, locals := 400 + 67 * nS } : Room) (va_Pc [.ref (ad 24)] (kz_pre D ty eo (wF ty ad q) sz)) (va_Qv (fun (u : va_W) => wF ty ad o2 = u) (kz_B D ty (va_A (wF ty ad q) sz)) (va_A (wF ty ad q) sz)) 0 0 (va_A (wF ty ad q) sz)) (C : dc_C p s m args meth c cX4_readPart none 4 RX4 wsX4_readPart D ty eo A)   (q : dK) (x1 : Int32) (x2 : Int32) (H : Heap) (locs : List Loc) (ls : Array Slot) (h : zX4_readPart_s24_89 kS  q x1 x2 = some o2) (hP : va_P D vwCl (wF ty ad q) H) (hD : va_D A (wF ty ad q)) (hS : va_S A s.heap H locs) (hl : lv_has ls 4 [(0, .ref (ad 24)), (1, .int x1), (2, .int x2)]) : W p l e ({ frames := 12 + 3 * nS + 1, cells := 0, slots := 0, locals := 400 + 67 * nS + 22 } : Room) s m args below meth c H locs 0 0 (MQ below (va_Qv (fun (u : va_W) => wF ty ad o2 = u) (kz_B D ty A) A) args s 0 0 A) (F0 m 89 ls []) := by
  have C0 := C
  obtain ⟨hx, hb, hr, hts, hown, hlocks, hml, hK, hN, hE, hA⟩ := C
  unfold zX4_readPart_s24_89 at h
  refine lv_aload_n hx hb dX4_readPart_89 rfl (lv_at hl 0 rfl) ?_
  refine va_get (D := D) (ci := 4) (v := .int (q.1 24 8)) (C := RX4) (T := TX4) (N := 11) hx hb hts u9_wsX4_readPart_X4 hown hK hP 24 rfl rfl 8 (by decide) (hts (.fieldLink RX4 39 "TurnedFloors$Reader" "parts" "I") f9_wsX4_readPart_506) (fun _ h9 => h9) rfl dX4_readPart_90 ?_
  refine lv_bipush (v := 50) hx hb dX4_readPart_93 (by decide) ?_
  refine lv_icmp_lt (tgt := 103) hx hb dX4_readPart_95 (by decide) (fun c9 => ?_) (fun c9 => ?_)
  · rw [if_pos c9] at h
    refine lv_aload_n hx hb dX4_readPart_103 rfl (lv_at hl 0 rfl) ?_
    refine lv_dup hx hb dX4_readPart_104 rfl ?_
    refine va_get (D := D) (ci := 4) (v := .int (q.1 24 8)) (C := RX4) (T := TX4) (N := 11) hx hb hts u9_wsX4_readPart_X4 hown hK hP 24 rfl rfl 8 (by decide) (hts (.fieldLink RX4 39 "TurnedFloors$Reader" "parts" "I") f9_wsX4_readPart_506) (fun _ h9 => h9) rfl dX4_readPart_105 ?_
    refine lv_iconst (v := 1) hx hb dX4_readPart_108 (by decide) ?_
    refine lv_iadd hx hb dX4_readPart_109 ?_
    refine va_put (D := D) (ci := 4) (v := .int ((q.1 24 8) + 1 : Int32)) (ty := .int) (C := RX4) (T := TX4) (N := 11) hx hb hts u9_wsX4_readPart_X4 tyX4 tyX4_ok nmX4 hown hK hP hD hS 24 rfl rfl 8 (by decide) (hts (.fieldLink RX4 39 "TurnedFloors$Reader" "parts" "I") f9_wsX4_readPart_506) (fun _ h9 => h9) rfl (by decide +kernel) rfl rfl (Nat.le_of_ble_eq_true rfl) dX4_readPart_110 (fun H locs hp hd hs => ?_)
    obtain ⟨q1, eq1, h⟩ := dL_some h
    refine kz_re (w2 := wF ty ad q1) hp hd hs (by rw [← eq1]; exact wF_f24_8 ty ad q ((q.1 24 8) + 1 : Int32)) ?_
    clear hp hd hs hP hD hS
    intro hP hD hS
    refine lv_aload_n hx hb dX4_readPart_113 rfl (lv_at hl 0 rfl) ?_
    refine va_get (D := D) (ci := 4) (v := .int (q1.1 24 7)) (C := RX4) (T := TX4) (N := 11) hx hb hts u9_wsX4_readPart_X4 hown hK hP 24 rfl rfl 7 (by decide) (hts (.fieldLink RX4 36 "TurnedFloors$Reader" "number" "I") f9_wsX4_readPart_507) (fun _ h9 => h9) rfl dX4_readPart_114 ?_
    refine lv_istore_n (lv' := [(3, .int (q1.1 24 7)), (0, .ref (ad 24)), (1, .int x1), (2, .int x2)]) hx hb dX4_readPart_117 rfl hl (by decide) rfl (fun ls hl => ?_)
    refine lv_aload_n hx hb dX4_readPart_118 rfl (lv_at hl 1 rfl) ?_
    obtain ⟨q4, h3, h⟩ := dV_some h
    refine dw_kv (va_runV (As := []) (rest := []) ⟨hx, hb, hml, hown, hts⟩ (qX4_step_s24 l D ty eo _ ad q1  q4 h3) (cwV 0 hts gX4_readPart_X4_step rfl rfl rfl hd_X4_step_v ⟨by dsimp only [headSpec]; omega, by dsimp only [headSpec]; omega⟩) (pvF_4_24 hK hN hE hP hD hS hA) rfl rfl hl.1 rfl (lv_room (Nat.le_of_ble_eq_true rfl)) dX4_readPart_119 ⟨Nat.le_of_ble_eq_true rfl, Nat.le_of_ble_eq_true rfl⟩) hD hS hA (fun u9 H locs hw hp hd hs => ?_)
    clear hP hD hS
    obtain rfl := hw
    have hP := hp; have hD := hd; have hS := hs; clear hp hd hs
    refine lv_iload_n hx hb dX4_readPart_122 rfl (lv_at hl 3 rfl) ?_
    refine lv_if_eq (tgt := 138) hx hb dX4_readPart_123 (by decide) (fun c9 => ?_) (fun c9 => ?_)
    · rw [if_pos c9] at h
      refine lv_aload_n hx hb dX4_readPart_138 rfl (lv_at hl 1 rfl) ?_
      refine va_get (D := D) (ci := 4) (v := .int (q4.1 24 2)) (C := RX4) (T := TX4) (N := 11) hx hb hts u9_wsX4_readPart_X4 hown hK hP 24 rfl rfl 2 (by decide) (hts (.fieldLink RX4 19 "TurnedFloors$Reader" "ofOrders" "Z") f9_wsX4_readPart_508) (fun _ h9 => h9) rfl dX4_readPart_139 ?_
      refine lv_if_eq (tgt := 168) hx hb dX4_readPart_142 (by decide) (fun c9 => ?_) (fun c9 => ?_)
      · rw [if_pos c9] at h
        exact WX4_readPart_s24_168 hkS C0  _ _ _ _ _ h hP hD hS (lv_sub hl [1, 2] rfl)
      · rw [if_neg c9] at h
        refine lv_iload_n hx hb dX4_readPart_145 rfl (lv_at hl 2 rfl) ?_
        refine lv_iconst (v := 5) hx hb dX4_readPart_146 (by decide) ?_
        refine lv_icmp_lt (tgt := 168) hx hb dX4_readPart_147 (by decide) (fun c9 => ?_) (fun c9 => ?_)
        · rw [if_pos c9] at h
          exact WX4_readPart_s24_168 hkS C0  _ _ _ _ _ h hP hD hS (lv_sub hl [1, 2] rfl)
        · rw [if_neg c9] at h
          refine lv_aload_n hx hb dX4_readPart_150 rfl (lv_at hl 1 rfl) ?_
          refine lv_iload_n hx hb dX4_readPart_151 rfl (lv_at hl 2 rfl) ?_
          refine lv_iconst (v := 5) hx hb dX4_readPart_152 (by decide) ?_
          refine lv_icmp_ne (tgt := 160) hx hb dX4_readPart_153 (by decide) (fun c9 => ?_) (fun c9 => ?_)
          · rw [if_neg c9] at h
            refine lv_bipush (v := 11) hx hb dX4_readPart_160 (by decide) ?_
            exact WX4_readPart_s24_162 hkS C0  _ _ _ _ _ h hP hD hS (lv_sub hl [] rfl)
          · rw [if_pos c9] at h
            refine lv_iconst (v := 5) hx hb dX4_readPart_156 (by decide) ?_
            refine lv_goto (tgt := 162) hx hb dX4_readPart_157 (by decide) ?_
            exact WX4_readPart_s24_162 hkS C0  _ _ _ _ _ h hP hD hS (lv_sub hl [] rfl)
    · rw [if_neg c9] at h
      refine lv_aload_n hx hb dX4_readPart_126 rfl (lv_at hl 1 rfl) ?_
      refine va_get (D := D) (ci := 4) (v := dN (ad 25) (q4.1 24 3)) (C := RX4) (T := TX4) (N := 11) hx hb hts u9_wsX4_readPart_X4 hown hK hP 24 rfl rfl 3 (by decide) (hts (.fieldLink RX4 23 "TurnedFloors$Reader" "text" "LTurnedFloors$Text;") f9_wsX4_readPart_505) (fun _ h9 => h9) rfl dX4_readPart_127 ?_
      obtain ⟨g5, h⟩ := dG_some h
      refine kz_topv (if_neg (dnz_ne g5)) ?_
      refine lv_iconst (v := 0) hx hb dX4_readPart_130 (by decide) ?_
      refine lv_iload_n hx hb dX4_readPart_131 rfl (lv_at hl 0 rfl) ?_
      obtain ⟨q8, h7, h⟩ := dV_some h
      refine dw_kv (va_runV (As := [.int 0, .int (q1.1 24 7)]) (rest := []) ⟨hx, hb, hml, hown, hts⟩ (qX7_emit_s25 l D ty eo _ ad q4 0 (q1.1 24 7) q8 h7) (cwV 2 hts gX4_readPart_X7_emit rfl rfl rfl hd_X7_emit_v ⟨by dsimp only [headSpec]; omega, by dsimp only [headSpec]; omega⟩) (pvF_7_25 hK hN hE hP hD hS hA) rfl rfl hl.1 rfl (lv_room (Nat.le_of_ble_eq_true rfl)) dX4_readPart_132 ⟨Nat.le_of_ble_eq_true rfl, Nat.le_of_ble_eq_true rfl⟩) hD hS hA (fun u9 H locs hw hp hd hs => ?_)
      clear hP hD hS
      obtain rfl := hw
      have hP := hp; have hD := hd; have hS := hs; clear hp hd hs
      refine lv_goto (tgt := 177) hx hb dX4_readPart_135 (by decide) ?_
      exact WX4_readPart_s24_177 hkS C0  _ _ _ _ h hP hD hS (lv_sub hl [] rfl)
  · rw [if_neg c9] at h
    exact WX4_readPart_s24_98 hkS C0  _ _ _ _ h hP hD hS (lv_sub hl [0] rfl)
set_option maxHeartbeats 4000000 in
set_option maxRecDepth 100000 in
theorem WX4_readPart_s24_79 {p : Program} {l : Launch} {e : Env} {s : State} {m : MethodId} {args : Array Value} {below : List Frame} {meth : Method} {c : Code} {D : va_G} {ty : Nat → ClassId} {eo : Nat → Nat} {A : Nat → Prop} {ad : Nat → Nat} {o2 : dK} {kS : dK → Option (dK)} {nS : Nat} (hkS : ∀ (sz : Nat) (q : dK)  (o2 : dK), kS q  = some o2 → Met l yX4_readSum wsX4_readSum ({ frames := 12 + 3 * nS, cells := 0, slots := 0, locals := 400 + 67 * nS } : Room) (va_Pc [.ref (ad 24)] (kz_pre D ty eo (wF ty ad q) sz)) (va_Qv (fun (u : va_W) => wF ty ad o2 = u) (kz_B D ty (va_A (wF ty ad q) sz)) (va_A (wF ty ad q) sz)) 0 0 (va_A (wF ty ad q) sz)) (C : dc_C p s m args meth c cX4_readPart none 4 RX4 wsX4_readPart D ty eo A)   (q : dK) (x1 : Int32) (y0 : Int32) (H : Heap) (locs : List Loc) (ls : Array Slot) (h : zX4_readPart_s24_79 kS  q x1 y0 = some o2) (hP : va_P D vwCl (wF ty ad q) H) (hD : va_D A (wF ty ad q)) (hS : va_S A s.heap H locs) (hl : lv_has ls 4 [(0, .ref (ad 24)), (1, .int x1)]) : W p l e ({ frames := 12 + 3 * nS + 1, cells := 0, slots := 0, locals := 400 + 67 * nS + 22 } : Room) s m args below meth c H locs 0 0 (MQ below (va_Qv (fun (u : va_W) => wF ty ad o2 = u) (kz_B D ty A) A) args s 0 0 A) (F0 m 79 ls [.int y0]) := by
  have C0 := C
  obtain ⟨hx, hb, hr, hts, hown, hlocks, hml, hK, hN, hE, hA⟩ := C
  unfold zX4_readPart_s24_79 at h
  refine lv_istore_n (lv' := [(2, .int y0), (0, .ref (ad 24)), (1, .int x1)]) hx hb dX4_readPart_79 rfl hl (by decide) rfl (fun ls hl => ?_)
  refine lv_iload_n hx hb dX4_readPart_80 rfl (lv_at hl 2 rfl) ?_
  refine lv_iconst (v := (-1)) hx hb dX4_readPart_81 (by decide) ?_
  refine lv_icmp_ne (tgt := 89) hx hb dX4_readPart_82 (by decide) (fun c9 => ?_) (fun c9 => ?_)
  · rw [if_neg c9] at h
    exact WX4_readPart_s24_89 hkS C0  _ _ _ _ _ _ h hP hD hS (lv_sub hl [1, 2, 0] rfl)
  · rw [if_pos c9] at h
    refine lv_iload_n hx hb dX4_readPart_85 rfl (lv_at hl 0 rfl) ?_
    refine lv_if_eq (tgt := 98) hx hb dX4_readPart_86 (by decide) (fun c9 => ?_) (fun c9 => ?_)
    · rw [if_pos c9] at h
      exact WX4_readPart_s24_98 hkS C0  _ _ _ _ h hP hD hS (lv_sub hl [1] rfl)
    · rw [if_neg c9] at h
      exact WX4_readPart_s24_89 hkS C0  _ _ _ _ _ _ h hP hD hS (lv_sub hl [1, 2, 0] rfl)
set_option maxHeartbeats 4000000 in
set_option maxRecDepth 100000 in
theorem WX4_readPart_s24_78 {p : Program} {l : Launch} {e : Env} {s : State} {m : MethodId} {args : Array Value} {below : List Frame} {meth : Method} {c : Code} {D : va_G} {ty : Nat → ClassId} {eo : Nat → Nat} {A : Nat → Prop} {ad : Nat → Nat} {o2 : dK} {kS : dK → Option (dK)} {nS : Nat} (hkS : ∀ (sz : Nat) (q : dK)  (o2 : dK), kS q  = some o2 → Met l yX4_readSum wsX4_readSum ({ frames := 12 + 3 * nS, cells := 0, slots := 0, locals := 400 + 67 * nS } : Room) (va_Pc [.ref (ad 24)] (kz_pre D ty eo (wF ty ad q) sz)) (va_Qv (fun (u : va_W) => wF ty ad o2 = u) (kz_B D ty (va_A (wF ty ad q) sz)) (va_A (wF ty ad q) sz)) 0 0 (va_A (wF ty ad q) sz)) (C : dc_C p s m args meth c cX4_readPart none 4 RX4 wsX4_readPart D ty eo A)   (q : dK) (x1 : Int32) (H : Heap) (locs : List Loc) (ls : Array Slot) (h : zX4_readPart_s24_78 kS  q x1 = some o2) (hP : va_P D vwCl (wF ty ad q) H) (hD : va_D A (wF ty ad q)) (hS : va_S A s.heap H locs) (hl : lv_has ls 4 [(0, .ref (ad 24)), (1, .int x1)]) : W p l e ({ frames := 12 + 3 * nS + 1, cells := 0, slots := 0, locals := 400 + 67 * nS + 22 } : Room) s m args below meth c H locs 0 0 (MQ below (va_Qv (fun (u : va_W) => wF ty ad o2 = u) (kz_B D ty A) A) args s 0 0 A) (F0 m 78 ls []) := by
  have C0 := C
  obtain ⟨hx, hb, hr, hts, hown, hlocks, hml, hK, hN, hE, hA⟩ := C
  unfold zX4_readPart_s24_78 at h
  refine lv_iconst (v := 0) hx hb dX4_readPart_78 (by decide) ?_
  exact WX4_readPart_s24_79 hkS C0  _ _ _ _ _ _ h hP hD hS (lv_sub hl [0, 1] rfl)
set_option maxHeartbeats 4000000 in
set_option maxRecDepth 100000 in
theorem WX4_readPart_s24_52 {p : Program} {l : Launch} {e : Env} {s : State} {m : MethodId} {args : Array Value} {below : List Frame} {meth : Method} {c : Code} {D : va_G} {ty : Nat → ClassId} {eo : Nat → Nat} {A : Nat → Prop} {ad : Nat → Nat} {o2 : dK} {kS : dK → Option (dK)} {nS : Nat} (hkS : ∀ (sz : Nat) (q : dK)  (o2 : dK), kS q  = some o2 → Met l yX4_readSum wsX4_readSum ({ frames := 12 + 3 * nS, cells := 0, slots := 0, locals := 400 + 67 * nS } : Room) (va_Pc [.ref (ad 24)] (kz_pre D ty eo (wF ty ad q) sz)) (va_Qv (fun (u : va_W) => wF ty ad o2 = u) (kz_B D ty (va_A (wF ty ad q) sz)) (va_A (wF ty ad q) sz)) 0 0 (va_A (wF ty ad q) sz)) (C : dc_C p s m args meth c cX4_readPart none 4 RX4 wsX4_readPart D ty eo A)   (q : dK)  (H : Heap) (locs : List Loc) (ls : Array Slot) (h : zX4_readPart_s24_52 kS  q = some o2) (hP : va_P D vwCl (wF ty ad q) H) (hD : va_D A (wF ty ad q)) (hS : va_S A s.heap H locs) (hl : lv_has ls 4 [(0, .ref (ad 24))]) : W p l e ({ frames := 12 + 3 * nS + 1, cells := 0, slots := 0, locals := 400 + 67 * nS + 22 } : Room) s m args below meth c H locs 0 0 (MQ below (va_Qv (fun (u : va_W) => wF ty ad o2 = u) (kz_B D ty A) A) args s 0 0 A) (F0 m 52 ls [.ref (eo (1 + 3)), .ref (ad 24)]) := by
  have C0 := C
  obtain ⟨hx, hb, hr, hts, hown, hlocks, hml, hK, hN, hE, hA⟩ := C
  unfold zX4_readPart_s24_52 at h
  obtain ⟨r1, q3, h2, h⟩ := dB_some h
  refine dw_ki (va_runV (As := [.ref (eo (1 + 3))]) (rest := []) ⟨hx, hb, hml, hown, hts⟩ (qX4_wordIn_s24_t3 l D ty eo _ ad q  r1 q3 h2) (cwV 1 hts gX4_readPart_X4_wordIn rfl rfl rfl hd_X4_wordIn_v ⟨by dsimp only [headSpec]; omega, by dsimp only [headSpec]; omega⟩) (pvF_4_24 hK hN hE hP hD hS hA) rfl rfl hl.1 rfl (lv_room (Nat.le_of_ble_eq_true rfl)) dX4_readPart_52 ⟨Nat.le_of_ble_eq_true rfl, Nat.le_of_ble_eq_true rfl⟩) hD hS hA (fun r9 u9 H locs hw hp hd hs => ?_)
  clear hP hD hS
  obtain ⟨rfl, rfl⟩ := hw
  have hP := hp; have hD := hd; have hS := hs; clear hp hd hs
  refine lv_istore_n (lv' := [(1, .int r1), (0, .ref (ad 24))]) hx hb dX4_readPart_55 rfl hl (by decide) rfl (fun ls hl => ?_)
  refine lv_aload_n hx hb dX4_readPart_56 rfl (lv_at hl 1 rfl) ?_
  refine va_get (D := D) (ci := 4) (v := .int (q3.1 24 4)) (C := RX4) (T := TX4) (N := 11) hx hb hts u9_wsX4_readPart_X4 hown hK hP 24 rfl rfl 4 (by decide) (hts (.fieldLink RX4 27 "TurnedFloors$Reader" "token" "I") f9_wsX4_readPart_509) (fun _ h9 => h9) rfl dX4_readPart_57 ?_
  refine lv_iconst (v := 2) hx hb dX4_readPart_60 (by decide) ?_
  refine lv_icmp_ne (tgt := 78) hx hb dX4_readPart_61 (by decide) (fun c9 => ?_) (fun c9 => ?_)
  · rw [if_neg c9] at h
    exact WX4_readPart_s24_78 hkS C0  _ _ _ _ _ h hP hD hS (lv_sub hl [1, 0] rfl)
  · rw [if_pos c9] at h
    refine lv_aload_n hx hb dX4_readPart_64 rfl (lv_at hl 1 rfl) ?_
    refine va_get (D := D) (ci := 4) (v := .int (q3.1 24 7)) (C := RX4) (T := TX4) (N := 11) hx hb hts u9_wsX4_readPart_X4 hown hK hP 24 rfl rfl 7 (by decide) (hts (.fieldLink RX4 36 "TurnedFloors$Reader" "number" "I") f9_wsX4_readPart_507) (fun _ h9 => h9) rfl dX4_readPart_65 ?_
    refine lv_sipush (v := 1000) hx hb dX4_readPart_68 (by decide) ?_
    refine lv_icmp_gt (tgt := 78) hx hb dX4_readPart_71 (by decide) (fun c9 => ?_) (fun c9 => ?_)
    · rw [if_pos c9] at h
      exact WX4_readPart_s24_78 hkS C0  _ _ _ _ _ h hP hD hS (lv_sub hl [1, 0] rfl)
    · rw [if_neg c9] at h
      refine lv_iconst (v := 1) hx hb dX4_readPart_74 (by decide) ?_
      refine lv_goto (tgt := 79) hx hb dX4_readPart_75 (by decide) ?_
      exact WX4_readPart_s24_79 hkS C0  _ _ _ _ _ _ h hP hD hS (lv_sub hl [1, 0] rfl)
set_option maxHeartbeats 4000000 in
set_option maxRecDepth 100000 in
theorem WX4_readPart_s24_36 {p : Program} {l : Launch} {e : Env} {s : State} {m : MethodId} {args : Array Value} {below : List Frame} {meth : Method} {c : Code} {D : va_G} {ty : Nat → ClassId} {eo : Nat → Nat} {A : Nat → Prop} {ad : Nat → Nat} {o2 : dK} {kS : dK → Option (dK)} {nS : Nat} (hkS : ∀ (sz : Nat) (q : dK)  (o2 : dK), kS q  = some o2 → Met l yX4_readSum wsX4_readSum ({ frames := 12 + 3 * nS, cells := 0, slots := 0, locals := 400 + 67 * nS } : Room) (va_Pc [.ref (ad 24)] (kz_pre D ty eo (wF ty ad q) sz)) (va_Qv (fun (u : va_W) => wF ty ad o2 = u) (kz_B D ty (va_A (wF ty ad q) sz)) (va_A (wF ty ad q) sz)) 0 0 (va_A (wF ty ad q) sz)) (C : dc_C p s m args meth c cX4_readPart none 4 RX4 wsX4_readPart D ty eo A)   (q : dK)  (H : Heap) (locs : List Loc) (ls : Array Slot) (h : zX4_readPart_s24_36 kS  q = some o2) (hP : va_P D vwCl (wF ty ad q) H) (hD : va_D A (wF ty ad q)) (hS : va_S A s.heap H locs) (hl : lv_has ls 4 []) : W p l e ({ frames := 12 + 3 * nS + 1, cells := 0, slots := 0, locals := 400 + 67 * nS + 22 } : Room) s m args below meth c H locs 0 0 (MQ below (va_Qv (fun (u : va_W) => wF ty ad o2 = u) (kz_B D ty A) A) args s 0 0 A) (F0 m 36 ls []) := by
  have C0 := C
  obtain ⟨hx, hb, hr, hts, hown, hlocks, hml, hK, hN, hE, hA⟩ := C
  unfold zX4_readPart_s24_36 at h
  cases h
  exact kz_vret hx hb hr hlocks hP hK hD hS dX4_readPart_36 rfl
set_option maxHeartbeats 4000000 in
set_option maxRecDepth 100000 in
theorem qX4_readPart_s24 (l : Launch) (D : va_G) (ty : Nat → ClassId) (eo : Nat → Nat) (sz : Nat) (ad : Nat → Nat) (kS : dK → Option (dK)) (nS : Nat) (hkS : ∀ (sz : Nat) (q : dK)  (o2 : dK), kS q  = some o2 → Met l yX4_readSum wsX4_readSum ({ frames := 12 + 3 * nS, cells := 0, slots := 0, locals := 400 + 67 * nS } : Room) (va_Pc [.ref (ad 24)] (kz_pre D ty eo (wF ty ad q) sz)) (va_Qv (fun (u : va_W) => wF ty ad o2 = u) (kz_B D ty (va_A (wF ty ad q) sz)) (va_A (wF ty ad q) sz)) 0 0 (va_A (wF ty ad q) sz)) (q : dK)  (o2 : dK) (h : zX4_readPart_s24 kS q = some o2) : Met l yX4_readPart wsX4_readPart ({ frames := 12 + 3 * nS + 1, cells := 0, slots := 0, locals := 400 + 67 * nS + 22 } : Room) (va_Pc [.ref (ad 24)] (kz_pre D ty eo (wF ty ad q) sz)) (va_Qv (fun (u : va_W) => wF ty ad o2 = u) (kz_B D ty (va_A (wF ty ad q) sz)) (va_A (wF ty ad q) sz)) 0 0 (va_A (wF ty ad q) sz) := by
  refine Met.ofW (cc := cX4_readPart) (maxL := 4) (ret := none) (by decide) rfl ?_
  intro p e s m args below meth c s₁ B hml hv
  obtain ⟨rfl, hsz, hP, hK, hD0, hN, hE⟩ := hv
  have hx := B.exec
  have hb := B.bytes
  have hr := B.returns
  have hts := atoms_spec (ws := wsX4_readPart) B.pre
  have hown : s.vm.findClass RX4 = some m.cls := findClass_of_methodNamed B.named
  have hlocks := B.notSynchronized
  subst hsz
  have hD := hD0.self (sz := s.heap.size)
  generalize hAe : va_A (wF ty ad q) s.heap.size = A at hD hE ⊢
  have hA : ∀ q : Nat, s.heap.size ≤ q → A q := fun q h => by rw [← hAe]; exact Or.inr h
  clear hAe
  have hS : va_S A s.heap s.heap [] := va_S.rf
  have hl := lv_entry ([.ref (ad 24)]) (n := 4) (Nat.le_of_ble_eq_true rfl)
  rw [lg_entry_eq]
  generalize (lg_sl ([.ref (ad 24)]) ++ List.replicate (4 - (lg_sl ([.ref (ad 24)])).length) Slot.unset).toArray = ls at hl ⊢
  have hl : lv_has ls 4 [(0, .ref (ad 24))] := hl
  have C : dc_C p s m _ meth c cX4_readPart none 4 RX4 wsX4_readPart D ty eo A := ⟨hx, hb, hr, hts, hown, hlocks, hml, hK, hN, hE, hA⟩
  unfold zX4_readPart_s24 at h
  refine lv_aload_n hx hb dX4_readPart_0 rfl (lv_at hl 0 rfl) ?_
  refine lv_bipush (v := 91) hx hb dX4_readPart_1 (by decide) ?_
  obtain ⟨r1, q3, h2, h⟩ := dB_some h
  refine dw_ki (va_runV (As := [.int 91]) (rest := []) ⟨hx, hb, hml, hown, hts⟩ (qX4_isSign_s24 l D ty eo _ ad q 91 r1 q3 h2) (cwV 1 hts gX4_readPart_X4_isSign rfl rfl rfl hd_X4_isSign_v ⟨by dsimp only [headSpec]; omega, by dsimp only [headSpec]; omega⟩) (pvF_4_24 hK hN hE hP hD hS hA) rfl rfl hl.1 rfl (lv_room (Nat.le_of_ble_eq_true rfl)) dX4_readPart_3 ⟨Nat.le_of_ble_eq_true rfl, Nat.le_of_ble_eq_true rfl⟩) hD hS hA (fun r9 u9 H locs hw hp hd hs => ?_)
  clear hP hD hS
  obtain ⟨rfl, rfl⟩ := hw
  have hP := hp; have hD := hd; have hS := hs; clear hp hd hs
  refine lv_if_eq (tgt := 37) hx hb dX4_readPart_6 (by decide) (fun c9 => ?_) (fun c9 => ?_)
  · rw [if_pos c9] at h
    refine lv_aload_n hx hb dX4_readPart_37 rfl (lv_at hl 0 rfl) ?_
    refine lv_aload_n hx hb dX4_readPart_38 rfl (lv_at hl 0 rfl) ?_
    refine va_get (D := D) (ci := 4) (v := .int (q3.1 24 2)) (C := RX4) (T := TX4) (N := 11) hx hb hts (by decide +kernel) hown hK hP 24 rfl rfl 2 (by decide) (hts (.fieldLink RX4 19 "TurnedFloors$Reader" "ofOrders" "Z") (by decide +kernel)) (fun _ h9 => h9) rfl dX4_readPart_39 ?_
    refine lv_if_eq (tgt := 50) hx hb dX4_readPart_42 (by decide) (fun c9 => ?_) (fun c9 => ?_)
    · rw [if_pos c9] at h
      refine va_ldcS hx hb hown (hE.2.2.2.2.1 3 (by decide)) dX4_readPart_50 ?_
      exact WX4_readPart_s24_52 hkS C  _ _ _ _ h hP hD hS (lv_sub hl [0] rfl)
    · rw [if_neg c9] at h
      refine va_ldcS hx hb hown (hE.2.2.2.2.1 2 (by decide)) dX4_readPart_45 ?_
      refine lv_goto (tgt := 52) hx hb dX4_readPart_47 (by decide) ?_
      obtain ⟨r4, q6, h5, h⟩ := dB_some h
      refine dw_ki (va_runV (As := [.ref (eo (1 + 2))]) (rest := []) ⟨hx, hb, hml, hown, hts⟩ (qX4_wordIn_s24_t2 l D ty eo _ ad q3  r4 q6 h5) (cwV 1 hts gX4_readPart_X4_wordIn rfl rfl rfl hd_X4_wordIn_v ⟨by dsimp only [headSpec]; omega, by dsimp only [headSpec]; omega⟩) (pvF_4_24 hK hN hE hP hD hS hA) rfl rfl hl.1 rfl (lv_room (Nat.le_of_ble_eq_true rfl)) dX4_readPart_52 ⟨Nat.le_of_ble_eq_true rfl, Nat.le_of_ble_eq_true rfl⟩) hD hS hA (fun r9 u9 H locs hw hp hd hs => ?_)
      clear hP hD hS
      obtain ⟨rfl, rfl⟩ := hw
      have hP := hp; have hD := hd; have hS := hs; clear hp hd hs
      refine lv_istore_n (lv' := [(1, .int r4), (0, .ref (ad 24))]) hx hb dX4_readPart_55 rfl hl (by decide) rfl (fun ls hl => ?_)
      refine lv_aload_n hx hb dX4_readPart_56 rfl (lv_at hl 1 rfl) ?_
      refine va_get (D := D) (ci := 4) (v := .int (q6.1 24 4)) (C := RX4) (T := TX4) (N := 11) hx hb hts (by decide +kernel) hown hK hP 24 rfl rfl 4 (by decide) (hts (.fieldLink RX4 27 "TurnedFloors$Reader" "token" "I") (by decide +kernel)) (fun _ h9 => h9) rfl dX4_readPart_57 ?_
      refine lv_iconst (v := 2) hx hb dX4_readPart_60 (by decide) ?_
      refine lv_icmp_ne (tgt := 78) hx hb dX4_readPart_61 (by decide) (fun c9 => ?_) (fun c9 => ?_)
      · rw [if_neg c9] at h
        exact WX4_readPart_s24_78 hkS C  _ _ _ _ _ h hP hD hS (lv_sub hl [1, 0] rfl)
      · rw [if_pos c9] at h
        refine lv_aload_n hx hb dX4_readPart_64 rfl (lv_at hl 1 rfl) ?_
        refine va_get (D := D) (ci := 4) (v := .int (q6.1 24 7)) (C := RX4) (T := TX4) (N := 11) hx hb hts (by decide +kernel) hown hK hP 24 rfl rfl 7 (by decide) (hts (.fieldLink RX4 36 "TurnedFloors$Reader" "number" "I") (by decide +kernel)) (fun _ h9 => h9) rfl dX4_readPart_65 ?_
        refine lv_sipush (v := 1000) hx hb dX4_readPart_68 (by decide) ?_
        refine lv_icmp_gt (tgt := 78) hx hb dX4_readPart_71 (by decide) (fun c9 => ?_) (fun c9 => ?_)
        · rw [if_pos c9] at h
          exact WX4_readPart_s24_78 hkS C  _ _ _ _ _ h hP hD hS (lv_sub hl [1, 0] rfl)
        · rw [if_neg c9] at h
          refine lv_iconst (v := 1) hx hb dX4_readPart_74 (by decide) ?_
          refine lv_goto (tgt := 79) hx hb dX4_readPart_75 (by decide) ?_
          exact WX4_readPart_s24_79 hkS C  _ _ _ _ _ _ h hP hD hS (lv_sub hl [1, 0] rfl)
  · rw [if_neg c9] at h
    refine lv_aload_n hx hb dX4_readPart_9 rfl (lv_at hl 0 rfl) ?_
    obtain ⟨r7, q9, h8, h⟩ := dB_some h
    refine dw_ki (va_runV (As := []) (rest := []) ⟨hx, hb, hml, hown, hts⟩ (qX4_openBracket_s24 l D ty eo _ ad q3  r7 q9 h8) (cwV 0 hts gX4_readPart_X4_openBracket rfl rfl rfl hd_X4_openBracket_v ⟨by dsimp only [headSpec]; omega, by dsimp only [headSpec]; omega⟩) (pvF_4_24 hK hN hE hP hD hS hA) rfl rfl hl.1 rfl (lv_room (Nat.le_of_ble_eq_true rfl)) dX4_readPart_10 ⟨Nat.le_of_ble_eq_true rfl, Nat.le_of_ble_eq_true rfl⟩) hD hS hA (fun r9 u9 H locs hw hp hd hs => ?_)
    clear hP hD hS
    obtain ⟨rfl, rfl⟩ := hw
    have hP := hp; have hD := hd; have hS := hs; clear hp hd hs
    refine lv_if_eq (tgt := 36) hx hb dX4_readPart_13 (by decide) (fun c9 => ?_) (fun c9 => ?_)
    · rw [if_pos c9] at h
      exact WX4_readPart_s24_36 hkS C  _ _ _ _ h hP hD hS (lv_sub hl [] rfl)
    · rw [if_neg c9] at h
      refine lv_aload_n hx hb dX4_readPart_16 rfl (lv_at hl 0 rfl) ?_
      obtain ⟨q12, h11, h⟩ := dV_some h
      refine dw_kv (va_runV (As := []) (rest := []) ⟨hx, hb, hml, hown, hts⟩ (hkS _ q9  q12 h11) (cwV 0 hts gX4_readPart_X4_readSum rfl rfl rfl hd_X4_readSum_v ⟨by dsimp only [headSpec]; omega, by dsimp only [headSpec]; omega⟩) (pvF_4_24 hK hN hE hP hD hS hA) rfl rfl hl.1 rfl (lv_room (Nat.le_of_ble_eq_true rfl)) dX4_readPart_17 ⟨Nat.le_of_ble_eq_true rfl, Nat.le_of_ble_eq_true rfl⟩) hD hS hA (fun u9 H locs hw hp hd hs => ?_)
      clear hP hD hS
      obtain rfl := hw
      have hP := hp; have hD := hd; have hS := hs; clear hp hd hs
      refine lv_aload_n hx hb dX4_readPart_20 rfl (lv_at hl 0 rfl) ?_
      refine lv_dup hx hb dX4_readPart_21 rfl ?_
      refine va_get (D := D) (ci := 4) (v := .int (q12.1 24 9)) (C := RX4) (T := TX4) (N := 11) hx hb hts (by decide +kernel) hown hK hP 24 rfl rfl 9 (by decide) (hts (.fieldLink RX4 42 "TurnedFloors$Reader" "open" "I") (by decide +kernel)) (fun _ h9 => h9) rfl dX4_readPart_22 ?_
      refine lv_iconst (v := 1) hx hb dX4_readPart_25 (by decide) ?_
      refine lv_isub hx hb dX4_readPart_26 ?_
      refine va_put (D := D) (ci := 4) (v := .int ((q12.1 24 9) - 1 : Int32)) (ty := .int) (C := RX4) (T := TX4) (N := 11) hx hb hts (by decide +kernel) tyX4 tyX4_ok nmX4 hown hK hP hD hS 24 rfl rfl 9 (by decide) (hts (.fieldLink RX4 42 "TurnedFloors$Reader" "open" "I") (by decide +kernel)) (fun _ h9 => h9) rfl (by decide +kernel) rfl rfl (Nat.le_of_ble_eq_true rfl) dX4_readPart_27 (fun H locs hp hd hs => ?_)
      obtain ⟨q13, eq13, h⟩ := dL_some h
      refine kz_re (w2 := wF ty ad q13) hp hd hs (by rw [← eq13]; exact wF_f24_9 ty ad q12 ((q12.1 24 9) - 1 : Int32)) ?_
      clear hp hd hs hP hD hS
      intro hP hD hS
      refine lv_aload_n hx hb dX4_readPart_30 rfl (lv_at hl 0 rfl) ?_
      refine lv_bipush (v := 93) hx hb dX4_readPart_31 (by decide) ?_
      obtain ⟨q16, h15, h⟩ := dV_some h
      refine dw_kv (va_runV (As := [.int 93]) (rest := []) ⟨hx, hb, hml, hown, hts⟩ (qX4_expectSign_s24 l D ty eo _ ad q13 93 q16 h15) (cwV 1 hts gX4_readPart_X4_expectSign rfl rfl rfl hd_X4_expectSign_v ⟨by dsimp only [headSpec]; omega, by dsimp only [headSpec]; omega⟩) (pvF_4_24 hK hN hE hP hD hS hA) rfl rfl hl.1 rfl (lv_room (Nat.le_of_ble_eq_true rfl)) dX4_readPart_33 ⟨Nat.le_of_ble_eq_true rfl, Nat.le_of_ble_eq_true rfl⟩) hD hS hA (fun u9 H locs hw hp hd hs => ?_)
      clear hP hD hS
      obtain rfl := hw
      have hP := hp; have hD := hd; have hS := hs; clear hp hd hs
      exact WX4_readPart_s24_36 hkS C  _ _ _ _ h hP hD hS (lv_sub hl [] rfl)

set_option maxHeartbeats 4000000 in
set_option maxRecDepth 100000 in
theorem WX4_signIn_s24_t4_2b {p : Program} {l : Launch} {e : Env} {s : State} {m : MethodId} {args : Array Value} {below : List Frame} {meth : Method} {c : Code} {D : va_G} {ty : Nat → ClassId} {eo : Nat → Nat} {A : Nat → Prop} {ad : Nat → Nat} {o1 : Int32} {o2 : dK} (C : dc_C p s m args meth c cX4_signIn (some .int) 4 RX4 wsX4_signIn D ty eo A) {k2 : dK → Int32 → Int32 → Option (Int32 × dK)} (hk2 : ∀ (q : dK) (x2 : Int32) (x3 : Int32) (H : Heap) (locs : List Loc) (ls : Array Slot), k2 q x2 x3 = some (o1, o2) → va_P D vwCl (wF ty ad q) H → va_D A (wF ty ad q) → va_S A s.heap H locs → lv_has ls 4 [(0, .ref (ad 24)), (1, .ref (eo (1 + 4))), (2, .int x2), (3, .int x3)] → W p l e ({ frames := 4, cells := 0, slots := 0, locals := 85 } : Room) s m args below meth c H locs 0 0 (MQ below (va_Qi (fun (r : Int32) (u : va_W) => o1 = r ∧ wF ty ad o2 = u) (kz_B D ty A) A) args s 0 0 A) (F0 m 2 ls [])) (q : dK) (x2 : Int32) (x3 : Int32) (H : Heap) (locs : List Loc) (ls : Array Slot) (h : zX4_signIn_s24_t4_2b k2 q x2 x3 = some (o1, o2)) (hP : va_P D vwCl (wF ty ad q) H) (hD : va_D A (wF ty ad q)) (hS : va_S A s.heap H locs) (hl : lv_has ls 4 [(0, .ref (ad 24)), (1, .ref (eo (1 + 4))), (2, .int x2), (3, .int x3)]) : W p l e ({ frames := 4, cells := 0, slots := 0, locals := 85 } : Room) s m args below meth c H locs 0 0 (MQ below (va_Qi (fun (r : Int32) (u : va_W) => o1 = r ∧ wF ty ad o2 = u) (kz_B D ty A) A) args s 0 0 A) (F0 m 2 ls []) := by
  have C0 := C
  obtain ⟨hx, hb, hr, hts, hown, hlocks, hml, hK, hN, hE, hA⟩ := C
  unfold zX4_signIn_s24_t4_2b at h
  refine lv_iload_n hx hb dX4_signIn_2 rfl (lv_at hl 3 rfl) ?_
  refine lv_aload_n hx hb dX4_signIn_3 rfl (lv_at hl 1 rfl) ?_
  refine dw_ks (va_runV (As := []) (rest := [.int x3]) ⟨hx, hb, hml, hown, hts⟩ (kcJ0le l D ty eo _ 4 (by decide)) (cwV 0 hts gX4_signIn_J0_length_8abf5 rfl rfl rfl hd_J0_length_8abf5_v ⟨Nat.le_of_ble_eq_true rfl, Nat.le_of_ble_eq_true rfl⟩) (kz_preT hK hN hE hP hD hS hA 4 (by decide) [] (by decide) rfl) rfl rfl hl.1 rfl (lv_room (Nat.le_of_ble_eq_true rfl)) dX4_signIn_4 ⟨Nat.le_of_ble_eq_true rfl, Nat.le_of_ble_eq_true rfl⟩) hP hD hS hA (fun _ _ h9 => h9.2.symm) (fun r9 u9 H locs hw hp hd hs => ?_)
  obtain ⟨rfl, -⟩ := hw
  clear hP hD hS
  have hP := hp; have hD := hd; have hS := hs; clear hp hd hs
  refine kz_topi 3 (by decide +kernel) ?_
  refine lv_icmp_ge (tgt := 32) hx hb dX4_signIn_7 (by decide) (fun c9 => ?_) (fun c9 => ?_)
  · rw [if_pos c9] at h
    refine lv_iconst (v := (-1)) hx hb dX4_signIn_32 (by decide) ?_
    cases h
    exact kz_iret hx hb hr hlocks hP hK hD hS dX4_signIn_33 ⟨rfl, rfl⟩
  · rw [if_neg c9] at h
    refine lv_aload_n hx hb dX4_signIn_10 rfl (lv_at hl 0 rfl) ?_
    refine lv_aload_n hx hb dX4_signIn_11 rfl (lv_at hl 1 rfl) ?_
    refine lv_iload_n hx hb dX4_signIn_12 rfl (lv_at hl 3 rfl) ?_
    obtain ⟨g1, h⟩ := dG_some h
    refine dw_ks (va_runV (As := [.int x3]) (rest := [.ref (ad 24)]) ⟨hx, hb, hml, hown, hts⟩ (kcJ0ch l D ty eo _ 4 (by decide) x3 (dg_in g1)) (cwV 1 hts gX4_signIn_J0_charAt_5068e rfl rfl rfl hd_J0_charAt_5068e_v ⟨Nat.le_of_ble_eq_true rfl, Nat.le_of_ble_eq_true rfl⟩) (kz_preT hK hN hE hP hD hS hA 4 (by decide) [] (by decide) rfl) rfl rfl hl.1 rfl (lv_room (Nat.le_of_ble_eq_true rfl)) dX4_signIn_13 ⟨Nat.le_of_ble_eq_true rfl, Nat.le_of_ble_eq_true rfl⟩) hP hD hS hA (fun _ _ h9 => h9.2.symm) (fun r9 u9 H locs hw hp hd hs => ?_)
    obtain ⟨rfl, -⟩ := hw
    clear hP hD hS
    have hP := hp; have hD := hd; have hS := hs; clear hp hd hs
    obtain ⟨v2, ev2, h⟩ := dL_some h
    refine kz_topi v2 ev2 ?_
    obtain ⟨r3, q5, h4, h⟩ := dB_some h
    refine dw_ki (va_runV (As := [.int v2]) (rest := []) ⟨hx, hb, hml, hown, hts⟩ (qX4_isSign_s24 l D ty eo _ ad q v2 r3 q5 h4) (cwV 1 hts gX4_signIn_X4_isSign rfl rfl rfl hd_X4_isSign_v ⟨Nat.le_of_ble_eq_true rfl, Nat.le_of_ble_eq_true rfl⟩) (pvF_4_24 hK hN hE hP hD hS hA) rfl rfl hl.1 rfl (lv_room (Nat.le_of_ble_eq_true rfl)) dX4_signIn_16 ⟨Nat.le_of_ble_eq_true rfl, Nat.le_of_ble_eq_true rfl⟩) hD hS hA (fun r9 u9 H locs hw hp hd hs => ?_)
    clear hP hD hS
    obtain ⟨rfl, rfl⟩ := hw
    have hP := hp; have hD := hd; have hS := hs; clear hp hd hs
    refine lv_if_eq (tgt := 26) hx hb dX4_signIn_19 (by decide) (fun c9 => ?_) (fun c9 => ?_)
    · rw [if_pos c9] at h
      refine lv_iinc (v := x3 + 1) (lv' := [(3, .int (x3 + 1)), (0, .ref (ad 24)), (1, .ref (eo (1 + 4))), (2, .int x2)]) hx hb dX4_signIn_26 hl (k := 3) rfl rfl (by decide) rfl (fun ls hl => ?_)
      refine lv_goto (tgt := 2) hx hb dX4_signIn_29 (by decide) ?_
      exact hk2 _ _ _ _ _ _ h hP hD hS (lv_sub hl [1, 2, 3, 0] rfl)
    · rw [if_neg c9] at h
      refine lv_iload_n hx hb dX4_signIn_22 rfl (lv_at hl 2 rfl) ?_
      refine lv_iload_n hx hb dX4_signIn_23 rfl (lv_at hl 3 rfl) ?_
      refine lv_iadd hx hb dX4_signIn_24 ?_
      cases h
      exact kz_iret hx hb hr hlocks hP hK hD hS dX4_signIn_25 ⟨rfl, rfl⟩
set_option maxHeartbeats 4000000 in
set_option maxRecDepth 100000 in
theorem WX4_signIn_s24_t4_2 {p : Program} {l : Launch} {e : Env} {s : State} {m : MethodId} {args : Array Value} {below : List Frame} {meth : Method} {c : Code} {D : va_G} {ty : Nat → ClassId} {eo : Nat → Nat} {A : Nat → Prop} {ad : Nat → Nat} {o1 : Int32} {o2 : dK} (C : dc_C p s m args meth c cX4_signIn (some .int) 4 RX4 wsX4_signIn D ty eo A)   (n : Nat) (q : dK) (x2 : Int32) (x3 : Int32) (H : Heap) (locs : List Loc) (ls : Array Slot) (h : zX4_signIn_s24_t4_2  n q x2 x3 = some (o1, o2)) (hP : va_P D vwCl (wF ty ad q) H) (hD : va_D A (wF ty ad q)) (hS : va_S A s.heap H locs) (hl : lv_has ls 4 [(0, .ref (ad 24)), (1, .ref (eo (1 + 4))), (2, .int x2), (3, .int x3)]) : W p l e ({ frames := 4, cells := 0, slots := 0, locals := 85 } : Room) s m args below meth c H locs 0 0 (MQ below (va_Qi (fun (r : Int32) (u : va_W) => o1 = r ∧ wF ty ad o2 = u) (kz_B D ty A) A) args s 0 0 A) (F0 m 2 ls []) := by
  exact dFix_W (F := fun k (a : dK × Int32 × Int32) => zX4_signIn_s24_t4_2b  (fun q x2 x3 => k (q, x2, x3)) a.1 a.2.1 a.2.2) (o := (o1, o2)) (P := fun (a : dK × Int32 × Int32) H locs ls => va_P D vwCl (wF ty ad a.1) H ∧ va_D A (wF ty ad a.1) ∧ va_S A s.heap H locs ∧ lv_has ls 4 [(0, .ref (ad 24)), (1, .ref (eo (1 + 4))), (2, .int a.2.1), (3, .int a.2.2)]) (G := fun H locs ls => W p l e ({ frames := 4, cells := 0, slots := 0, locals := 85 } : Room) s m args below meth c H locs 0 0 (MQ below (va_Qi (fun (r : Int32) (u : va_W) => o1 = r ∧ wF ty ad o2 = u) (kz_B D ty A) A) args s 0 0 A) (F0 m 2 ls []))
    (fun k hk a H locs ls h hp => WX4_signIn_s24_t4_2b C  (fun q x2 x3 H locs ls h h1 h2 h3 h4 => hk (q, x2, x3) H locs ls h ⟨h1, h2, h3, h4⟩) a.1 a.2.1 a.2.2 H locs ls h hp.1 hp.2.1 hp.2.2.1 hp.2.2.2) n (q, x2, x3) H locs ls h ⟨hP, hD, hS, hl⟩
set_option maxHeartbeats 4000000 in
set_option maxRecDepth 100000 in
theorem qX4_signIn_s24_t4 (l : Launch) (D : va_G) (ty : Nat → ClassId) (eo : Nat → Nat) (sz : Nat) (ad : Nat → Nat) (q : dK) (p2 : Int32) (o1 : Int32) (o2 : dK) (h : zX4_signIn_s24_t4 q p2 = some (o1, o2)) : Met l yX4_signIn wsX4_signIn ({ frames := 4, cells := 0, slots := 0, locals := 85 } : Room) (va_Pc [.ref (ad 24), .ref (eo (1 + 4)), .int p2] (kz_pre D ty eo (wF ty ad q) sz)) (va_Qi (fun (r : Int32) (u : va_W) => o1 = r ∧ wF ty ad o2 = u) (kz_B D ty (va_A (wF ty ad q) sz)) (va_A (wF ty ad q) sz)) 0 0 (va_A (wF ty ad q) sz) := by
  refine Met.ofW (cc := cX4_signIn) (maxL := 4) (ret := (some .int)) (by decide) rfl ?_
  intro p e s m args below meth c s₁ B hml hv
  obtain ⟨rfl, hsz, hP, hK, hD0, hN, hE⟩ := hv
  have hx := B.exec
  have hb := B.bytes
  have hr := B.returns
  have hts := atoms_spec (ws := wsX4_signIn) B.pre
  have hown : s.vm.findClass RX4 = some m.cls := findClass_of_methodNamed B.named
  have hlocks := B.notSynchronized
  subst hsz
  have hD := hD0.self (sz := s.heap.size)
  generalize hAe : va_A (wF ty ad q) s.heap.size = A at hD hE ⊢
  have hA : ∀ q : Nat, s.heap.size ≤ q → A q := fun q h => by rw [← hAe]; exact Or.inr h
  clear hAe
  have hS : va_S A s.heap s.heap [] := va_S.rf
  have hl := lv_entry ([.ref (ad 24), .ref (eo (1 + 4)), .int p2]) (n := 4) (Nat.le_of_ble_eq_true rfl)
  rw [lg_entry_eq]
  generalize (lg_sl ([.ref (ad 24), .ref (eo (1 + 4)), .int p2]) ++ List.replicate (4 - (lg_sl ([.ref (ad 24), .ref (eo (1 + 4)), .int p2])).length) Slot.unset).toArray = ls at hl ⊢
  have hl : lv_has ls 4 [(0, .ref (ad 24)), (1, .ref (eo (1 + 4))), (2, .int p2)] := hl
  have C : dc_C p s m _ meth c cX4_signIn (some .int) 4 RX4 wsX4_signIn D ty eo A := ⟨hx, hb, hr, hts, hown, hlocks, hml, hK, hN, hE, hA⟩
  unfold zX4_signIn_s24_t4 at h
  refine lv_iconst (v := 0) hx hb dX4_signIn_0 (by decide) ?_
  refine lv_istore_n (lv' := [(3, .int 0), (0, .ref (ad 24)), (1, .ref (eo (1 + 4))), (2, .int p2)]) hx hb dX4_signIn_1 rfl hl (by decide) rfl (fun ls hl => ?_)
  exact WX4_signIn_s24_t4_2 C  _ _ _ _ _ _ _ h hP hD hS (lv_sub hl [1, 2, 3, 0] rfl)

set_option maxHeartbeats 4000000 in
set_option maxRecDepth 100000 in
theorem WX4_readTerm_s24_59 {p : Program} {l : Launch} {e : Env} {s : State} {m : MethodId} {args : Array Value} {below : List Frame} {meth : Method} {c : Code} {D : va_G} {ty : Nat → ClassId} {eo : Nat → Nat} {A : Nat → Prop} {ad : Nat → Nat} {o2 : dK} {kS : dK → Option (dK)} {nS : Nat} (hkS : ∀ (sz : Nat) (q : dK)  (o2 : dK), kS q  = some o2 → Met l yX4_readSum wsX4_readSum ({ frames := 12 + 3 * nS, cells := 0, slots := 0, locals := 400 + 67 * nS } : Room) (va_Pc [.ref (ad 24)] (kz_pre D ty eo (wF ty ad q) sz)) (va_Qv (fun (u : va_W) => wF ty ad o2 = u) (kz_B D ty (va_A (wF ty ad q) sz)) (va_A (wF ty ad q) sz)) 0 0 (va_A (wF ty ad q) sz)) (C : dc_C p s m args meth c cX4_readTerm none 3 RX4 wsX4_readTerm D ty eo A)   (q : dK)  (H : Heap) (locs : List Loc) (ls : Array Slot) (h : zX4_readTerm_s24_59 kS  q = some o2) (hP : va_P D vwCl (wF ty ad q) H) (hD : va_D A (wF ty ad q)) (hS : va_S A s.heap H locs) (hl : lv_has ls 3 []) : W p l e ({ frames := 12 + 3 * nS + 2, cells := 0, slots := 0, locals := 400 + 67 * nS + 45 } : Room) s m args below meth c H locs 0 0 (MQ below (va_Qv (fun (u : va_W) => wF ty ad o2 = u) (kz_B D ty A) A) args s 0 0 A) (F0 m 59 ls []) := by
  have C0 := C
  obtain ⟨hx, hb, hr, hts, hown, hlocks, hml, hK, hN, hE, hA⟩ := C
  unfold zX4_readTerm_s24_59 at h
  cases h
  exact kz_vret hx hb hr hlocks hP hK hD hS dX4_readTerm_59 rfl
set_option maxHeartbeats 4000000 in
set_option maxRecDepth 100000 in
theorem WX4_readTerm_s24_6b {p : Program} {l : Launch} {e : Env} {s : State} {m : MethodId} {args : Array Value} {below : List Frame} {meth : Method} {c : Code} {D : va_G} {ty : Nat → ClassId} {eo : Nat → Nat} {A : Nat → Prop} {ad : Nat → Nat} {o2 : dK} {kS : dK → Option (dK)} {nS : Nat} (hkS : ∀ (sz : Nat) (q : dK)  (o2 : dK), kS q  = some o2 → Met l yX4_readSum wsX4_readSum ({ frames := 12 + 3 * nS, cells := 0, slots := 0, locals := 400 + 67 * nS } : Room) (va_Pc [.ref (ad 24)] (kz_pre D ty eo (wF ty ad q) sz)) (va_Qv (fun (u : va_W) => wF ty ad o2 = u) (kz_B D ty (va_A (wF ty ad q) sz)) (va_A (wF ty ad q) sz)) 0 0 (va_A (wF ty ad q) sz)) (C : dc_C p s m args meth c cX4_readTerm none 3 RX4 wsX4_readTerm D ty eo A) {k6 : dK → Int32 → Option (dK)} (hk6 : ∀ (q : dK) (x1 : Int32) (H : Heap) (locs : List Loc) (ls : Array Slot), k6 q x1 = some o2 → va_P D vwCl (wF ty ad q) H → va_D A (wF ty ad q) → va_S A s.heap H locs → lv_has ls 3 [(0, .ref (ad 24)), (1, .int x1)] → W p l e ({ frames := 12 + 3 * nS + 2, cells := 0, slots := 0, locals := 400 + 67 * nS + 45 } : Room) s m args below meth c H locs 0 0 (MQ below (va_Qv (fun (u : va_W) => wF ty ad o2 = u) (kz_B D ty A) A) args s 0 0 A) (F0 m 6 ls [])) (q : dK) (x1 : Int32) (H : Heap) (locs : List Loc) (ls : Array Slot) (h : zX4_readTerm_s24_6b kS k6 q x1 = some o2) (hP : va_P D vwCl (wF ty ad q) H) (hD : va_D A (wF ty ad q)) (hS : va_S A s.heap H locs) (hl : lv_has ls 3 [(0, .ref (ad 24)), (1, .int x1)]) : W p l e ({ frames := 12 + 3 * nS + 2, cells := 0, slots := 0, locals := 400 + 67 * nS + 45 } : Room) s m args below meth c H locs 0 0 (MQ below (va_Qv (fun (u : va_W) => wF ty ad o2 = u) (kz_B D ty A) A) args s 0 0 A) (F0 m 6 ls []) := by
  have C0 := C
  obtain ⟨hx, hb, hr, hts, hown, hlocks, hml, hK, hN, hE, hA⟩ := C
  unfold zX4_readTerm_s24_6b at h
  refine lv_iload_n hx hb dX4_readTerm_6 rfl (lv_at hl 1 rfl) ?_
  refine lv_aload_n hx hb dX4_readTerm_7 rfl (lv_at hl 0 rfl) ?_
  refine va_get (D := D) (ci := 4) (v := .int (q.1 24 1)) (C := RX4) (T := TX4) (N := 11) hx hb hts u9_wsX4_readTerm_X4 hown hK hP 24 rfl rfl 1 (by decide) (hts (.fieldLink RX4 15 "TurnedFloors$Reader" "length" "I") f9_wsX4_readTerm_511) (fun _ h9 => h9) rfl dX4_readTerm_8 ?_
  refine lv_icmp_ge (tgt := 59) hx hb dX4_readTerm_11 (by decide) (fun c9 => ?_) (fun c9 => ?_)
  · rw [if_pos c9] at h
    exact WX4_readTerm_s24_59 hkS C0  _ _ _ _ h hP hD hS (lv_sub hl [] rfl)
  · rw [if_neg c9] at h
    refine lv_aload_n hx hb dX4_readTerm_14 rfl (lv_at hl 0 rfl) ?_
    refine va_get (D := D) (ci := 4) (v := .int (q.1 24 10)) (C := RX4) (T := TX4) (N := 11) hx hb hts u9_wsX4_readTerm_X4 hown hK hP 24 rfl rfl 10 (by decide) (hts (.fieldLink RX4 45 "TurnedFloors$Reader" "faultAt" "I") f9_wsX4_readTerm_512) (fun _ h9 => h9) rfl dX4_readTerm_15 ?_
    refine lv_iconst (v := (-1)) hx hb dX4_readTerm_18 (by decide) ?_
    refine lv_icmp_ne (tgt := 59) hx hb dX4_readTerm_19 (by decide) (fun c9 => ?_) (fun c9 => ?_)
    · rw [if_neg c9] at h
      exact WX4_readTerm_s24_59 hkS C0  _ _ _ _ h hP hD hS (lv_sub hl [] rfl)
    · rw [if_pos c9] at h
      refine lv_aload_n hx hb dX4_readTerm_22 rfl (lv_at hl 0 rfl) ?_
      refine va_ldcS hx hb hown (hE.2.2.2.2.1 4 (by decide)) dX4_readTerm_23 ?_
      refine lv_iconst (v := 4) hx hb dX4_readTerm_25 (by decide) ?_
      obtain ⟨r1, q3, h2, h⟩ := dB_some h
      refine dw_ki (va_runV (As := [.ref (eo (1 + 4)), .int 4]) (rest := []) ⟨hx, hb, hml, hown, hts⟩ (qX4_signIn_s24_t4 l D ty eo _ ad q 4 r1 q3 h2) (cwV 2 hts gX4_readTerm_X4_signIn rfl rfl rfl hd_X4_signIn_v ⟨by dsimp only [headSpec]; omega, by dsimp only [headSpec]; omega⟩) (pvF_4_24 hK hN hE hP hD hS hA) rfl rfl hl.1 rfl (lv_room (Nat.le_of_ble_eq_true rfl)) dX4_readTerm_26 ⟨Nat.le_of_ble_eq_true rfl, Nat.le_of_ble_eq_true rfl⟩) hD hS hA (fun r9 u9 H locs hw hp hd hs => ?_)
      clear hP hD hS
      obtain ⟨rfl, rfl⟩ := hw
      have hP := hp; have hD := hd; have hS := hs; clear hp hd hs
      refine lv_istore_n (lv' := [(2, .int r1), (0, .ref (ad 24)), (1, .int x1)]) hx hb dX4_readTerm_29 rfl hl (by decide) rfl (fun ls hl => ?_)
      refine lv_iload_n hx hb dX4_readTerm_30 rfl (lv_at hl 0 rfl) ?_
      refine lv_iconst (v := (-1)) hx hb dX4_readTerm_31 (by decide) ?_
      refine lv_icmp_ne (tgt := 36) hx hb dX4_readTerm_32 (by decide) (fun c9 => ?_) (fun c9 => ?_)
      · rw [if_neg c9] at h
        refine lv_aload_n hx hb dX4_readTerm_36 rfl (lv_at hl 1 rfl) ?_
        obtain ⟨q6, h5, h⟩ := dV_some h
        refine dw_kv (va_runV (As := []) (rest := []) ⟨hx, hb, hml, hown, hts⟩ (qX4_step_s24 l D ty eo _ ad q3  q6 h5) (cwV 0 hts gX4_readTerm_X4_step rfl rfl rfl hd_X4_step_v ⟨by dsimp only [headSpec]; omega, by dsimp only [headSpec]; omega⟩) (pvF_4_24 hK hN hE hP hD hS hA) rfl rfl hl.1 rfl (lv_room (Nat.le_of_ble_eq_true rfl)) dX4_readTerm_37 ⟨Nat.le_of_ble_eq_true rfl, Nat.le_of_ble_eq_true rfl⟩) hD hS hA (fun u9 H locs hw hp hd hs => ?_)
        clear hP hD hS
        obtain rfl := hw
        have hP := hp; have hD := hd; have hS := hs; clear hp hd hs
        refine lv_aload_n hx hb dX4_readTerm_40 rfl (lv_at hl 1 rfl) ?_
        obtain ⟨q9, h8, h⟩ := dV_some h
        refine dw_kv (va_runV (As := []) (rest := []) ⟨hx, hb, hml, hown, hts⟩ (qX4_readPart_s24 l D ty eo _ ad kS nS hkS q6  q9 h8) (cwV 0 hts gX4_readTerm_X4_readPart rfl rfl rfl hd_X4_readPart_v ⟨by dsimp only [headSpec]; omega, by dsimp only [headSpec]; omega⟩) (pvF_4_24 hK hN hE hP hD hS hA) rfl rfl hl.1 rfl (lv_room (Nat.le_of_ble_eq_true rfl)) dX4_readTerm_41 ⟨Nat.le_of_ble_eq_true rfl, Nat.le_of_ble_eq_true rfl⟩) hD hS hA (fun u9 H locs hw hp hd hs => ?_)
        clear hP hD hS
        obtain rfl := hw
        have hP := hp; have hD := hd; have hS := hs; clear hp hd hs
        refine lv_aload_n hx hb dX4_readTerm_44 rfl (lv_at hl 1 rfl) ?_
        refine va_get (D := D) (ci := 4) (v := dN (ad 25) (q9.1 24 3)) (C := RX4) (T := TX4) (N := 11) hx hb hts u9_wsX4_readTerm_X4 hown hK hP 24 rfl rfl 3 (by decide) (hts (.fieldLink RX4 23 "TurnedFloors$Reader" "text" "LTurnedFloors$Text;") f9_wsX4_readTerm_513) (fun _ h9 => h9) rfl dX4_readTerm_45 ?_
        obtain ⟨g10, h⟩ := dG_some h
        refine kz_topv (if_neg (dnz_ne g10)) ?_
        refine lv_iload_n hx hb dX4_readTerm_48 rfl (lv_at hl 0 rfl) ?_
        refine lv_iconst (v := 0) hx hb dX4_readTerm_49 (by decide) ?_
        obtain ⟨q13, h12, h⟩ := dV_some h
        refine dw_kv (va_runV (As := [.int r1, .int 0]) (rest := []) ⟨hx, hb, hml, hown, hts⟩ (qX7_emit_s25 l D ty eo _ ad q9 r1 0 q13 h12) (cwV 2 hts gX4_readTerm_X7_emit rfl rfl rfl hd_X7_emit_v ⟨by dsimp only [headSpec]; omega, by dsimp only [headSpec]; omega⟩) (pvF_7_25 hK hN hE hP hD hS hA) rfl rfl hl.1 rfl (lv_room (Nat.le_of_ble_eq_true rfl)) dX4_readTerm_50 ⟨Nat.le_of_ble_eq_true rfl, Nat.le_of_ble_eq_true rfl⟩) hD hS hA (fun u9 H locs hw hp hd hs => ?_)
        clear hP hD hS
        obtain rfl := hw
        have hP := hp; have hD := hd; have hS := hs; clear hp hd hs
        refine lv_iinc (v := x1 + 1) (lv' := [(1, .int (x1 + 1)), (2, .int r1), (0, .ref (ad 24))]) hx hb dX4_readTerm_53 hl (k := 2) rfl rfl (by decide) rfl (fun ls hl => ?_)
        refine lv_goto (tgt := 6) hx hb dX4_readTerm_56 (by decide) ?_
        exact hk6 _ _ _ _ _ h hP hD hS (lv_sub hl [2, 0] rfl)
      · rw [if_pos c9] at h
        cases h
        exact kz_vret hx hb hr hlocks hP hK hD hS dX4_readTerm_35 rfl
set_option maxHeartbeats 4000000 in
set_option maxRecDepth 100000 in
theorem WX4_readTerm_s24_6 {p : Program} {l : Launch} {e : Env} {s : State} {m : MethodId} {args : Array Value} {below : List Frame} {meth : Method} {c : Code} {D : va_G} {ty : Nat → ClassId} {eo : Nat → Nat} {A : Nat → Prop} {ad : Nat → Nat} {o2 : dK} {kS : dK → Option (dK)} {nS : Nat} (hkS : ∀ (sz : Nat) (q : dK)  (o2 : dK), kS q  = some o2 → Met l yX4_readSum wsX4_readSum ({ frames := 12 + 3 * nS, cells := 0, slots := 0, locals := 400 + 67 * nS } : Room) (va_Pc [.ref (ad 24)] (kz_pre D ty eo (wF ty ad q) sz)) (va_Qv (fun (u : va_W) => wF ty ad o2 = u) (kz_B D ty (va_A (wF ty ad q) sz)) (va_A (wF ty ad q) sz)) 0 0 (va_A (wF ty ad q) sz)) (C : dc_C p s m args meth c cX4_readTerm none 3 RX4 wsX4_readTerm D ty eo A)   (n : Nat) (q : dK) (x1 : Int32) (H : Heap) (locs : List Loc) (ls : Array Slot) (h : zX4_readTerm_s24_6 kS  n q x1 = some o2) (hP : va_P D vwCl (wF ty ad q) H) (hD : va_D A (wF ty ad q)) (hS : va_S A s.heap H locs) (hl : lv_has ls 3 [(0, .ref (ad 24)), (1, .int x1)]) : W p l e ({ frames := 12 + 3 * nS + 2, cells := 0, slots := 0, locals := 400 + 67 * nS + 45 } : Room) s m args below meth c H locs 0 0 (MQ below (va_Qv (fun (u : va_W) => wF ty ad o2 = u) (kz_B D ty A) A) args s 0 0 A) (F0 m 6 ls []) := by
  exact dFix_W (F := fun k (a : dK × Int32) => zX4_readTerm_s24_6b kS  (fun q x1 => k (q, x1)) a.1 a.2) (o := o2) (P := fun (a : dK × Int32) H locs ls => va_P D vwCl (wF ty ad a.1) H ∧ va_D A (wF ty ad a.1) ∧ va_S A s.heap H locs ∧ lv_has ls 3 [(0, .ref (ad 24)), (1, .int a.2)]) (G := fun H locs ls => W p l e ({ frames := 12 + 3 * nS + 2, cells := 0, slots := 0, locals := 400 + 67 * nS + 45 } : Room) s m args below meth c H locs 0 0 (MQ below (va_Qv (fun (u : va_W) => wF ty ad o2 = u) (kz_B D ty A) A) args s 0 0 A) (F0 m 6 ls []))
    (fun k hk a H locs ls h hp => WX4_readTerm_s24_6b hkS C  (fun q x1 H locs ls h h1 h2 h3 h4 => hk (q, x1) H locs ls h ⟨h1, h2, h3, h4⟩) a.1 a.2 H locs ls h hp.1 hp.2.1 hp.2.2.1 hp.2.2.2) n (q, x1) H locs ls h ⟨hP, hD, hS, hl⟩
set_option maxHeartbeats 4000000 in
set_option maxRecDepth 100000 in
theorem qX4_readTerm_s24 (l : Launch) (D : va_G) (ty : Nat → ClassId) (eo : Nat → Nat) (sz : Nat) (ad : Nat → Nat) (kS : dK → Option (dK)) (nS : Nat) (hkS : ∀ (sz : Nat) (q : dK)  (o2 : dK), kS q  = some o2 → Met l yX4_readSum wsX4_readSum ({ frames := 12 + 3 * nS, cells := 0, slots := 0, locals := 400 + 67 * nS } : Room) (va_Pc [.ref (ad 24)] (kz_pre D ty eo (wF ty ad q) sz)) (va_Qv (fun (u : va_W) => wF ty ad o2 = u) (kz_B D ty (va_A (wF ty ad q) sz)) (va_A (wF ty ad q) sz)) 0 0 (va_A (wF ty ad q) sz)) (q : dK)  (o2 : dK) (h : zX4_readTerm_s24 kS q = some o2) : Met l yX4_readTerm wsX4_readTerm ({ frames := 12 + 3 * nS + 2, cells := 0, slots := 0, locals := 400 + 67 * nS + 45 } : Room) (va_Pc [.ref (ad 24)] (kz_pre D ty eo (wF ty ad q) sz)) (va_Qv (fun (u : va_W) => wF ty ad o2 = u) (kz_B D ty (va_A (wF ty ad q) sz)) (va_A (wF ty ad q) sz)) 0 0 (va_A (wF ty ad q) sz) := by
  refine Met.ofW (cc := cX4_readTerm) (maxL := 3) (ret := none) (by decide) rfl ?_
  intro p e s m args below meth c s₁ B hml hv
  obtain ⟨rfl, hsz, hP, hK, hD0, hN, hE⟩ := hv
  have hx := B.exec
  have hb := B.bytes
  have hr := B.returns
  have hts := atoms_spec (ws := wsX4_readTerm) B.pre
  have hown : s.vm.findClass RX4 = some m.cls := findClass_of_methodNamed B.named
  have hlocks := B.notSynchronized
  subst hsz
  have hD := hD0.self (sz := s.heap.size)
  generalize hAe : va_A (wF ty ad q) s.heap.size = A at hD hE ⊢
  have hA : ∀ q : Nat, s.heap.size ≤ q → A q := fun q h => by rw [← hAe]; exact Or.inr h
  clear hAe
  have hS : va_S A s.heap s.heap [] := va_S.rf
  have hl := lv_entry ([.ref (ad 24)]) (n := 3) (Nat.le_of_ble_eq_true rfl)
  rw [lg_entry_eq]
  generalize (lg_sl ([.ref (ad 24)]) ++ List.replicate (3 - (lg_sl ([.ref (ad 24)])).length) Slot.unset).toArray = ls at hl ⊢
  have hl : lv_has ls 3 [(0, .ref (ad 24))] := hl
  have C : dc_C p s m _ meth c cX4_readTerm none 3 RX4 wsX4_readTerm D ty eo A := ⟨hx, hb, hr, hts, hown, hlocks, hml, hK, hN, hE, hA⟩
  unfold zX4_readTerm_s24 at h
  refine lv_aload_n hx hb dX4_readTerm_0 rfl (lv_at hl 0 rfl) ?_
  obtain ⟨q3, h2, h⟩ := dV_some h
  refine dw_kv (va_runV (As := []) (rest := []) ⟨hx, hb, hml, hown, hts⟩ (qX4_readPart_s24 l D ty eo _ ad kS nS hkS q  q3 h2) (cwV 0 hts gX4_readTerm_X4_readPart rfl rfl rfl hd_X4_readPart_v ⟨by dsimp only [headSpec]; omega, by dsimp only [headSpec]; omega⟩) (pvF_4_24 hK hN hE hP hD hS hA) rfl rfl hl.1 rfl (lv_room (Nat.le_of_ble_eq_true rfl)) dX4_readTerm_1 ⟨Nat.le_of_ble_eq_true rfl, Nat.le_of_ble_eq_true rfl⟩) hD hS hA (fun u9 H locs hw hp hd hs => ?_)
  clear hP hD hS
  obtain rfl := hw
  have hP := hp; have hD := hd; have hS := hs; clear hp hd hs
  refine lv_iconst (v := 0) hx hb dX4_readTerm_4 (by decide) ?_
  refine lv_istore_n (lv' := [(1, .int 0), (0, .ref (ad 24))]) hx hb dX4_readTerm_5 rfl hl (by decide) rfl (fun ls hl => ?_)
  exact WX4_readTerm_s24_6 hkS C  _ _ _ _ _ _ h hP hD hS (lv_sub hl [1, 0] rfl)
end
section
set_option maxRecDepth 20000 in
theorem ggX4_readTimes_X4_fail : GoodIn wsX4_readTimes wsX4_fail := wd_c vW9_ok mvW9_191
set_option maxRecDepth 20000 in
theorem gX4_readTimes_X4_fail : GoodIn wsX4_readTimes (wsV RX4 62 RX4 yX4_fail wsX4_fail) := goodIn_app (wd_l vW9_ok _ pvW9_37) ggX4_readTimes_X4_fail
set_option maxRecDepth 20000 in
theorem ggX4_readTimes_X7_setTimes : GoodIn wsX4_readTimes wsX7_setTimes := wd_c vW9_ok mvW9_314
set_option maxRecDepth 20000 in
theorem gX4_readTimes_X7_setTimes : GoodIn wsX4_readTimes (wsV RX4 107 RX7 yX7_setTimes wsX7_setTimes) := goodIn_app (wd_l vW9_ok _ pvW9_48) ggX4_readTimes_X7_setTimes
set_option maxRecDepth 20000 in
theorem ggX4_readTimes_X4_step : GoodIn wsX4_readTimes wsX4_step := wd_c vW9_ok mvW9_182
set_option maxRecDepth 20000 in
theorem gX4_readTimes_X4_step : GoodIn wsX4_readTimes (wsV RX4 59 RX4 yX4_step wsX4_step) := goodIn_app (wd_l vW9_ok _ pvW9_36) ggX4_readTimes_X4_step
theorem da9_dX4_readTimes_0 : (decode cX4_readTimes 0 = .ok (.aload_n 0, 1)) ∧ (decode cX4_readTimes 1 = .ok (.getfield 27, 3)) ∧ (decode cX4_readTimes 4 = .ok (.iconst 2, 1)) ∧ (decode cX4_readTimes 5 = .ok (.if_icmp .ne 20, 3)) ∧ (decode cX4_readTimes 8 = .ok (.aload_n 0, 1)) ∧ (decode cX4_readTimes 9 = .ok (.getfield 36, 3)) ∧ (decode cX4_readTimes 12 = .ok (.iconst 1, 1)) ∧ (decode cX4_readTimes 13 = .ok (.if_icmp .lt 12, 3)) ∧ (decode cX4_readTimes 16 = .ok (.aload_n 0, 1)) ∧ (decode cX4_readTimes 17 = .ok (.getfield 36, 3)) ∧ (decode cX4_readTimes 20 = .ok (.bipush 20, 2)) ∧ (decode cX4_readTimes 22 = .ok (.if_icmp .le 8, 3)) ∧ (decode cX4_readTimes 25 = .ok (.aload_n 0, 1)) ∧ (decode cX4_readTimes 26 = .ok (.invokevirtual 62, 3)) ∧ (decode cX4_readTimes 29 = .ok (.return_, 1)) ∧ (decode cX4_readTimes 30 = .ok (.aload_n 0, 1)) := by decide +kernel
theorem dX4_readTimes_0 : decode cX4_readTimes 0 = .ok (.aload_n 0, 1) := da9_dX4_readTimes_0.1
theorem dX4_readTimes_1 : decode cX4_readTimes 1 = .ok (.getfield 27, 3) := da9_dX4_readTimes_0.2.1
theorem dX4_readTimes_4 : decode cX4_readTimes 4 = .ok (.iconst 2, 1) := da9_dX4_readTimes_0.2.2.1
theorem dX4_readTimes_5 : decode cX4_readTimes 5 = .ok (.if_icmp .ne 20, 3) := da9_dX4_readTimes_0.2.2.2.1
theorem dX4_readTimes_8 : decode cX4_readTimes 8 = .ok (.aload_n 0, 1) := da9_dX4_readTimes_0.2.2.2.2.1
theorem dX4_readTimes_9 : decode cX4_readTimes 9 = .ok (.getfield 36, 3) := da9_dX4_readTimes_0.2.2.2.2.2.1
theorem dX4_readTimes_12 : decode cX4_readTimes 12 = .ok (.iconst 1, 1) := da9_dX4_readTimes_0.2.2.2.2.2.2.1
theorem dX4_readTimes_13 : decode cX4_readTimes 13 = .ok (.if_icmp .lt 12, 3) := da9_dX4_readTimes_0.2.2.2.2.2.2.2.1
theorem dX4_readTimes_16 : decode cX4_readTimes 16 = .ok (.aload_n 0, 1) := da9_dX4_readTimes_0.2.2.2.2.2.2.2.2.1
theorem dX4_readTimes_17 : decode cX4_readTimes 17 = .ok (.getfield 36, 3) := da9_dX4_readTimes_0.2.2.2.2.2.2.2.2.2.1
theorem dX4_readTimes_20 : decode cX4_readTimes 20 = .ok (.bipush 20, 2) := da9_dX4_readTimes_0.2.2.2.2.2.2.2.2.2.2.1
theorem dX4_readTimes_22 : decode cX4_readTimes 22 = .ok (.if_icmp .le 8, 3) := da9_dX4_readTimes_0.2.2.2.2.2.2.2.2.2.2.2.1
theorem dX4_readTimes_25 : decode cX4_readTimes 25 = .ok (.aload_n 0, 1) := da9_dX4_readTimes_0.2.2.2.2.2.2.2.2.2.2.2.2.1
theorem dX4_readTimes_26 : decode cX4_readTimes 26 = .ok (.invokevirtual 62, 3) := da9_dX4_readTimes_0.2.2.2.2.2.2.2.2.2.2.2.2.2.1
theorem dX4_readTimes_29 : decode cX4_readTimes 29 = .ok (.return_, 1) := da9_dX4_readTimes_0.2.2.2.2.2.2.2.2.2.2.2.2.2.2.1
theorem dX4_readTimes_30 : decode cX4_readTimes 30 = .ok (.aload_n 0, 1) := da9_dX4_readTimes_0.2.2.2.2.2.2.2.2.2.2.2.2.2.2.2
theorem da9_dX4_readTimes_31 : (decode cX4_readTimes 31 = .ok (.getfield 23, 3)) ∧ (decode cX4_readTimes 34 = .ok (.aload_n 0, 1)) ∧ (decode cX4_readTimes 35 = .ok (.getfield 36, 3)) ∧ (decode cX4_readTimes 38 = .ok (.invokevirtual 107, 3)) ∧ (decode cX4_readTimes 41 = .ok (.aload_n 0, 1)) ∧ (decode cX4_readTimes 42 = .ok (.invokevirtual 59, 3)) ∧ (decode cX4_readTimes 45 = .ok (.return_, 1)) := by decide +kernel
theorem dX4_readTimes_31 : decode cX4_readTimes 31 = .ok (.getfield 23, 3) := da9_dX4_readTimes_31.1
theorem dX4_readTimes_34 : decode cX4_readTimes 34 = .ok (.aload_n 0, 1) := da9_dX4_readTimes_31.2.1
theorem dX4_readTimes_35 : decode cX4_readTimes 35 = .ok (.getfield 36, 3) := da9_dX4_readTimes_31.2.2.1
theorem dX4_readTimes_38 : decode cX4_readTimes 38 = .ok (.invokevirtual 107, 3) := da9_dX4_readTimes_31.2.2.2.1
theorem dX4_readTimes_41 : decode cX4_readTimes 41 = .ok (.aload_n 0, 1) := da9_dX4_readTimes_31.2.2.2.2.1
theorem dX4_readTimes_42 : decode cX4_readTimes 42 = .ok (.invokevirtual 59, 3) := da9_dX4_readTimes_31.2.2.2.2.2.1
theorem dX4_readTimes_45 : decode cX4_readTimes 45 = .ok (.return_, 1) := da9_dX4_readTimes_31.2.2.2.2.2.2
set_option maxRecDepth 20000 in
theorem ggX4_readSum_X4_readTerm : GoodIn wsX4_readSum wsX4_readTerm := wd_c vW9_ok mvW9_295
set_option maxRecDepth 20000 in
theorem gX4_readSum_X4_readTerm : GoodIn wsX4_readSum (wsV RX4 144 RX4 yX4_readTerm wsX4_readTerm) := goodIn_app (wd_l vW9_ok _ pvW9_56) ggX4_readSum_X4_readTerm
set_option maxRecDepth 20000 in
theorem ggX4_readSum_X4_signIn : GoodIn wsX4_readSum wsX4_signIn := wd_c vW9_ok mvW9_272
set_option maxRecDepth 20000 in
theorem gX4_readSum_X4_signIn : GoodIn wsX4_readSum (wsV RX4 140 RX4 yX4_signIn wsX4_signIn) := goodIn_app (wd_l vW9_ok _ pvW9_55) ggX4_readSum_X4_signIn
set_option maxRecDepth 20000 in
theorem ggX4_readSum_X4_step : GoodIn wsX4_readSum wsX4_step := wd_c vW9_ok mvW9_182
set_option maxRecDepth 20000 in
theorem gX4_readSum_X4_step : GoodIn wsX4_readSum (wsV RX4 59 RX4 yX4_step wsX4_step) := goodIn_app (wd_l vW9_ok _ pvW9_36) ggX4_readSum_X4_step
set_option maxRecDepth 20000 in
theorem ggX4_readSum_X7_emit : GoodIn wsX4_readSum wsX7_emit := wd_c vW9_ok mvW9_280
set_option maxRecDepth 20000 in
theorem gX4_readSum_X7_emit : GoodIn wsX4_readSum (wsV RX4 116 RX7 yX7_emit wsX7_emit) := goodIn_app (wd_l vW9_ok _ pvW9_50) ggX4_readSum_X7_emit
theorem da9_dX4_readSum_0 : (decode cX4_readSum 0 = .ok (.aload_n 0, 1)) ∧ (decode cX4_readSum 1 = .ok (.invokevirtual 144, 3)) ∧ (decode cX4_readSum 4 = .ok (.iconst 0, 1)) ∧ (decode cX4_readSum 5 = .ok (.istore_n 1, 1)) ∧ (decode cX4_readSum 6 = .ok (.iload_n 1, 1)) ∧ (decode cX4_readSum 7 = .ok (.aload_n 0, 1)) ∧ (decode cX4_readSum 8 = .ok (.getfield 15, 3)) ∧ (decode cX4_readSum 11 = .ok (.if_icmp .ge 48, 3)) ∧ (decode cX4_readSum 14 = .ok (.aload_n 0, 1)) ∧ (decode cX4_readSum 15 = .ok (.getfield 45, 3)) ∧ (decode cX4_readSum 18 = .ok (.iconst (-1), 1)) ∧ (decode cX4_readSum 19 = .ok (.if_icmp .ne 40, 3)) ∧ (decode cX4_readSum 22 = .ok (.aload_n 0, 1)) ∧ (decode cX4_readSum 23 = .ok (.ldc 147, 2)) ∧ (decode cX4_readSum 25 = .ok (.iconst 2, 1)) ∧ (decode cX4_readSum 26 = .ok (.invokevirtual 140, 3)) := by decide +kernel
theorem dX4_readSum_0 : decode cX4_readSum 0 = .ok (.aload_n 0, 1) := da9_dX4_readSum_0.1
theorem dX4_readSum_1 : decode cX4_readSum 1 = .ok (.invokevirtual 144, 3) := da9_dX4_readSum_0.2.1
theorem dX4_readSum_4 : decode cX4_readSum 4 = .ok (.iconst 0, 1) := da9_dX4_readSum_0.2.2.1
theorem dX4_readSum_5 : decode cX4_readSum 5 = .ok (.istore_n 1, 1) := da9_dX4_readSum_0.2.2.2.1
theorem dX4_readSum_6 : decode cX4_readSum 6 = .ok (.iload_n 1, 1) := da9_dX4_readSum_0.2.2.2.2.1
theorem dX4_readSum_7 : decode cX4_readSum 7 = .ok (.aload_n 0, 1) := da9_dX4_readSum_0.2.2.2.2.2.1
theorem dX4_readSum_8 : decode cX4_readSum 8 = .ok (.getfield 15, 3) := da9_dX4_readSum_0.2.2.2.2.2.2.1
theorem dX4_readSum_11 : decode cX4_readSum 11 = .ok (.if_icmp .ge 48, 3) := da9_dX4_readSum_0.2.2.2.2.2.2.2.1
theorem dX4_readSum_14 : decode cX4_readSum 14 = .ok (.aload_n 0, 1) := da9_dX4_readSum_0.2.2.2.2.2.2.2.2.1
theorem dX4_readSum_15 : decode cX4_readSum 15 = .ok (.getfield 45, 3) := da9_dX4_readSum_0.2.2.2.2.2.2.2.2.2.1
theorem dX4_readSum_18 : decode cX4_readSum 18 = .ok (.iconst (-1), 1) := da9_dX4_readSum_0.2.2.2.2.2.2.2.2.2.2.1
theorem dX4_readSum_19 : decode cX4_readSum 19 = .ok (.if_icmp .ne 40, 3) := da9_dX4_readSum_0.2.2.2.2.2.2.2.2.2.2.2.1
theorem dX4_readSum_22 : decode cX4_readSum 22 = .ok (.aload_n 0, 1) := da9_dX4_readSum_0.2.2.2.2.2.2.2.2.2.2.2.2.1
theorem dX4_readSum_23 : decode cX4_readSum 23 = .ok (.ldc 147, 2) := da9_dX4_readSum_0.2.2.2.2.2.2.2.2.2.2.2.2.2.1
theorem dX4_readSum_25 : decode cX4_readSum 25 = .ok (.iconst 2, 1) := da9_dX4_readSum_0.2.2.2.2.2.2.2.2.2.2.2.2.2.2.1
theorem dX4_readSum_26 : decode cX4_readSum 26 = .ok (.invokevirtual 140, 3) := da9_dX4_readSum_0.2.2.2.2.2.2.2.2.2.2.2.2.2.2.2
theorem da9_dX4_readSum_29 : (decode cX4_readSum 29 = .ok (.istore_n 2, 1)) ∧ (decode cX4_readSum 30 = .ok (.iload_n 2, 1)) ∧ (decode cX4_readSum 31 = .ok (.iconst (-1), 1)) ∧ (decode cX4_readSum 32 = .ok (.if_icmp .ne 4, 3)) ∧ (decode cX4_readSum 35 = .ok (.return_, 1)) ∧ (decode cX4_readSum 36 = .ok (.aload_n 0, 1)) ∧ (decode cX4_readSum 37 = .ok (.invokevirtual 59, 3)) ∧ (decode cX4_readSum 40 = .ok (.aload_n 0, 1)) ∧ (decode cX4_readSum 41 = .ok (.invokevirtual 144, 3)) ∧ (decode cX4_readSum 44 = .ok (.aload_n 0, 1)) ∧ (decode cX4_readSum 45 = .ok (.getfield 23, 3)) ∧ (decode cX4_readSum 48 = .ok (.iload_n 2, 1)) ∧ (decode cX4_readSum 49 = .ok (.iconst 0, 1)) ∧ (decode cX4_readSum 50 = .ok (.invokevirtual 116, 3)) ∧ (decode cX4_readSum 53 = .ok (.iinc 1 1, 3)) ∧ (decode cX4_readSum 56 = .ok (.goto (-50), 3)) := by decide +kernel
theorem dX4_readSum_29 : decode cX4_readSum 29 = .ok (.istore_n 2, 1) := da9_dX4_readSum_29.1
theorem dX4_readSum_30 : decode cX4_readSum 30 = .ok (.iload_n 2, 1) := da9_dX4_readSum_29.2.1
theorem dX4_readSum_31 : decode cX4_readSum 31 = .ok (.iconst (-1), 1) := da9_dX4_readSum_29.2.2.1
theorem dX4_readSum_32 : decode cX4_readSum 32 = .ok (.if_icmp .ne 4, 3) := da9_dX4_readSum_29.2.2.2.1
theorem dX4_readSum_35 : decode cX4_readSum 35 = .ok (.return_, 1) := da9_dX4_readSum_29.2.2.2.2.1
theorem dX4_readSum_36 : decode cX4_readSum 36 = .ok (.aload_n 0, 1) := da9_dX4_readSum_29.2.2.2.2.2.1
theorem dX4_readSum_37 : decode cX4_readSum 37 = .ok (.invokevirtual 59, 3) := da9_dX4_readSum_29.2.2.2.2.2.2.1
theorem dX4_readSum_40 : decode cX4_readSum 40 = .ok (.aload_n 0, 1) := da9_dX4_readSum_29.2.2.2.2.2.2.2.1
theorem dX4_readSum_41 : decode cX4_readSum 41 = .ok (.invokevirtual 144, 3) := da9_dX4_readSum_29.2.2.2.2.2.2.2.2.1
theorem dX4_readSum_44 : decode cX4_readSum 44 = .ok (.aload_n 0, 1) := da9_dX4_readSum_29.2.2.2.2.2.2.2.2.2.1
theorem dX4_readSum_45 : decode cX4_readSum 45 = .ok (.getfield 23, 3) := da9_dX4_readSum_29.2.2.2.2.2.2.2.2.2.2.1
theorem dX4_readSum_48 : decode cX4_readSum 48 = .ok (.iload_n 2, 1) := da9_dX4_readSum_29.2.2.2.2.2.2.2.2.2.2.2.1
theorem dX4_readSum_49 : decode cX4_readSum 49 = .ok (.iconst 0, 1) := da9_dX4_readSum_29.2.2.2.2.2.2.2.2.2.2.2.2.1
theorem dX4_readSum_50 : decode cX4_readSum 50 = .ok (.invokevirtual 116, 3) := da9_dX4_readSum_29.2.2.2.2.2.2.2.2.2.2.2.2.2.1
theorem dX4_readSum_53 : decode cX4_readSum 53 = .ok (.iinc 1 1, 3) := da9_dX4_readSum_29.2.2.2.2.2.2.2.2.2.2.2.2.2.2.1
theorem dX4_readSum_56 : decode cX4_readSum 56 = .ok (.goto (-50), 3) := da9_dX4_readSum_29.2.2.2.2.2.2.2.2.2.2.2.2.2.2.2
theorem dX4_readSum_59 : decode cX4_readSum 59 = .ok (.return_, 1) := by decide +kernel
set_option maxRecDepth 20000 in
theorem ggX4_isWord_J0_length_8abf5 : GoodIn wsX4_isWord wsJ0_length_8abf5 := wd_l vW9_ok _ (List.forall_mem_cons.mpr ⟨mvW9_204, (List.forall_mem_cons.mpr ⟨mvW9_205, (List.forall_mem_cons.mpr ⟨mvW9_206, (List.forall_mem_cons.mpr ⟨mvW9_207, (List.forall_mem_cons.mpr ⟨mvW9_208, (List.forall_mem_cons.mpr ⟨mvW9_203, (List.forall_mem_cons.mpr ⟨mvW9_209, (List.forall_mem_cons.mpr ⟨mvW9_210, (List.forall_mem_cons.mpr ⟨mvW9_211, (fun _ h => absurd h List.not_mem_nil)⟩)⟩)⟩)⟩)⟩)⟩)⟩)⟩)⟩)
set_option maxRecDepth 20000 in
theorem gX4_isWord_J0_length_8abf5 : GoodIn wsX4_isWord (wsV RX4 167 RJ0 yJ0_length_8abf5 wsJ0_length_8abf5) := goodIn_app (wd_l vW9_ok _ pvW9_60) ggX4_isWord_J0_length_8abf5
set_option maxRecDepth 20000 in
theorem ggX4_isWord_X4_isSame : GoodIn wsX4_isWord wsX4_isSame := wd_c vW9_ok mvW9_252
set_option maxRecDepth 20000 in
theorem gX4_isWord_X4_isSame : GoodIn wsX4_isWord (wsV RX4 176 RX4 yX4_isSame wsX4_isSame) := goodIn_app (wd_l vW9_ok _ pvW9_62) ggX4_isWord_X4_isSame
theorem da9_dX4_isWord_0 : (decode cX4_isWord 0 = .ok (.aload_n 0, 1)) ∧ (decode cX4_isWord 1 = .ok (.getfield 27, 3)) ∧ (decode cX4_isWord 4 = .ok (.iconst 1, 1)) ∧ (decode cX4_isWord 5 = .ok (.if_icmp .ne 20, 3)) ∧ (decode cX4_isWord 8 = .ok (.aload_n 0, 1)) ∧ (decode cX4_isWord 9 = .ok (.aload_n 1, 1)) ∧ (decode cX4_isWord 10 = .ok (.iconst 0, 1)) ∧ (decode cX4_isWord 11 = .ok (.aload_n 1, 1)) ∧ (decode cX4_isWord 12 = .ok (.invokevirtual 167, 3)) ∧ (decode cX4_isWord 15 = .ok (.invokevirtual 176, 3)) ∧ (decode cX4_isWord 18 = .ok (.ifCond .eq 7, 3)) ∧ (decode cX4_isWord 21 = .ok (.iconst 1, 1)) ∧ (decode cX4_isWord 22 = .ok (.goto 4, 3)) ∧ (decode cX4_isWord 25 = .ok (.iconst 0, 1)) ∧ (decode cX4_isWord 26 = .ok (.ireturn, 1)) := by decide +kernel
theorem dX4_isWord_0 : decode cX4_isWord 0 = .ok (.aload_n 0, 1) := da9_dX4_isWord_0.1
theorem dX4_isWord_1 : decode cX4_isWord 1 = .ok (.getfield 27, 3) := da9_dX4_isWord_0.2.1
theorem dX4_isWord_4 : decode cX4_isWord 4 = .ok (.iconst 1, 1) := da9_dX4_isWord_0.2.2.1
theorem dX4_isWord_5 : decode cX4_isWord 5 = .ok (.if_icmp .ne 20, 3) := da9_dX4_isWord_0.2.2.2.1
theorem dX4_isWord_8 : decode cX4_isWord 8 = .ok (.aload_n 0, 1) := da9_dX4_isWord_0.2.2.2.2.1
theorem dX4_isWord_9 : decode cX4_isWord 9 = .ok (.aload_n 1, 1) := da9_dX4_isWord_0.2.2.2.2.2.1
theorem dX4_isWord_10 : decode cX4_isWord 10 = .ok (.iconst 0, 1) := da9_dX4_isWord_0.2.2.2.2.2.2.1
theorem dX4_isWord_11 : decode cX4_isWord 11 = .ok (.aload_n 1, 1) := da9_dX4_isWord_0.2.2.2.2.2.2.2.1
theorem dX4_isWord_12 : decode cX4_isWord 12 = .ok (.invokevirtual 167, 3) := da9_dX4_isWord_0.2.2.2.2.2.2.2.2.1
theorem dX4_isWord_15 : decode cX4_isWord 15 = .ok (.invokevirtual 176, 3) := da9_dX4_isWord_0.2.2.2.2.2.2.2.2.2.1
theorem dX4_isWord_18 : decode cX4_isWord 18 = .ok (.ifCond .eq 7, 3) := da9_dX4_isWord_0.2.2.2.2.2.2.2.2.2.2.1
theorem dX4_isWord_21 : decode cX4_isWord 21 = .ok (.iconst 1, 1) := da9_dX4_isWord_0.2.2.2.2.2.2.2.2.2.2.2.1
theorem dX4_isWord_22 : decode cX4_isWord 22 = .ok (.goto 4, 3) := da9_dX4_isWord_0.2.2.2.2.2.2.2.2.2.2.2.2.1
theorem dX4_isWord_25 : decode cX4_isWord 25 = .ok (.iconst 0, 1) := da9_dX4_isWord_0.2.2.2.2.2.2.2.2.2.2.2.2.2.1
theorem dX4_isWord_26 : decode cX4_isWord 26 = .ok (.ireturn, 1) := da9_dX4_isWord_0.2.2.2.2.2.2.2.2.2.2.2.2.2.2
theorem da9_dX7_endSum_0 : (decode cX7_endSum 0 = .ok (.aload_n 0, 1)) ∧ (decode cX7_endSum 1 = .ok (.getfield 7, 3)) ∧ (decode cX7_endSum 4 = .ok (.ifCond .le 33, 3)) ∧ (decode cX7_endSum 7 = .ok (.aload_n 0, 1)) ∧ (decode cX7_endSum 8 = .ok (.getfield 26, 3)) ∧ (decode cX7_endSum 11 = .ok (.aload_n 0, 1)) ∧ (decode cX7_endSum 12 = .ok (.getfield 7, 3)) ∧ (decode cX7_endSum 15 = .ok (.iconst 1, 1)) ∧ (decode cX7_endSum 16 = .ok (.isub, 1)) ∧ (decode cX7_endSum 17 = .ok (.aload_n 0, 1)) ∧ (decode cX7_endSum 18 = .ok (.getfield 13, 3)) ∧ (decode cX7_endSum 21 = .ok (.iastore, 1)) ∧ (decode cX7_endSum 22 = .ok (.aload_n 0, 1)) ∧ (decode cX7_endSum 23 = .ok (.getfield 29, 3)) ∧ (decode cX7_endSum 26 = .ok (.aload_n 0, 1)) ∧ (decode cX7_endSum 27 = .ok (.getfield 7, 3)) := by decide +kernel
theorem dX7_endSum_0 : decode cX7_endSum 0 = .ok (.aload_n 0, 1) := da9_dX7_endSum_0.1
theorem dX7_endSum_1 : decode cX7_endSum 1 = .ok (.getfield 7, 3) := da9_dX7_endSum_0.2.1
theorem dX7_endSum_4 : decode cX7_endSum 4 = .ok (.ifCond .le 33, 3) := da9_dX7_endSum_0.2.2.1
theorem dX7_endSum_7 : decode cX7_endSum 7 = .ok (.aload_n 0, 1) := da9_dX7_endSum_0.2.2.2.1
theorem dX7_endSum_8 : decode cX7_endSum 8 = .ok (.getfield 26, 3) := da9_dX7_endSum_0.2.2.2.2.1
theorem dX7_endSum_11 : decode cX7_endSum 11 = .ok (.aload_n 0, 1) := da9_dX7_endSum_0.2.2.2.2.2.1
theorem dX7_endSum_12 : decode cX7_endSum 12 = .ok (.getfield 7, 3) := da9_dX7_endSum_0.2.2.2.2.2.2.1
theorem dX7_endSum_15 : decode cX7_endSum 15 = .ok (.iconst 1, 1) := da9_dX7_endSum_0.2.2.2.2.2.2.2.1
theorem dX7_endSum_16 : decode cX7_endSum 16 = .ok (.isub, 1) := da9_dX7_endSum_0.2.2.2.2.2.2.2.2.1
theorem dX7_endSum_17 : decode cX7_endSum 17 = .ok (.aload_n 0, 1) := da9_dX7_endSum_0.2.2.2.2.2.2.2.2.2.1
theorem dX7_endSum_18 : decode cX7_endSum 18 = .ok (.getfield 13, 3) := da9_dX7_endSum_0.2.2.2.2.2.2.2.2.2.2.1
theorem dX7_endSum_21 : decode cX7_endSum 21 = .ok (.iastore, 1) := da9_dX7_endSum_0.2.2.2.2.2.2.2.2.2.2.2.1
theorem dX7_endSum_22 : decode cX7_endSum 22 = .ok (.aload_n 0, 1) := da9_dX7_endSum_0.2.2.2.2.2.2.2.2.2.2.2.2.1
theorem dX7_endSum_23 : decode cX7_endSum 23 = .ok (.getfield 29, 3) := da9_dX7_endSum_0.2.2.2.2.2.2.2.2.2.2.2.2.2.1
theorem dX7_endSum_26 : decode cX7_endSum 26 = .ok (.aload_n 0, 1) := da9_dX7_endSum_0.2.2.2.2.2.2.2.2.2.2.2.2.2.2.1
theorem dX7_endSum_27 : decode cX7_endSum 27 = .ok (.getfield 7, 3) := da9_dX7_endSum_0.2.2.2.2.2.2.2.2.2.2.2.2.2.2.2
theorem da9_dX7_endSum_30 : (decode cX7_endSum 30 = .ok (.iconst 1, 1)) ∧ (decode cX7_endSum 31 = .ok (.isub, 1)) ∧ (decode cX7_endSum 32 = .ok (.aload_n 0, 1)) ∧ (decode cX7_endSum 33 = .ok (.getfield 13, 3)) ∧ (decode cX7_endSum 36 = .ok (.iastore, 1)) ∧ (decode cX7_endSum 37 = .ok (.return_, 1)) := by decide +kernel
theorem dX7_endSum_30 : decode cX7_endSum 30 = .ok (.iconst 1, 1) := da9_dX7_endSum_30.1
theorem dX7_endSum_31 : decode cX7_endSum 31 = .ok (.isub, 1) := da9_dX7_endSum_30.2.1
theorem dX7_endSum_32 : decode cX7_endSum 32 = .ok (.aload_n 0, 1) := da9_dX7_endSum_30.2.2.1
theorem dX7_endSum_33 : decode cX7_endSum 33 = .ok (.getfield 13, 3) := da9_dX7_endSum_30.2.2.2.1
theorem dX7_endSum_36 : decode cX7_endSum 36 = .ok (.iastore, 1) := da9_dX7_endSum_30.2.2.2.2.1
theorem dX7_endSum_37 : decode cX7_endSum 37 = .ok (.return_, 1) := da9_dX7_endSum_30.2.2.2.2.2
theorem da9_dX7_setTimes_0 : (decode cX7_setTimes 0 = .ok (.aload_n 0, 1)) ∧ (decode cX7_setTimes 1 = .ok (.getfield 7, 3)) ∧ (decode cX7_setTimes 4 = .ok (.ifCond .le 15, 3)) ∧ (decode cX7_setTimes 7 = .ok (.aload_n 0, 1)) ∧ (decode cX7_setTimes 8 = .ok (.getfield 20, 3)) ∧ (decode cX7_setTimes 11 = .ok (.aload_n 0, 1)) ∧ (decode cX7_setTimes 12 = .ok (.getfield 7, 3)) ∧ (decode cX7_setTimes 15 = .ok (.iconst 1, 1)) ∧ (decode cX7_setTimes 16 = .ok (.isub, 1)) ∧ (decode cX7_setTimes 17 = .ok (.iload_n 1, 1)) ∧ (decode cX7_setTimes 18 = .ok (.iastore, 1)) ∧ (decode cX7_setTimes 19 = .ok (.return_, 1)) := by decide +kernel
theorem dX7_setTimes_0 : decode cX7_setTimes 0 = .ok (.aload_n 0, 1) := da9_dX7_setTimes_0.1
theorem dX7_setTimes_1 : decode cX7_setTimes 1 = .ok (.getfield 7, 3) := da9_dX7_setTimes_0.2.1
theorem dX7_setTimes_4 : decode cX7_setTimes 4 = .ok (.ifCond .le 15, 3) := da9_dX7_setTimes_0.2.2.1
theorem dX7_setTimes_7 : decode cX7_setTimes 7 = .ok (.aload_n 0, 1) := da9_dX7_setTimes_0.2.2.2.1
theorem dX7_setTimes_8 : decode cX7_setTimes 8 = .ok (.getfield 20, 3) := da9_dX7_setTimes_0.2.2.2.2.1
theorem dX7_setTimes_11 : decode cX7_setTimes 11 = .ok (.aload_n 0, 1) := da9_dX7_setTimes_0.2.2.2.2.2.1
theorem dX7_setTimes_12 : decode cX7_setTimes 12 = .ok (.getfield 7, 3) := da9_dX7_setTimes_0.2.2.2.2.2.2.1
theorem dX7_setTimes_15 : decode cX7_setTimes 15 = .ok (.iconst 1, 1) := da9_dX7_setTimes_0.2.2.2.2.2.2.2.1
theorem dX7_setTimes_16 : decode cX7_setTimes 16 = .ok (.isub, 1) := da9_dX7_setTimes_0.2.2.2.2.2.2.2.2.1
theorem dX7_setTimes_17 : decode cX7_setTimes 17 = .ok (.iload_n 1, 1) := da9_dX7_setTimes_0.2.2.2.2.2.2.2.2.2.1
theorem dX7_setTimes_18 : decode cX7_setTimes 18 = .ok (.iastore, 1) := da9_dX7_setTimes_0.2.2.2.2.2.2.2.2.2.2.1
theorem dX7_setTimes_19 : decode cX7_setTimes 19 = .ok (.return_, 1) := da9_dX7_setTimes_0.2.2.2.2.2.2.2.2.2.2.2
end
section
theorem u9_wsX4_readSum_X4 : ∀ w ∈ u_ws RX4 TX4 11, w ∈ wsX4_readSum := fun w h => List.mem_cons_of_mem _ (vW9_wsX40 w h)
theorem f9_wsX4_readSum_515 : (Cond.fieldLink RX4 15 "TurnedFloors$Reader" "length" "I") ∈ wsX4_readSum := List.mem_cons_of_mem _ mvW9_164
theorem f9_wsX4_readSum_516 : (Cond.fieldLink RX4 45 "TurnedFloors$Reader" "faultAt" "I") ∈ wsX4_readSum := List.mem_cons_of_mem _ mvW9_170
theorem f9_wsX4_readSum_517 : (Cond.fieldLink RX4 23 "TurnedFloors$Reader" "text" "LTurnedFloors$Text;") ∈ wsX4_readSum := List.mem_cons_of_mem _ mvW9_166
theorem u9_wsX7_endSum_X7 : ∀ w ∈ u_ws RX7 TX7 8, w ∈ wsX7_endSum := fun w h => List.mem_cons_of_mem _ (vW9_wsX70 w h)
theorem f9_wsX7_endSum_519 : (Cond.fieldLink RX7 7 "TurnedFloors$Text" "clauses" "I") ∈ wsX7_endSum := List.mem_cons_of_mem _ mvW9_177
theorem f9_wsX7_endSum_520 : (Cond.fieldLink RX7 26 "TurnedFloors$Text" "testFrom" "[I") ∈ wsX7_endSum := List.mem_cons_of_mem _ mvW9_260
theorem f9_wsX7_endSum_521 : (Cond.fieldLink RX7 13 "TurnedFloors$Text" "length" "I") ∈ wsX7_endSum := List.mem_cons_of_mem _ mvW9_178
theorem f9_wsX7_endSum_522 : (Cond.fieldLink RX7 29 "TurnedFloors$Text" "testTo" "[I") ∈ wsX7_endSum := List.mem_cons_of_mem _ mvW9_261
theorem u9_wsX4_isWord_X4 : ∀ w ∈ u_ws RX4 TX4 11, w ∈ wsX4_isWord := fun w h => List.mem_cons_of_mem _ (vW9_wsX40 w h)
theorem f9_wsX4_isWord_524 : (Cond.fieldLink RX4 27 "TurnedFloors$Reader" "token" "I") ∈ wsX4_isWord := List.mem_cons_of_mem _ mvW9_171
theorem u9_wsX7_setTimes_X7 : ∀ w ∈ u_ws RX7 TX7 8, w ∈ wsX7_setTimes := fun w h => List.mem_cons_of_mem _ (vW9_wsX70 w h)
theorem f9_wsX7_setTimes_526 : (Cond.fieldLink RX7 7 "TurnedFloors$Text" "clauses" "I") ∈ wsX7_setTimes := List.mem_cons_of_mem _ mvW9_177
theorem f9_wsX7_setTimes_527 : (Cond.fieldLink RX7 20 "TurnedFloors$Text" "times" "[I") ∈ wsX7_setTimes := List.mem_cons_of_mem _ mvW9_258
theorem u9_wsX4_readTimes_X4 : ∀ w ∈ u_ws RX4 TX4 11, w ∈ wsX4_readTimes := fun w h => List.mem_cons_of_mem _ (vW9_wsX40 w h)
theorem f9_wsX4_readTimes_529 : (Cond.fieldLink RX4 27 "TurnedFloors$Reader" "token" "I") ∈ wsX4_readTimes := List.mem_cons_of_mem _ mvW9_171
theorem f9_wsX4_readTimes_530 : (Cond.fieldLink RX4 36 "TurnedFloors$Reader" "number" "I") ∈ wsX4_readTimes := List.mem_cons_of_mem _ mvW9_184
theorem f9_wsX4_readTimes_531 : (Cond.fieldLink RX4 23 "TurnedFloors$Reader" "text" "LTurnedFloors$Text;") ∈ wsX4_readTimes := List.mem_cons_of_mem _ mvW9_166
set_option maxHeartbeats 4000000 in
set_option maxRecDepth 100000 in
theorem WX4_signIn_s24_t5_2b {p : Program} {l : Launch} {e : Env} {s : State} {m : MethodId} {args : Array Value} {below : List Frame} {meth : Method} {c : Code} {D : va_G} {ty : Nat → ClassId} {eo : Nat → Nat} {A : Nat → Prop} {ad : Nat → Nat} {o1 : Int32} {o2 : dK} (C : dc_C p s m args meth c cX4_signIn (some .int) 4 RX4 wsX4_signIn D ty eo A) {k2 : dK → Int32 → Int32 → Option (Int32 × dK)} (hk2 : ∀ (q : dK) (x2 : Int32) (x3 : Int32) (H : Heap) (locs : List Loc) (ls : Array Slot), k2 q x2 x3 = some (o1, o2) → va_P D vwCl (wF ty ad q) H → va_D A (wF ty ad q) → va_S A s.heap H locs → lv_has ls 4 [(0, .ref (ad 24)), (1, .ref (eo (1 + 5))), (2, .int x2), (3, .int x3)] → W p l e ({ frames := 4, cells := 0, slots := 0, locals := 85 } : Room) s m args below meth c H locs 0 0 (MQ below (va_Qi (fun (r : Int32) (u : va_W) => o1 = r ∧ wF ty ad o2 = u) (kz_B D ty A) A) args s 0 0 A) (F0 m 2 ls [])) (q : dK) (x2 : Int32) (x3 : Int32) (H : Heap) (locs : List Loc) (ls : Array Slot) (h : zX4_signIn_s24_t5_2b k2 q x2 x3 = some (o1, o2)) (hP : va_P D vwCl (wF ty ad q) H) (hD : va_D A (wF ty ad q)) (hS : va_S A s.heap H locs) (hl : lv_has ls 4 [(0, .ref (ad 24)), (1, .ref (eo (1 + 5))), (2, .int x2), (3, .int x3)]) : W p l e ({ frames := 4, cells := 0, slots := 0, locals := 85 } : Room) s m args below meth c H locs 0 0 (MQ below (va_Qi (fun (r : Int32) (u : va_W) => o1 = r ∧ wF ty ad o2 = u) (kz_B D ty A) A) args s 0 0 A) (F0 m 2 ls []) := by
  have C0 := C
  obtain ⟨hx, hb, hr, hts, hown, hlocks, hml, hK, hN, hE, hA⟩ := C
  unfold zX4_signIn_s24_t5_2b at h
  refine lv_iload_n hx hb dX4_signIn_2 rfl (lv_at hl 3 rfl) ?_
  refine lv_aload_n hx hb dX4_signIn_3 rfl (lv_at hl 1 rfl) ?_
  refine dw_ks (va_runV (As := []) (rest := [.int x3]) ⟨hx, hb, hml, hown, hts⟩ (kcJ0le l D ty eo _ 5 (by decide)) (cwV 0 hts gX4_signIn_J0_length_8abf5 rfl rfl rfl hd_J0_length_8abf5_v ⟨Nat.le_of_ble_eq_true rfl, Nat.le_of_ble_eq_true rfl⟩) (kz_preT hK hN hE hP hD hS hA 5 (by decide) [] (by decide) rfl) rfl rfl hl.1 rfl (lv_room (Nat.le_of_ble_eq_true rfl)) dX4_signIn_4 ⟨Nat.le_of_ble_eq_true rfl, Nat.le_of_ble_eq_true rfl⟩) hP hD hS hA (fun _ _ h9 => h9.2.symm) (fun r9 u9 H locs hw hp hd hs => ?_)
  obtain ⟨rfl, -⟩ := hw
  clear hP hD hS
  have hP := hp; have hD := hd; have hS := hs; clear hp hd hs
  refine kz_topi 2 (by decide +kernel) ?_
  refine lv_icmp_ge (tgt := 32) hx hb dX4_signIn_7 (by decide) (fun c9 => ?_) (fun c9 => ?_)
  · rw [if_pos c9] at h
    refine lv_iconst (v := (-1)) hx hb dX4_signIn_32 (by decide) ?_
    cases h
    exact kz_iret hx hb hr hlocks hP hK hD hS dX4_signIn_33 ⟨rfl, rfl⟩
  · rw [if_neg c9] at h
    refine lv_aload_n hx hb dX4_signIn_10 rfl (lv_at hl 0 rfl) ?_
    refine lv_aload_n hx hb dX4_signIn_11 rfl (lv_at hl 1 rfl) ?_
    refine lv_iload_n hx hb dX4_signIn_12 rfl (lv_at hl 3 rfl) ?_
    obtain ⟨g1, h⟩ := dG_some h
    refine dw_ks (va_runV (As := [.int x3]) (rest := [.ref (ad 24)]) ⟨hx, hb, hml, hown, hts⟩ (kcJ0ch l D ty eo _ 5 (by decide) x3 (dg_in g1)) (cwV 1 hts gX4_signIn_J0_charAt_5068e rfl rfl rfl hd_J0_charAt_5068e_v ⟨Nat.le_of_ble_eq_true rfl, Nat.le_of_ble_eq_true rfl⟩) (kz_preT hK hN hE hP hD hS hA 5 (by decide) [] (by decide) rfl) rfl rfl hl.1 rfl (lv_room (Nat.le_of_ble_eq_true rfl)) dX4_signIn_13 ⟨Nat.le_of_ble_eq_true rfl, Nat.le_of_ble_eq_true rfl⟩) hP hD hS hA (fun _ _ h9 => h9.2.symm) (fun r9 u9 H locs hw hp hd hs => ?_)
    obtain ⟨rfl, -⟩ := hw
    clear hP hD hS
    have hP := hp; have hD := hd; have hS := hs; clear hp hd hs
    obtain ⟨v2, ev2, h⟩ := dL_some h
    refine kz_topi v2 ev2 ?_
    obtain ⟨r3, q5, h4, h⟩ := dB_some h
    refine dw_ki (va_runV (As := [.int v2]) (rest := []) ⟨hx, hb, hml, hown, hts⟩ (qX4_isSign_s24 l D ty eo _ ad q v2 r3 q5 h4) (cwV 1 hts gX4_signIn_X4_isSign rfl rfl rfl hd_X4_isSign_v ⟨Nat.le_of_ble_eq_true rfl, Nat.le_of_ble_eq_true rfl⟩) (pvF_4_24 hK hN hE hP hD hS hA) rfl rfl hl.1 rfl (lv_room (Nat.le_of_ble_eq_true rfl)) dX4_signIn_16 ⟨Nat.le_of_ble_eq_true rfl, Nat.le_of_ble_eq_true rfl⟩) hD hS hA (fun r9 u9 H locs hw hp hd hs => ?_)
    clear hP hD hS
    obtain ⟨rfl, rfl⟩ := hw
    have hP := hp; have hD := hd; have hS := hs; clear hp hd hs
    refine lv_if_eq (tgt := 26) hx hb dX4_signIn_19 (by decide) (fun c9 => ?_) (fun c9 => ?_)
    · rw [if_pos c9] at h
      refine lv_iinc (v := x3 + 1) (lv' := [(3, .int (x3 + 1)), (0, .ref (ad 24)), (1, .ref (eo (1 + 5))), (2, .int x2)]) hx hb dX4_signIn_26 hl (k := 3) rfl rfl (by decide) rfl (fun ls hl => ?_)
      refine lv_goto (tgt := 2) hx hb dX4_signIn_29 (by decide) ?_
      exact hk2 _ _ _ _ _ _ h hP hD hS (lv_sub hl [1, 2, 3, 0] rfl)
    · rw [if_neg c9] at h
      refine lv_iload_n hx hb dX4_signIn_22 rfl (lv_at hl 2 rfl) ?_
      refine lv_iload_n hx hb dX4_signIn_23 rfl (lv_at hl 3 rfl) ?_
      refine lv_iadd hx hb dX4_signIn_24 ?_
      cases h
      exact kz_iret hx hb hr hlocks hP hK hD hS dX4_signIn_25 ⟨rfl, rfl⟩
set_option maxHeartbeats 4000000 in
set_option maxRecDepth 100000 in
theorem WX4_signIn_s24_t5_2 {p : Program} {l : Launch} {e : Env} {s : State} {m : MethodId} {args : Array Value} {below : List Frame} {meth : Method} {c : Code} {D : va_G} {ty : Nat → ClassId} {eo : Nat → Nat} {A : Nat → Prop} {ad : Nat → Nat} {o1 : Int32} {o2 : dK} (C : dc_C p s m args meth c cX4_signIn (some .int) 4 RX4 wsX4_signIn D ty eo A)   (n : Nat) (q : dK) (x2 : Int32) (x3 : Int32) (H : Heap) (locs : List Loc) (ls : Array Slot) (h : zX4_signIn_s24_t5_2  n q x2 x3 = some (o1, o2)) (hP : va_P D vwCl (wF ty ad q) H) (hD : va_D A (wF ty ad q)) (hS : va_S A s.heap H locs) (hl : lv_has ls 4 [(0, .ref (ad 24)), (1, .ref (eo (1 + 5))), (2, .int x2), (3, .int x3)]) : W p l e ({ frames := 4, cells := 0, slots := 0, locals := 85 } : Room) s m args below meth c H locs 0 0 (MQ below (va_Qi (fun (r : Int32) (u : va_W) => o1 = r ∧ wF ty ad o2 = u) (kz_B D ty A) A) args s 0 0 A) (F0 m 2 ls []) := by
  exact dFix_W (F := fun k (a : dK × Int32 × Int32) => zX4_signIn_s24_t5_2b  (fun q x2 x3 => k (q, x2, x3)) a.1 a.2.1 a.2.2) (o := (o1, o2)) (P := fun (a : dK × Int32 × Int32) H locs ls => va_P D vwCl (wF ty ad a.1) H ∧ va_D A (wF ty ad a.1) ∧ va_S A s.heap H locs ∧ lv_has ls 4 [(0, .ref (ad 24)), (1, .ref (eo (1 + 5))), (2, .int a.2.1), (3, .int a.2.2)]) (G := fun H locs ls => W p l e ({ frames := 4, cells := 0, slots := 0, locals := 85 } : Room) s m args below meth c H locs 0 0 (MQ below (va_Qi (fun (r : Int32) (u : va_W) => o1 = r ∧ wF ty ad o2 = u) (kz_B D ty A) A) args s 0 0 A) (F0 m 2 ls []))
    (fun k hk a H locs ls h hp => WX4_signIn_s24_t5_2b C  (fun q x2 x3 H locs ls h h1 h2 h3 h4 => hk (q, x2, x3) H locs ls h ⟨h1, h2, h3, h4⟩) a.1 a.2.1 a.2.2 H locs ls h hp.1 hp.2.1 hp.2.2.1 hp.2.2.2) n (q, x2, x3) H locs ls h ⟨hP, hD, hS, hl⟩
set_option maxHeartbeats 4000000 in
set_option maxRecDepth 100000 in
theorem qX4_signIn_s24_t5 (l : Launch) (D : va_G) (ty : Nat → ClassId) (eo : Nat → Nat) (sz : Nat) (ad : Nat → Nat) (q : dK) (p2 : Int32) (o1 : Int32) (o2 : dK) (h : zX4_signIn_s24_t5 q p2 = some (o1, o2)) : Met l yX4_signIn wsX4_signIn ({ frames := 4, cells := 0, slots := 0, locals := 85 } : Room) (va_Pc [.ref (ad 24), .ref (eo (1 + 5)), .int p2] (kz_pre D ty eo (wF ty ad q) sz)) (va_Qi (fun (r : Int32) (u : va_W) => o1 = r ∧ wF ty ad o2 = u) (kz_B D ty (va_A (wF ty ad q) sz)) (va_A (wF ty ad q) sz)) 0 0 (va_A (wF ty ad q) sz) := by
  refine Met.ofW (cc := cX4_signIn) (maxL := 4) (ret := (some .int)) (by decide) rfl ?_
  intro p e s m args below meth c s₁ B hml hv
  obtain ⟨rfl, hsz, hP, hK, hD0, hN, hE⟩ := hv
  have hx := B.exec
  have hb := B.bytes
  have hr := B.returns
  have hts := atoms_spec (ws := wsX4_signIn) B.pre
  have hown : s.vm.findClass RX4 = some m.cls := findClass_of_methodNamed B.named
  have hlocks := B.notSynchronized
  subst hsz
  have hD := hD0.self (sz := s.heap.size)
  generalize hAe : va_A (wF ty ad q) s.heap.size = A at hD hE ⊢
  have hA : ∀ q : Nat, s.heap.size ≤ q → A q := fun q h => by rw [← hAe]; exact Or.inr h
  clear hAe
  have hS : va_S A s.heap s.heap [] := va_S.rf
  have hl := lv_entry ([.ref (ad 24), .ref (eo (1 + 5)), .int p2]) (n := 4) (Nat.le_of_ble_eq_true rfl)
  rw [lg_entry_eq]
  generalize (lg_sl ([.ref (ad 24), .ref (eo (1 + 5)), .int p2]) ++ List.replicate (4 - (lg_sl ([.ref (ad 24), .ref (eo (1 + 5)), .int p2])).length) Slot.unset).toArray = ls at hl ⊢
  have hl : lv_has ls 4 [(0, .ref (ad 24)), (1, .ref (eo (1 + 5))), (2, .int p2)] := hl
  have C : dc_C p s m _ meth c cX4_signIn (some .int) 4 RX4 wsX4_signIn D ty eo A := ⟨hx, hb, hr, hts, hown, hlocks, hml, hK, hN, hE, hA⟩
  unfold zX4_signIn_s24_t5 at h
  refine lv_iconst (v := 0) hx hb dX4_signIn_0 (by decide) ?_
  refine lv_istore_n (lv' := [(3, .int 0), (0, .ref (ad 24)), (1, .ref (eo (1 + 5))), (2, .int p2)]) hx hb dX4_signIn_1 rfl hl (by decide) rfl (fun ls hl => ?_)
  exact WX4_signIn_s24_t5_2 C  _ _ _ _ _ _ _ h hP hD hS (lv_sub hl [1, 2, 3, 0] rfl)

set_option maxHeartbeats 4000000 in
set_option maxRecDepth 100000 in
theorem WX4_readSum_s24_59 {p : Program} {l : Launch} {e : Env} {s : State} {m : MethodId} {args : Array Value} {below : List Frame} {meth : Method} {c : Code} {D : va_G} {ty : Nat → ClassId} {eo : Nat → Nat} {A : Nat → Prop} {ad : Nat → Nat} {o2 : dK} {kS : dK → Option (dK)} {nS : Nat} (hkS : ∀ (sz : Nat) (q : dK)  (o2 : dK), kS q  = some o2 → Met l yX4_readSum wsX4_readSum ({ frames := 12 + 3 * nS, cells := 0, slots := 0, locals := 400 + 67 * nS } : Room) (va_Pc [.ref (ad 24)] (kz_pre D ty eo (wF ty ad q) sz)) (va_Qv (fun (u : va_W) => wF ty ad o2 = u) (kz_B D ty (va_A (wF ty ad q) sz)) (va_A (wF ty ad q) sz)) 0 0 (va_A (wF ty ad q) sz)) (C : dc_C p s m args meth c cX4_readSum none 3 RX4 wsX4_readSum D ty eo A)   (q : dK)  (H : Heap) (locs : List Loc) (ls : Array Slot) (h : zX4_readSum_s24_59 kS  q = some o2) (hP : va_P D vwCl (wF ty ad q) H) (hD : va_D A (wF ty ad q)) (hS : va_S A s.heap H locs) (hl : lv_has ls 3 []) : W p l e ({ frames := 12 + 3 * nS + 3, cells := 0, slots := 0, locals := 400 + 67 * nS + 67 } : Room) s m args below meth c H locs 0 0 (MQ below (va_Qv (fun (u : va_W) => wF ty ad o2 = u) (kz_B D ty A) A) args s 0 0 A) (F0 m 59 ls []) := by
  have C0 := C
  obtain ⟨hx, hb, hr, hts, hown, hlocks, hml, hK, hN, hE, hA⟩ := C
  unfold zX4_readSum_s24_59 at h
  cases h
  exact kz_vret hx hb hr hlocks hP hK hD hS dX4_readSum_59 rfl
set_option maxHeartbeats 4000000 in
set_option maxRecDepth 100000 in
theorem WX4_readSum_s24_6b {p : Program} {l : Launch} {e : Env} {s : State} {m : MethodId} {args : Array Value} {below : List Frame} {meth : Method} {c : Code} {D : va_G} {ty : Nat → ClassId} {eo : Nat → Nat} {A : Nat → Prop} {ad : Nat → Nat} {o2 : dK} {kS : dK → Option (dK)} {nS : Nat} (hkS : ∀ (sz : Nat) (q : dK)  (o2 : dK), kS q  = some o2 → Met l yX4_readSum wsX4_readSum ({ frames := 12 + 3 * nS, cells := 0, slots := 0, locals := 400 + 67 * nS } : Room) (va_Pc [.ref (ad 24)] (kz_pre D ty eo (wF ty ad q) sz)) (va_Qv (fun (u : va_W) => wF ty ad o2 = u) (kz_B D ty (va_A (wF ty ad q) sz)) (va_A (wF ty ad q) sz)) 0 0 (va_A (wF ty ad q) sz)) (C : dc_C p s m args meth c cX4_readSum none 3 RX4 wsX4_readSum D ty eo A) {k6 : dK → Int32 → Option (dK)} (hk6 : ∀ (q : dK) (x1 : Int32) (H : Heap) (locs : List Loc) (ls : Array Slot), k6 q x1 = some o2 → va_P D vwCl (wF ty ad q) H → va_D A (wF ty ad q) → va_S A s.heap H locs → lv_has ls 3 [(0, .ref (ad 24)), (1, .int x1)] → W p l e ({ frames := 12 + 3 * nS + 3, cells := 0, slots := 0, locals := 400 + 67 * nS + 67 } : Room) s m args below meth c H locs 0 0 (MQ below (va_Qv (fun (u : va_W) => wF ty ad o2 = u) (kz_B D ty A) A) args s 0 0 A) (F0 m 6 ls [])) (q : dK) (x1 : Int32) (H : Heap) (locs : List Loc) (ls : Array Slot) (h : zX4_readSum_s24_6b kS k6 q x1 = some o2) (hP : va_P D vwCl (wF ty ad q) H) (hD : va_D A (wF ty ad q)) (hS : va_S A s.heap H locs) (hl : lv_has ls 3 [(0, .ref (ad 24)), (1, .int x1)]) : W p l e ({ frames := 12 + 3 * nS + 3, cells := 0, slots := 0, locals := 400 + 67 * nS + 67 } : Room) s m args below meth c H locs 0 0 (MQ below (va_Qv (fun (u : va_W) => wF ty ad o2 = u) (kz_B D ty A) A) args s 0 0 A) (F0 m 6 ls []) := by
  have C0 := C
  obtain ⟨hx, hb, hr, hts, hown, hlocks, hml, hK, hN, hE, hA⟩ := C
  unfold zX4_readSum_s24_6b at h
  refine lv_iload_n hx hb dX4_readSum_6 rfl (lv_at hl 1 rfl) ?_
  refine lv_aload_n hx hb dX4_readSum_7 rfl (lv_at hl 0 rfl) ?_
  refine va_get (D := D) (ci := 4) (v := .int (q.1 24 1)) (C := RX4) (T := TX4) (N := 11) hx hb hts u9_wsX4_readSum_X4 hown hK hP 24 rfl rfl 1 (by decide) (hts (.fieldLink RX4 15 "TurnedFloors$Reader" "length" "I") f9_wsX4_readSum_515) (fun _ h9 => h9) rfl dX4_readSum_8 ?_
  refine lv_icmp_ge (tgt := 59) hx hb dX4_readSum_11 (by decide) (fun c9 => ?_) (fun c9 => ?_)
  · rw [if_pos c9] at h
    exact WX4_readSum_s24_59 hkS C0  _ _ _ _ h hP hD hS (lv_sub hl [] rfl)
  · rw [if_neg c9] at h
    refine lv_aload_n hx hb dX4_readSum_14 rfl (lv_at hl 0 rfl) ?_
    refine va_get (D := D) (ci := 4) (v := .int (q.1 24 10)) (C := RX4) (T := TX4) (N := 11) hx hb hts u9_wsX4_readSum_X4 hown hK hP 24 rfl rfl 10 (by decide) (hts (.fieldLink RX4 45 "TurnedFloors$Reader" "faultAt" "I") f9_wsX4_readSum_516) (fun _ h9 => h9) rfl dX4_readSum_15 ?_
    refine lv_iconst (v := (-1)) hx hb dX4_readSum_18 (by decide) ?_
    refine lv_icmp_ne (tgt := 59) hx hb dX4_readSum_19 (by decide) (fun c9 => ?_) (fun c9 => ?_)
    · rw [if_neg c9] at h
      exact WX4_readSum_s24_59 hkS C0  _ _ _ _ h hP hD hS (lv_sub hl [] rfl)
    · rw [if_pos c9] at h
      refine lv_aload_n hx hb dX4_readSum_22 rfl (lv_at hl 0 rfl) ?_
      refine va_ldcS hx hb hown (hE.2.2.2.2.1 5 (by decide)) dX4_readSum_23 ?_
      refine lv_iconst (v := 2) hx hb dX4_readSum_25 (by decide) ?_
      obtain ⟨r1, q3, h2, h⟩ := dB_some h
      refine dw_ki (va_runV (As := [.ref (eo (1 + 5)), .int 2]) (rest := []) ⟨hx, hb, hml, hown, hts⟩ (qX4_signIn_s24_t5 l D ty eo _ ad q 2 r1 q3 h2) (cwV 2 hts gX4_readSum_X4_signIn rfl rfl rfl hd_X4_signIn_v ⟨by dsimp only [headSpec]; omega, by dsimp only [headSpec]; omega⟩) (pvF_4_24 hK hN hE hP hD hS hA) rfl rfl hl.1 rfl (lv_room (Nat.le_of_ble_eq_true rfl)) dX4_readSum_26 ⟨Nat.le_of_ble_eq_true rfl, Nat.le_of_ble_eq_true rfl⟩) hD hS hA (fun r9 u9 H locs hw hp hd hs => ?_)
      clear hP hD hS
      obtain ⟨rfl, rfl⟩ := hw
      have hP := hp; have hD := hd; have hS := hs; clear hp hd hs
      refine lv_istore_n (lv' := [(2, .int r1), (0, .ref (ad 24)), (1, .int x1)]) hx hb dX4_readSum_29 rfl hl (by decide) rfl (fun ls hl => ?_)
      refine lv_iload_n hx hb dX4_readSum_30 rfl (lv_at hl 0 rfl) ?_
      refine lv_iconst (v := (-1)) hx hb dX4_readSum_31 (by decide) ?_
      refine lv_icmp_ne (tgt := 36) hx hb dX4_readSum_32 (by decide) (fun c9 => ?_) (fun c9 => ?_)
      · rw [if_neg c9] at h
        refine lv_aload_n hx hb dX4_readSum_36 rfl (lv_at hl 1 rfl) ?_
        obtain ⟨q6, h5, h⟩ := dV_some h
        refine dw_kv (va_runV (As := []) (rest := []) ⟨hx, hb, hml, hown, hts⟩ (qX4_step_s24 l D ty eo _ ad q3  q6 h5) (cwV 0 hts gX4_readSum_X4_step rfl rfl rfl hd_X4_step_v ⟨by dsimp only [headSpec]; omega, by dsimp only [headSpec]; omega⟩) (pvF_4_24 hK hN hE hP hD hS hA) rfl rfl hl.1 rfl (lv_room (Nat.le_of_ble_eq_true rfl)) dX4_readSum_37 ⟨Nat.le_of_ble_eq_true rfl, Nat.le_of_ble_eq_true rfl⟩) hD hS hA (fun u9 H locs hw hp hd hs => ?_)
        clear hP hD hS
        obtain rfl := hw
        have hP := hp; have hD := hd; have hS := hs; clear hp hd hs
        refine lv_aload_n hx hb dX4_readSum_40 rfl (lv_at hl 1 rfl) ?_
        obtain ⟨q9, h8, h⟩ := dV_some h
        refine dw_kv (va_runV (As := []) (rest := []) ⟨hx, hb, hml, hown, hts⟩ (qX4_readTerm_s24 l D ty eo _ ad kS nS hkS q6  q9 h8) (cwV 0 hts gX4_readSum_X4_readTerm rfl rfl rfl hd_X4_readTerm_v ⟨by dsimp only [headSpec]; omega, by dsimp only [headSpec]; omega⟩) (pvF_4_24 hK hN hE hP hD hS hA) rfl rfl hl.1 rfl (lv_room (Nat.le_of_ble_eq_true rfl)) dX4_readSum_41 ⟨Nat.le_of_ble_eq_true rfl, Nat.le_of_ble_eq_true rfl⟩) hD hS hA (fun u9 H locs hw hp hd hs => ?_)
        clear hP hD hS
        obtain rfl := hw
        have hP := hp; have hD := hd; have hS := hs; clear hp hd hs
        refine lv_aload_n hx hb dX4_readSum_44 rfl (lv_at hl 1 rfl) ?_
        refine va_get (D := D) (ci := 4) (v := dN (ad 25) (q9.1 24 3)) (C := RX4) (T := TX4) (N := 11) hx hb hts u9_wsX4_readSum_X4 hown hK hP 24 rfl rfl 3 (by decide) (hts (.fieldLink RX4 23 "TurnedFloors$Reader" "text" "LTurnedFloors$Text;") f9_wsX4_readSum_517) (fun _ h9 => h9) rfl dX4_readSum_45 ?_
        obtain ⟨g10, h⟩ := dG_some h
        refine kz_topv (if_neg (dnz_ne g10)) ?_
        refine lv_iload_n hx hb dX4_readSum_48 rfl (lv_at hl 0 rfl) ?_
        refine lv_iconst (v := 0) hx hb dX4_readSum_49 (by decide) ?_
        obtain ⟨q13, h12, h⟩ := dV_some h
        refine dw_kv (va_runV (As := [.int r1, .int 0]) (rest := []) ⟨hx, hb, hml, hown, hts⟩ (qX7_emit_s25 l D ty eo _ ad q9 r1 0 q13 h12) (cwV 2 hts gX4_readSum_X7_emit rfl rfl rfl hd_X7_emit_v ⟨by dsimp only [headSpec]; omega, by dsimp only [headSpec]; omega⟩) (pvF_7_25 hK hN hE hP hD hS hA) rfl rfl hl.1 rfl (lv_room (Nat.le_of_ble_eq_true rfl)) dX4_readSum_50 ⟨Nat.le_of_ble_eq_true rfl, Nat.le_of_ble_eq_true rfl⟩) hD hS hA (fun u9 H locs hw hp hd hs => ?_)
        clear hP hD hS
        obtain rfl := hw
        have hP := hp; have hD := hd; have hS := hs; clear hp hd hs
        refine lv_iinc (v := x1 + 1) (lv' := [(1, .int (x1 + 1)), (2, .int r1), (0, .ref (ad 24))]) hx hb dX4_readSum_53 hl (k := 2) rfl rfl (by decide) rfl (fun ls hl => ?_)
        refine lv_goto (tgt := 6) hx hb dX4_readSum_56 (by decide) ?_
        exact hk6 _ _ _ _ _ h hP hD hS (lv_sub hl [2, 0] rfl)
      · rw [if_pos c9] at h
        cases h
        exact kz_vret hx hb hr hlocks hP hK hD hS dX4_readSum_35 rfl
set_option maxHeartbeats 4000000 in
set_option maxRecDepth 100000 in
theorem WX4_readSum_s24_6 {p : Program} {l : Launch} {e : Env} {s : State} {m : MethodId} {args : Array Value} {below : List Frame} {meth : Method} {c : Code} {D : va_G} {ty : Nat → ClassId} {eo : Nat → Nat} {A : Nat → Prop} {ad : Nat → Nat} {o2 : dK} {kS : dK → Option (dK)} {nS : Nat} (hkS : ∀ (sz : Nat) (q : dK)  (o2 : dK), kS q  = some o2 → Met l yX4_readSum wsX4_readSum ({ frames := 12 + 3 * nS, cells := 0, slots := 0, locals := 400 + 67 * nS } : Room) (va_Pc [.ref (ad 24)] (kz_pre D ty eo (wF ty ad q) sz)) (va_Qv (fun (u : va_W) => wF ty ad o2 = u) (kz_B D ty (va_A (wF ty ad q) sz)) (va_A (wF ty ad q) sz)) 0 0 (va_A (wF ty ad q) sz)) (C : dc_C p s m args meth c cX4_readSum none 3 RX4 wsX4_readSum D ty eo A)   (n : Nat) (q : dK) (x1 : Int32) (H : Heap) (locs : List Loc) (ls : Array Slot) (h : zX4_readSum_s24_6 kS  n q x1 = some o2) (hP : va_P D vwCl (wF ty ad q) H) (hD : va_D A (wF ty ad q)) (hS : va_S A s.heap H locs) (hl : lv_has ls 3 [(0, .ref (ad 24)), (1, .int x1)]) : W p l e ({ frames := 12 + 3 * nS + 3, cells := 0, slots := 0, locals := 400 + 67 * nS + 67 } : Room) s m args below meth c H locs 0 0 (MQ below (va_Qv (fun (u : va_W) => wF ty ad o2 = u) (kz_B D ty A) A) args s 0 0 A) (F0 m 6 ls []) := by
  exact dFix_W (F := fun k (a : dK × Int32) => zX4_readSum_s24_6b kS  (fun q x1 => k (q, x1)) a.1 a.2) (o := o2) (P := fun (a : dK × Int32) H locs ls => va_P D vwCl (wF ty ad a.1) H ∧ va_D A (wF ty ad a.1) ∧ va_S A s.heap H locs ∧ lv_has ls 3 [(0, .ref (ad 24)), (1, .int a.2)]) (G := fun H locs ls => W p l e ({ frames := 12 + 3 * nS + 3, cells := 0, slots := 0, locals := 400 + 67 * nS + 67 } : Room) s m args below meth c H locs 0 0 (MQ below (va_Qv (fun (u : va_W) => wF ty ad o2 = u) (kz_B D ty A) A) args s 0 0 A) (F0 m 6 ls []))
    (fun k hk a H locs ls h hp => WX4_readSum_s24_6b hkS C  (fun q x1 H locs ls h h1 h2 h3 h4 => hk (q, x1) H locs ls h ⟨h1, h2, h3, h4⟩) a.1 a.2 H locs ls h hp.1 hp.2.1 hp.2.2.1 hp.2.2.2) n (q, x1) H locs ls h ⟨hP, hD, hS, hl⟩
set_option maxHeartbeats 4000000 in
set_option maxRecDepth 100000 in
theorem qX4_readSum_s24_o (l : Launch) (D : va_G) (ty : Nat → ClassId) (eo : Nat → Nat) (sz : Nat) (ad : Nat → Nat) (kS : dK → Option (dK)) (nS : Nat) (hkS : ∀ (sz : Nat) (q : dK)  (o2 : dK), kS q  = some o2 → Met l yX4_readSum wsX4_readSum ({ frames := 12 + 3 * nS, cells := 0, slots := 0, locals := 400 + 67 * nS } : Room) (va_Pc [.ref (ad 24)] (kz_pre D ty eo (wF ty ad q) sz)) (va_Qv (fun (u : va_W) => wF ty ad o2 = u) (kz_B D ty (va_A (wF ty ad q) sz)) (va_A (wF ty ad q) sz)) 0 0 (va_A (wF ty ad q) sz)) (q : dK)  (o2 : dK) (h : zX4_readSum_s24_o kS q = some o2) : Met l yX4_readSum wsX4_readSum ({ frames := 12 + 3 * nS + 3, cells := 0, slots := 0, locals := 400 + 67 * nS + 67 } : Room) (va_Pc [.ref (ad 24)] (kz_pre D ty eo (wF ty ad q) sz)) (va_Qv (fun (u : va_W) => wF ty ad o2 = u) (kz_B D ty (va_A (wF ty ad q) sz)) (va_A (wF ty ad q) sz)) 0 0 (va_A (wF ty ad q) sz) := by
  refine Met.ofW (cc := cX4_readSum) (maxL := 3) (ret := none) (by decide) rfl ?_
  intro p e s m args below meth c s₁ B hml hv
  obtain ⟨rfl, hsz, hP, hK, hD0, hN, hE⟩ := hv
  have hx := B.exec
  have hb := B.bytes
  have hr := B.returns
  have hts := atoms_spec (ws := wsX4_readSum) B.pre
  have hown : s.vm.findClass RX4 = some m.cls := findClass_of_methodNamed B.named
  have hlocks := B.notSynchronized
  subst hsz
  have hD := hD0.self (sz := s.heap.size)
  generalize hAe : va_A (wF ty ad q) s.heap.size = A at hD hE ⊢
  have hA : ∀ q : Nat, s.heap.size ≤ q → A q := fun q h => by rw [← hAe]; exact Or.inr h
  clear hAe
  have hS : va_S A s.heap s.heap [] := va_S.rf
  have hl := lv_entry ([.ref (ad 24)]) (n := 3) (Nat.le_of_ble_eq_true rfl)
  rw [lg_entry_eq]
  generalize (lg_sl ([.ref (ad 24)]) ++ List.replicate (3 - (lg_sl ([.ref (ad 24)])).length) Slot.unset).toArray = ls at hl ⊢
  have hl : lv_has ls 3 [(0, .ref (ad 24))] := hl
  have C : dc_C p s m _ meth c cX4_readSum none 3 RX4 wsX4_readSum D ty eo A := ⟨hx, hb, hr, hts, hown, hlocks, hml, hK, hN, hE, hA⟩
  unfold zX4_readSum_s24_o at h
  refine lv_aload_n hx hb dX4_readSum_0 rfl (lv_at hl 0 rfl) ?_
  obtain ⟨q3, h2, h⟩ := dV_some h
  refine dw_kv (va_runV (As := []) (rest := []) ⟨hx, hb, hml, hown, hts⟩ (qX4_readTerm_s24 l D ty eo _ ad kS nS hkS q  q3 h2) (cwV 0 hts gX4_readSum_X4_readTerm rfl rfl rfl hd_X4_readTerm_v ⟨by dsimp only [headSpec]; omega, by dsimp only [headSpec]; omega⟩) (pvF_4_24 hK hN hE hP hD hS hA) rfl rfl hl.1 rfl (lv_room (Nat.le_of_ble_eq_true rfl)) dX4_readSum_1 ⟨Nat.le_of_ble_eq_true rfl, Nat.le_of_ble_eq_true rfl⟩) hD hS hA (fun u9 H locs hw hp hd hs => ?_)
  clear hP hD hS
  obtain rfl := hw
  have hP := hp; have hD := hd; have hS := hs; clear hp hd hs
  refine lv_iconst (v := 0) hx hb dX4_readSum_4 (by decide) ?_
  refine lv_istore_n (lv' := [(1, .int 0), (0, .ref (ad 24))]) hx hb dX4_readSum_5 rfl hl (by decide) rfl (fun ls hl => ?_)
  exact WX4_readSum_s24_6 hkS C  _ _ _ _ _ _ h hP hD hS (lv_sub hl [1, 0] rfl)
set_option maxHeartbeats 4000000 in
set_option maxRecDepth 100000 in
theorem qX4_readSum_s24 (l : Launch) (D : va_G) (ty : Nat → ClassId) (eo : Nat → Nat) (sz : Nat) (ad : Nat → Nat) (n : Nat) : ∀ (q : dK)  (o2 : dK), zX4_readSum_s24 n q  = some o2 → Met l yX4_readSum wsX4_readSum ({ frames := 12 + 3 * n, cells := 0, slots := 0, locals := 400 + 67 * n } : Room) (va_Pc [.ref (ad 24)] (kz_pre D ty eo (wF ty ad q) sz)) (va_Qv (fun (u : va_W) => wF ty ad o2 = u) (kz_B D ty (va_A (wF ty ad q) sz)) (va_A (wF ty ad q) sz)) 0 0 (va_A (wF ty ad q) sz) := by
  induction n generalizing sz with
  | zero => intro q  o2 h; cases h
  | succ n ih =>
    intro q  o2 h
    have h2 := qX4_readSum_s24_o l D ty eo sz ad (zX4_readSum_s24 n) n (fun sz q  o2 h => ih sz q  o2 h) q  o2 h
    have e : ({ frames := 12 + 3 * n + 3, cells := 0, slots := 0, locals := 400 + 67 * n + 67 } : Room) = ({ frames := 12 + 3 * (n + 1), cells := 0, slots := 0, locals := 400 + 67 * (n + 1) } : Room) := by congr 1 <;> omega
    rw [← e]
    exact h2

set_option maxHeartbeats 4000000 in
set_option maxRecDepth 100000 in
theorem WX7_endSum_s25_37 {p : Program} {l : Launch} {e : Env} {s : State} {m : MethodId} {args : Array Value} {below : List Frame} {meth : Method} {c : Code} {D : va_G} {ty : Nat → ClassId} {eo : Nat → Nat} {A : Nat → Prop} {ad : Nat → Nat} {o2 : dK} (C : dc_C p s m args meth c cX7_endSum none 1 RX7 wsX7_endSum D ty eo A)   (q : dK)  (H : Heap) (locs : List Loc) (ls : Array Slot) (h : zX7_endSum_s25_37  q = some o2) (hP : va_P D vwCl (wF ty ad q) H) (hD : va_D A (wF ty ad q)) (hS : va_S A s.heap H locs) (hl : lv_has ls 1 []) : W p l e ({ frames := 0, cells := 0, slots := 0, locals := 0 } : Room) s m args below meth c H locs 0 0 (MQ below (va_Qv (fun (u : va_W) => wF ty ad o2 = u) (kz_B D ty A) A) args s 0 0 A) (F0 m 37 ls []) := by
  have C0 := C
  obtain ⟨hx, hb, hr, hts, hown, hlocks, hml, hK, hN, hE, hA⟩ := C
  unfold zX7_endSum_s25_37 at h
  cases h
  exact kz_vret hx hb hr hlocks hP hK hD hS dX7_endSum_37 rfl
set_option maxHeartbeats 4000000 in
set_option maxRecDepth 100000 in
theorem qX7_endSum_s25 (l : Launch) (D : va_G) (ty : Nat → ClassId) (eo : Nat → Nat) (sz : Nat) (ad : Nat → Nat) (q : dK)  (o2 : dK) (h : zX7_endSum_s25 q = some o2) : Met l yX7_endSum wsX7_endSum ({ frames := 0, cells := 0, slots := 0, locals := 0 } : Room) (va_Pc [.ref (ad 25)] (kz_pre D ty eo (wF ty ad q) sz)) (va_Qv (fun (u : va_W) => wF ty ad o2 = u) (kz_B D ty (va_A (wF ty ad q) sz)) (va_A (wF ty ad q) sz)) 0 0 (va_A (wF ty ad q) sz) := by
  refine Met.ofW (cc := cX7_endSum) (maxL := 1) (ret := none) (by decide) rfl ?_
  intro p e s m args below meth c s₁ B hml hv
  obtain ⟨rfl, hsz, hP, hK, hD0, hN, hE⟩ := hv
  have hx := B.exec
  have hb := B.bytes
  have hr := B.returns
  have hts := atoms_spec (ws := wsX7_endSum) B.pre
  have hown : s.vm.findClass RX7 = some m.cls := findClass_of_methodNamed B.named
  have hlocks := B.notSynchronized
  subst hsz
  have hD := hD0.self (sz := s.heap.size)
  generalize hAe : va_A (wF ty ad q) s.heap.size = A at hD hE ⊢
  have hA : ∀ q : Nat, s.heap.size ≤ q → A q := fun q h => by rw [← hAe]; exact Or.inr h
  clear hAe
  have hS : va_S A s.heap s.heap [] := va_S.rf
  have hl := lv_entry ([.ref (ad 25)]) (n := 1) (Nat.le_of_ble_eq_true rfl)
  rw [lg_entry_eq]
  generalize (lg_sl ([.ref (ad 25)]) ++ List.replicate (1 - (lg_sl ([.ref (ad 25)])).length) Slot.unset).toArray = ls at hl ⊢
  have hl : lv_has ls 1 [(0, .ref (ad 25))] := hl
  have C : dc_C p s m _ meth c cX7_endSum none 1 RX7 wsX7_endSum D ty eo A := ⟨hx, hb, hr, hts, hown, hlocks, hml, hK, hN, hE, hA⟩
  unfold zX7_endSum_s25 at h
  refine lv_aload_n hx hb dX7_endSum_0 rfl (lv_at hl 0 rfl) ?_
  refine va_get (D := D) (ci := 7) (v := .int (q.1 25 6)) (C := RX7) (T := TX7) (N := 8) hx hb hts u9_wsX7_endSum_X7 hown hK hP 25 rfl rfl 6 (by decide) (hts (.fieldLink RX7 7 "TurnedFloors$Text" "clauses" "I") f9_wsX7_endSum_519) (fun _ h9 => h9) rfl dX7_endSum_1 ?_
  refine lv_if_le (tgt := 37) hx hb dX7_endSum_4 (by decide) (fun c9 => ?_) (fun c9 => ?_)
  · rw [if_pos c9] at h
    exact WX7_endSum_s25_37 C  _ _ _ _ h hP hD hS (lv_sub hl [] rfl)
  · rw [if_neg c9] at h
    refine lv_aload_n hx hb dX7_endSum_7 rfl (lv_at hl 0 rfl) ?_
    refine va_get (D := D) (ci := 7) (v := .ref (ad 29)) (C := RX7) (T := TX7) (N := 8) hx hb hts u9_wsX7_endSum_X7 hown hK hP 25 rfl rfl 3 (by decide) (hts (.fieldLink RX7 26 "TurnedFloors$Text" "testFrom" "[I") f9_wsX7_endSum_520) (fun _ h9 => h9) rfl dX7_endSum_8 ?_
    refine lv_aload_n hx hb dX7_endSum_11 rfl (lv_at hl 0 rfl) ?_
    refine va_get (D := D) (ci := 7) (v := .int (q.1 25 6)) (C := RX7) (T := TX7) (N := 8) hx hb hts u9_wsX7_endSum_X7 hown hK hP 25 rfl rfl 6 (by decide) (hts (.fieldLink RX7 7 "TurnedFloors$Text" "clauses" "I") f9_wsX7_endSum_519) (fun _ h9 => h9) rfl dX7_endSum_12 ?_
    refine lv_iconst (v := 1) hx hb dX7_endSum_15 (by decide) ?_
    refine lv_isub hx hb dX7_endSum_16 ?_
    refine lv_aload_n hx hb dX7_endSum_17 rfl (lv_at hl 0 rfl) ?_
    refine va_get (D := D) (ci := 7) (v := .int (q.1 25 7)) (C := RX7) (T := TX7) (N := 8) hx hb hts u9_wsX7_endSum_X7 hown hK hP 25 rfl rfl 7 (by decide) (hts (.fieldLink RX7 13 "TurnedFloors$Text" "length" "I") f9_wsX7_endSum_521) (fun _ h9 => h9) rfl dX7_endSum_18 ?_
    obtain ⟨g1, h⟩ := dG_some h
    refine va_iast hx hb hK hP hD hS 29 0 rfl rfl (dg_in g1) dX7_endSum_21 (fun H locs hp hd hs => ?_)
    obtain ⟨q2, eq2, h⟩ := dL_some h
    refine kz_re (w2 := wF ty ad q2) hp hd hs (by rw [← eq2]; exact wF_a29 ty ad q (Int32.toNatClampNeg ((q.1 25 6) - 1 : Int32)) (q.1 25 7)) ?_
    clear hp hd hs hP hD hS
    intro hP hD hS
    refine lv_aload_n hx hb dX7_endSum_22 rfl (lv_at hl 0 rfl) ?_
    refine va_get (D := D) (ci := 7) (v := .ref (ad 30)) (C := RX7) (T := TX7) (N := 8) hx hb hts u9_wsX7_endSum_X7 hown hK hP 25 rfl rfl 4 (by decide) (hts (.fieldLink RX7 29 "TurnedFloors$Text" "testTo" "[I") f9_wsX7_endSum_522) (fun _ h9 => h9) rfl dX7_endSum_23 ?_
    refine lv_aload_n hx hb dX7_endSum_26 rfl (lv_at hl 0 rfl) ?_
    refine va_get (D := D) (ci := 7) (v := .int (q2.1 25 6)) (C := RX7) (T := TX7) (N := 8) hx hb hts u9_wsX7_endSum_X7 hown hK hP 25 rfl rfl 6 (by decide) (hts (.fieldLink RX7 7 "TurnedFloors$Text" "clauses" "I") f9_wsX7_endSum_519) (fun _ h9 => h9) rfl dX7_endSum_27 ?_
    refine lv_iconst (v := 1) hx hb dX7_endSum_30 (by decide) ?_
    refine lv_isub hx hb dX7_endSum_31 ?_
    refine lv_aload_n hx hb dX7_endSum_32 rfl (lv_at hl 0 rfl) ?_
    refine va_get (D := D) (ci := 7) (v := .int (q2.1 25 7)) (C := RX7) (T := TX7) (N := 8) hx hb hts u9_wsX7_endSum_X7 hown hK hP 25 rfl rfl 7 (by decide) (hts (.fieldLink RX7 13 "TurnedFloors$Text" "length" "I") f9_wsX7_endSum_521) (fun _ h9 => h9) rfl dX7_endSum_33 ?_
    obtain ⟨g3, h⟩ := dG_some h
    refine va_iast hx hb hK hP hD hS 30 0 rfl rfl (dg_in g3) dX7_endSum_36 (fun H locs hp hd hs => ?_)
    obtain ⟨q4, eq4, h⟩ := dL_some h
    refine kz_re (w2 := wF ty ad q4) hp hd hs (by rw [← eq4]; exact wF_a30 ty ad q2 (Int32.toNatClampNeg ((q2.1 25 6) - 1 : Int32)) (q2.1 25 7)) ?_
    clear hp hd hs hP hD hS
    intro hP hD hS
    exact WX7_endSum_s25_37 C  _ _ _ _ h hP hD hS (lv_sub hl [] rfl)

set_option maxHeartbeats 4000000 in
set_option maxRecDepth 100000 in
theorem WX4_isSame_s24_t6_20b {p : Program} {l : Launch} {e : Env} {s : State} {m : MethodId} {args : Array Value} {below : List Frame} {meth : Method} {c : Code} {D : va_G} {ty : Nat → ClassId} {eo : Nat → Nat} {A : Nat → Prop} {ad : Nat → Nat} {o1 : Int32} {o2 : dK} (C : dc_C p s m args meth c cX4_isSame (some .boolean) 5 RX4 wsX4_isSame D ty eo A) {k20 : dK → Int32 → Int32 → Int32 → Option (Int32 × dK)} (hk20 : ∀ (q : dK) (x2 : Int32) (x3 : Int32) (x4 : Int32) (H : Heap) (locs : List Loc) (ls : Array Slot), k20 q x2 x3 x4 = some (o1, o2) → va_P D vwCl (wF ty ad q) H → va_D A (wF ty ad q) → va_S A s.heap H locs → lv_has ls 5 [(0, .ref (ad 24)), (1, .ref (eo (1 + 6))), (2, .int x2), (3, .int x3), (4, .int x4)] → W p l e ({ frames := 4, cells := 0, slots := 0, locals := 85 } : Room) s m args below meth c H locs 0 0 (MQ below (va_Qi (fun (r : Int32) (u : va_W) => o1 = r ∧ wF ty ad o2 = u) (kz_B D ty A) A) args s 0 0 A) (F0 m 20 ls [])) (q : dK) (x2 : Int32) (x3 : Int32) (x4 : Int32) (H : Heap) (locs : List Loc) (ls : Array Slot) (h : zX4_isSame_s24_t6_20b k20 q x2 x3 x4 = some (o1, o2)) (hP : va_P D vwCl (wF ty ad q) H) (hD : va_D A (wF ty ad q)) (hS : va_S A s.heap H locs) (hl : lv_has ls 5 [(0, .ref (ad 24)), (1, .ref (eo (1 + 6))), (2, .int x2), (3, .int x3), (4, .int x4)]) : W p l e ({ frames := 4, cells := 0, slots := 0, locals := 85 } : Room) s m args below meth c H locs 0 0 (MQ below (va_Qi (fun (r : Int32) (u : va_W) => o1 = r ∧ wF ty ad o2 = u) (kz_B D ty A) A) args s 0 0 A) (F0 m 20 ls []) := by
  have C0 := C
  obtain ⟨hx, hb, hr, hts, hown, hlocks, hml, hK, hN, hE, hA⟩ := C
  unfold zX4_isSame_s24_t6_20b at h
  refine lv_iload hx hb dX4_isSame_20 (lv_at hl 4 rfl) ?_
  refine lv_iload_n hx hb dX4_isSame_22 rfl (lv_at hl 3 rfl) ?_
  refine lv_icmp_ge (tgt := 57) hx hb dX4_isSame_23 (by decide) (fun c9 => ?_) (fun c9 => ?_)
  · rw [if_pos c9] at h
    refine lv_iconst (v := 1) hx hb dX4_isSame_57 (by decide) ?_
    cases h
    exact kz_zret hx hb hr hlocks rfl hP hK hD hS dX4_isSame_58 ⟨rfl, rfl⟩
  · rw [if_neg c9] at h
    refine lv_aload_n hx hb dX4_isSame_26 rfl (lv_at hl 1 rfl) ?_
    refine lv_iload hx hb dX4_isSame_27 (lv_at hl 4 rfl) ?_
    obtain ⟨g1, h⟩ := dG_some h
    refine dw_ks (va_runV (As := [.int x4]) (rest := []) ⟨hx, hb, hml, hown, hts⟩ (kcJ0ch l D ty eo _ 6 (by decide) x4 (dg_in g1)) (cwV 1 hts gX4_isSame_J0_charAt_5068e rfl rfl rfl hd_J0_charAt_5068e_v ⟨Nat.le_of_ble_eq_true rfl, Nat.le_of_ble_eq_true rfl⟩) (kz_preT hK hN hE hP hD hS hA 6 (by decide) [] (by decide) rfl) rfl rfl hl.1 rfl (lv_room (Nat.le_of_ble_eq_true rfl)) dX4_isSame_29 ⟨Nat.le_of_ble_eq_true rfl, Nat.le_of_ble_eq_true rfl⟩) hP hD hS hA (fun _ _ h9 => h9.2.symm) (fun r9 u9 H locs hw hp hd hs => ?_)
    obtain ⟨rfl, -⟩ := hw
    clear hP hD hS
    have hP := hp; have hD := hd; have hS := hs; clear hp hd hs
    obtain ⟨v2, ev2, h⟩ := dL_some h
    refine kz_topi v2 ev2 ?_
    refine lv_aload_n hx hb dX4_isSame_32 rfl (lv_at hl 0 rfl) ?_
    refine va_get (D := D) (ci := 4) (v := dN (ad 46) (q.1 24 0)) (C := RX4) (T := TX4) (N := 11) hx hb hts u9_wsX4_isSame_X4 hown hK hP 24 rfl rfl 0 (by decide) (hts (.fieldLink RX4 9 "TurnedFloors$Reader" "bytes" "[I") f9_wsX4_isSame_474) (fun _ h9 => h9) rfl dX4_isSame_33 ?_
    obtain ⟨g3, h⟩ := dG_some h
    refine kz_topv (if_neg (dnz_ne g3)) ?_
    refine lv_aload_n hx hb dX4_isSame_36 rfl (lv_at hl 0 rfl) ?_
    refine va_get (D := D) (ci := 4) (v := .int (q.1 24 5)) (C := RX4) (T := TX4) (N := 11) hx hb hts u9_wsX4_isSame_X4 hown hK hP 24 rfl rfl 5 (by decide) (hts (.fieldLink RX4 30 "TurnedFloors$Reader" "start" "I") f9_wsX4_isSame_475) (fun _ h9 => h9) rfl dX4_isSame_37 ?_
    refine lv_iload hx hb dX4_isSame_40 (lv_at hl 4 rfl) ?_
    refine lv_iadd hx hb dX4_isSame_42 ?_
    refine lv_iload_n hx hb dX4_isSame_43 rfl (lv_at hl 2 rfl) ?_
    refine lv_isub hx hb dX4_isSame_44 ?_
    obtain ⟨g4, h⟩ := dG_some h
    refine va_iald hx hb hK hP 46 0 rfl rfl (dg_in g4) dX4_isSame_45 ?_
    obtain ⟨v5, ev5, h⟩ := dL_some h
    refine kz_topi v5 ev5 ?_
    refine lv_icmp_eq (tgt := 51) hx hb dX4_isSame_46 (by decide) (fun c9 => ?_) (fun c9 => ?_)
    · rw [if_pos c9] at h
      refine lv_iinc (v := x4 + 1) (lv' := [(4, .int (x4 + 1)), (0, .ref (ad 24)), (1, .ref (eo (1 + 6))), (2, .int x2), (3, .int x3)]) hx hb dX4_isSame_51 hl (k := 4) rfl rfl (by decide) rfl (fun ls hl => ?_)
      refine lv_goto (tgt := 20) hx hb dX4_isSame_54 (by decide) ?_
      exact hk20 _ _ _ _ _ _ _ h hP hD hS (lv_sub hl [1, 2, 3, 4, 0] rfl)
    · rw [if_neg c9] at h
      refine lv_iconst (v := 0) hx hb dX4_isSame_49 (by decide) ?_
      cases h
      exact kz_zret hx hb hr hlocks rfl hP hK hD hS dX4_isSame_50 ⟨rfl, rfl⟩
set_option maxHeartbeats 4000000 in
set_option maxRecDepth 100000 in
theorem WX4_isSame_s24_t6_20 {p : Program} {l : Launch} {e : Env} {s : State} {m : MethodId} {args : Array Value} {below : List Frame} {meth : Method} {c : Code} {D : va_G} {ty : Nat → ClassId} {eo : Nat → Nat} {A : Nat → Prop} {ad : Nat → Nat} {o1 : Int32} {o2 : dK} (C : dc_C p s m args meth c cX4_isSame (some .boolean) 5 RX4 wsX4_isSame D ty eo A)   (n : Nat) (q : dK) (x2 : Int32) (x3 : Int32) (x4 : Int32) (H : Heap) (locs : List Loc) (ls : Array Slot) (h : zX4_isSame_s24_t6_20  n q x2 x3 x4 = some (o1, o2)) (hP : va_P D vwCl (wF ty ad q) H) (hD : va_D A (wF ty ad q)) (hS : va_S A s.heap H locs) (hl : lv_has ls 5 [(0, .ref (ad 24)), (1, .ref (eo (1 + 6))), (2, .int x2), (3, .int x3), (4, .int x4)]) : W p l e ({ frames := 4, cells := 0, slots := 0, locals := 85 } : Room) s m args below meth c H locs 0 0 (MQ below (va_Qi (fun (r : Int32) (u : va_W) => o1 = r ∧ wF ty ad o2 = u) (kz_B D ty A) A) args s 0 0 A) (F0 m 20 ls []) := by
  exact dFix_W (F := fun k (a : dK × Int32 × Int32 × Int32) => zX4_isSame_s24_t6_20b  (fun q x2 x3 x4 => k (q, x2, x3, x4)) a.1 a.2.1 a.2.2.1 a.2.2.2) (o := (o1, o2)) (P := fun (a : dK × Int32 × Int32 × Int32) H locs ls => va_P D vwCl (wF ty ad a.1) H ∧ va_D A (wF ty ad a.1) ∧ va_S A s.heap H locs ∧ lv_has ls 5 [(0, .ref (ad 24)), (1, .ref (eo (1 + 6))), (2, .int a.2.1), (3, .int a.2.2.1), (4, .int a.2.2.2)]) (G := fun H locs ls => W p l e ({ frames := 4, cells := 0, slots := 0, locals := 85 } : Room) s m args below meth c H locs 0 0 (MQ below (va_Qi (fun (r : Int32) (u : va_W) => o1 = r ∧ wF ty ad o2 = u) (kz_B D ty A) A) args s 0 0 A) (F0 m 20 ls []))
    (fun k hk a H locs ls h hp => WX4_isSame_s24_t6_20b C  (fun q x2 x3 x4 H locs ls h h1 h2 h3 h4 => hk (q, x2, x3, x4) H locs ls h ⟨h1, h2, h3, h4⟩) a.1 a.2.1 a.2.2.1 a.2.2.2 H locs ls h hp.1 hp.2.1 hp.2.2.1 hp.2.2.2) n (q, x2, x3, x4) H locs ls h ⟨hP, hD, hS, hl⟩
set_option maxHeartbeats 4000000 in
set_option maxRecDepth 100000 in
theorem qX4_isSame_s24_t6 (l : Launch) (D : va_G) (ty : Nat → ClassId) (eo : Nat → Nat) (sz : Nat) (ad : Nat → Nat) (q : dK) (p2 : Int32) (p3 : Int32) (o1 : Int32) (o2 : dK) (h : zX4_isSame_s24_t6 q p2 p3 = some (o1, o2)) : Met l yX4_isSame wsX4_isSame ({ frames := 4, cells := 0, slots := 0, locals := 85 } : Room) (va_Pc [.ref (ad 24), .ref (eo (1 + 6)), .int p2, .int p3] (kz_pre D ty eo (wF ty ad q) sz)) (va_Qi (fun (r : Int32) (u : va_W) => o1 = r ∧ wF ty ad o2 = u) (kz_B D ty (va_A (wF ty ad q) sz)) (va_A (wF ty ad q) sz)) 0 0 (va_A (wF ty ad q) sz) := by
  refine Met.ofW (cc := cX4_isSame) (maxL := 5) (ret := (some .boolean)) (by decide) rfl ?_
  intro p e s m args below meth c s₁ B hml hv
  obtain ⟨rfl, hsz, hP, hK, hD0, hN, hE⟩ := hv
  have hx := B.exec
  have hb := B.bytes
  have hr := B.returns
  have hts := atoms_spec (ws := wsX4_isSame) B.pre
  have hown : s.vm.findClass RX4 = some m.cls := findClass_of_methodNamed B.named
  have hlocks := B.notSynchronized
  subst hsz
  have hD := hD0.self (sz := s.heap.size)
  generalize hAe : va_A (wF ty ad q) s.heap.size = A at hD hE ⊢
  have hA : ∀ q : Nat, s.heap.size ≤ q → A q := fun q h => by rw [← hAe]; exact Or.inr h
  clear hAe
  have hS : va_S A s.heap s.heap [] := va_S.rf
  have hl := lv_entry ([.ref (ad 24), .ref (eo (1 + 6)), .int p2, .int p3]) (n := 5) (Nat.le_of_ble_eq_true rfl)
  rw [lg_entry_eq]
  generalize (lg_sl ([.ref (ad 24), .ref (eo (1 + 6)), .int p2, .int p3]) ++ List.replicate (5 - (lg_sl ([.ref (ad 24), .ref (eo (1 + 6)), .int p2, .int p3])).length) Slot.unset).toArray = ls at hl ⊢
  have hl : lv_has ls 5 [(0, .ref (ad 24)), (1, .ref (eo (1 + 6))), (2, .int p2), (3, .int p3)] := hl
  have C : dc_C p s m _ meth c cX4_isSame (some .boolean) 5 RX4 wsX4_isSame D ty eo A := ⟨hx, hb, hr, hts, hown, hlocks, hml, hK, hN, hE, hA⟩
  unfold zX4_isSame_s24_t6 at h
  refine lv_iload_n hx hb dX4_isSame_0 rfl (lv_at hl 3 rfl) ?_
  refine lv_iload_n hx hb dX4_isSame_1 rfl (lv_at hl 2 rfl) ?_
  refine lv_isub hx hb dX4_isSame_2 ?_
  refine lv_aload_n hx hb dX4_isSame_3 rfl (lv_at hl 0 rfl) ?_
  refine va_get (D := D) (ci := 4) (v := .int (q.1 24 6)) (C := RX4) (T := TX4) (N := 11) hx hb hts u9_wsX4_isSame_X4 hown hK hP 24 rfl rfl 6 (by decide) (hts (.fieldLink RX4 33 "TurnedFloors$Reader" "stop" "I") f9_wsX4_isSame_476) (fun _ h9 => h9) rfl dX4_isSame_4 ?_
  refine lv_aload_n hx hb dX4_isSame_7 rfl (lv_at hl 0 rfl) ?_
  refine va_get (D := D) (ci := 4) (v := .int (q.1 24 5)) (C := RX4) (T := TX4) (N := 11) hx hb hts u9_wsX4_isSame_X4 hown hK hP 24 rfl rfl 5 (by decide) (hts (.fieldLink RX4 30 "TurnedFloors$Reader" "start" "I") f9_wsX4_isSame_475) (fun _ h9 => h9) rfl dX4_isSame_8 ?_
  refine lv_isub hx hb dX4_isSame_11 ?_
  refine lv_icmp_eq (tgt := 17) hx hb dX4_isSame_12 (by decide) (fun c9 => ?_) (fun c9 => ?_)
  · rw [if_pos c9] at h
    refine lv_iload_n hx hb dX4_isSame_17 rfl (lv_at hl 2 rfl) ?_
    refine lv_istore (lv' := [(4, .int p2), (0, .ref (ad 24)), (1, .ref (eo (1 + 6))), (2, .int p2), (3, .int p3)]) hx hb dX4_isSame_18 hl (by decide) rfl (fun ls hl => ?_)
    exact WX4_isSame_s24_t6_20 C  _ _ _ _ _ _ _ _ h hP hD hS (lv_sub hl [1, 2, 3, 4, 0] rfl)
  · rw [if_neg c9] at h
    refine lv_iconst (v := 0) hx hb dX4_isSame_15 (by decide) ?_
    cases h
    exact kz_zret hx hb hr hlocks rfl hP hK hD hS dX4_isSame_16 ⟨rfl, rfl⟩

set_option maxHeartbeats 4000000 in
set_option maxRecDepth 100000 in
theorem WX4_isWord_s24_t6_26 {p : Program} {l : Launch} {e : Env} {s : State} {m : MethodId} {args : Array Value} {below : List Frame} {meth : Method} {c : Code} {D : va_G} {ty : Nat → ClassId} {eo : Nat → Nat} {A : Nat → Prop} {ad : Nat → Nat} {o1 : Int32} {o2 : dK} (C : dc_C p s m args meth c cX4_isWord (some .boolean) 2 RX4 wsX4_isWord D ty eo A)   (q : dK) (y0 : Int32) (H : Heap) (locs : List Loc) (ls : Array Slot) (h : zX4_isWord_s24_t6_26  q y0 = some (o1, o2)) (hP : va_P D vwCl (wF ty ad q) H) (hD : va_D A (wF ty ad q)) (hS : va_S A s.heap H locs) (hl : lv_has ls 2 []) : W p l e ({ frames := 5, cells := 0, slots := 0, locals := 109 } : Room) s m args below meth c H locs 0 0 (MQ below (va_Qi (fun (r : Int32) (u : va_W) => o1 = r ∧ wF ty ad o2 = u) (kz_B D ty A) A) args s 0 0 A) (F0 m 26 ls [.int y0]) := by
  have C0 := C
  obtain ⟨hx, hb, hr, hts, hown, hlocks, hml, hK, hN, hE, hA⟩ := C
  unfold zX4_isWord_s24_t6_26 at h
  obtain ⟨g1, h⟩ := dG_some h
  cases h
  exact kz_zret hx hb hr hlocks (dbl_nar g1) hP hK hD hS dX4_isWord_26 ⟨rfl, rfl⟩
set_option maxHeartbeats 4000000 in
set_option maxRecDepth 100000 in
theorem WX4_isWord_s24_t6_25 {p : Program} {l : Launch} {e : Env} {s : State} {m : MethodId} {args : Array Value} {below : List Frame} {meth : Method} {c : Code} {D : va_G} {ty : Nat → ClassId} {eo : Nat → Nat} {A : Nat → Prop} {ad : Nat → Nat} {o1 : Int32} {o2 : dK} (C : dc_C p s m args meth c cX4_isWord (some .boolean) 2 RX4 wsX4_isWord D ty eo A)   (q : dK)  (H : Heap) (locs : List Loc) (ls : Array Slot) (h : zX4_isWord_s24_t6_25  q = some (o1, o2)) (hP : va_P D vwCl (wF ty ad q) H) (hD : va_D A (wF ty ad q)) (hS : va_S A s.heap H locs) (hl : lv_has ls 2 []) : W p l e ({ frames := 5, cells := 0, slots := 0, locals := 109 } : Room) s m args below meth c H locs 0 0 (MQ below (va_Qi (fun (r : Int32) (u : va_W) => o1 = r ∧ wF ty ad o2 = u) (kz_B D ty A) A) args s 0 0 A) (F0 m 25 ls []) := by
  have C0 := C
  obtain ⟨hx, hb, hr, hts, hown, hlocks, hml, hK, hN, hE, hA⟩ := C
  unfold zX4_isWord_s24_t6_25 at h
  refine lv_iconst (v := 0) hx hb dX4_isWord_25 (by decide) ?_
  exact WX4_isWord_s24_t6_26 C0  _ _ _ _ _ h hP hD hS (lv_sub hl [] rfl)
set_option maxHeartbeats 4000000 in
set_option maxRecDepth 100000 in
theorem qX4_isWord_s24_t6 (l : Launch) (D : va_G) (ty : Nat → ClassId) (eo : Nat → Nat) (sz : Nat) (ad : Nat → Nat) (q : dK)  (o1 : Int32) (o2 : dK) (h : zX4_isWord_s24_t6 q = some (o1, o2)) : Met l yX4_isWord wsX4_isWord ({ frames := 5, cells := 0, slots := 0, locals := 109 } : Room) (va_Pc [.ref (ad 24), .ref (eo (1 + 6))] (kz_pre D ty eo (wF ty ad q) sz)) (va_Qi (fun (r : Int32) (u : va_W) => o1 = r ∧ wF ty ad o2 = u) (kz_B D ty (va_A (wF ty ad q) sz)) (va_A (wF ty ad q) sz)) 0 0 (va_A (wF ty ad q) sz) := by
  refine Met.ofW (cc := cX4_isWord) (maxL := 2) (ret := (some .boolean)) (by decide) rfl ?_
  intro p e s m args below meth c s₁ B hml hv
  obtain ⟨rfl, hsz, hP, hK, hD0, hN, hE⟩ := hv
  have hx := B.exec
  have hb := B.bytes
  have hr := B.returns
  have hts := atoms_spec (ws := wsX4_isWord) B.pre
  have hown : s.vm.findClass RX4 = some m.cls := findClass_of_methodNamed B.named
  have hlocks := B.notSynchronized
  subst hsz
  have hD := hD0.self (sz := s.heap.size)
  generalize hAe : va_A (wF ty ad q) s.heap.size = A at hD hE ⊢
  have hA : ∀ q : Nat, s.heap.size ≤ q → A q := fun q h => by rw [← hAe]; exact Or.inr h
  clear hAe
  have hS : va_S A s.heap s.heap [] := va_S.rf
  have hl := lv_entry ([.ref (ad 24), .ref (eo (1 + 6))]) (n := 2) (Nat.le_of_ble_eq_true rfl)
  rw [lg_entry_eq]
  generalize (lg_sl ([.ref (ad 24), .ref (eo (1 + 6))]) ++ List.replicate (2 - (lg_sl ([.ref (ad 24), .ref (eo (1 + 6))])).length) Slot.unset).toArray = ls at hl ⊢
  have hl : lv_has ls 2 [(0, .ref (ad 24)), (1, .ref (eo (1 + 6)))] := hl
  have C : dc_C p s m _ meth c cX4_isWord (some .boolean) 2 RX4 wsX4_isWord D ty eo A := ⟨hx, hb, hr, hts, hown, hlocks, hml, hK, hN, hE, hA⟩
  unfold zX4_isWord_s24_t6 at h
  refine lv_aload_n hx hb dX4_isWord_0 rfl (lv_at hl 0 rfl) ?_
  refine va_get (D := D) (ci := 4) (v := .int (q.1 24 4)) (C := RX4) (T := TX4) (N := 11) hx hb hts u9_wsX4_isWord_X4 hown hK hP 24 rfl rfl 4 (by decide) (hts (.fieldLink RX4 27 "TurnedFloors$Reader" "token" "I") f9_wsX4_isWord_524) (fun _ h9 => h9) rfl dX4_isWord_1 ?_
  refine lv_iconst (v := 1) hx hb dX4_isWord_4 (by decide) ?_
  refine lv_icmp_ne (tgt := 25) hx hb dX4_isWord_5 (by decide) (fun c9 => ?_) (fun c9 => ?_)
  · rw [if_neg c9] at h
    exact WX4_isWord_s24_t6_25 C  _ _ _ _ h hP hD hS (lv_sub hl [] rfl)
  · rw [if_pos c9] at h
    refine lv_aload_n hx hb dX4_isWord_8 rfl (lv_at hl 0 rfl) ?_
    refine lv_aload_n hx hb dX4_isWord_9 rfl (lv_at hl 1 rfl) ?_
    refine lv_iconst (v := 0) hx hb dX4_isWord_10 (by decide) ?_
    refine lv_aload_n hx hb dX4_isWord_11 rfl (lv_at hl 1 rfl) ?_
    refine dw_ks (va_runV (As := []) (rest := [.int 0, .ref (eo (1 + 6)), .ref (ad 24)]) ⟨hx, hb, hml, hown, hts⟩ (kcJ0le l D ty eo _ 6 (by decide)) (cwV 0 hts gX4_isWord_J0_length_8abf5 rfl rfl rfl hd_J0_length_8abf5_v ⟨Nat.le_of_ble_eq_true rfl, Nat.le_of_ble_eq_true rfl⟩) (kz_preT hK hN hE hP hD hS hA 6 (by decide) [] (by decide) rfl) rfl rfl hl.1 rfl (lv_room (Nat.le_of_ble_eq_true rfl)) dX4_isWord_12 ⟨Nat.le_of_ble_eq_true rfl, Nat.le_of_ble_eq_true rfl⟩) hP hD hS hA (fun _ _ h9 => h9.2.symm) (fun r9 u9 H locs hw hp hd hs => ?_)
    obtain ⟨rfl, -⟩ := hw
    clear hP hD hS
    have hP := hp; have hD := hd; have hS := hs; clear hp hd hs
    refine kz_topi 5 (by decide +kernel) ?_
    obtain ⟨r1, q3, h2, h⟩ := dB_some h
    refine dw_ki (va_runV (As := [.ref (eo (1 + 6)), .int 0, .int 5]) (rest := []) ⟨hx, hb, hml, hown, hts⟩ (qX4_isSame_s24_t6 l D ty eo _ ad q 0 5 r1 q3 h2) (cwV 3 hts gX4_isWord_X4_isSame rfl rfl rfl hd_X4_isSame_v ⟨Nat.le_of_ble_eq_true rfl, Nat.le_of_ble_eq_true rfl⟩) (pvF_4_24 hK hN hE hP hD hS hA) rfl rfl hl.1 rfl (lv_room (Nat.le_of_ble_eq_true rfl)) dX4_isWord_15 ⟨Nat.le_of_ble_eq_true rfl, Nat.le_of_ble_eq_true rfl⟩) hD hS hA (fun r9 u9 H locs hw hp hd hs => ?_)
    clear hP hD hS
    obtain ⟨rfl, rfl⟩ := hw
    have hP := hp; have hD := hd; have hS := hs; clear hp hd hs
    refine lv_if_eq (tgt := 25) hx hb dX4_isWord_18 (by decide) (fun c9 => ?_) (fun c9 => ?_)
    · rw [if_pos c9] at h
      exact WX4_isWord_s24_t6_25 C  _ _ _ _ h hP hD hS (lv_sub hl [] rfl)
    · rw [if_neg c9] at h
      refine lv_iconst (v := 1) hx hb dX4_isWord_21 (by decide) ?_
      refine lv_goto (tgt := 26) hx hb dX4_isWord_22 (by decide) ?_
      exact WX4_isWord_s24_t6_26 C  _ _ _ _ _ h hP hD hS (lv_sub hl [] rfl)

set_option maxHeartbeats 4000000 in
set_option maxRecDepth 100000 in
theorem WX7_setTimes_s25_19 {p : Program} {l : Launch} {e : Env} {s : State} {m : MethodId} {args : Array Value} {below : List Frame} {meth : Method} {c : Code} {D : va_G} {ty : Nat → ClassId} {eo : Nat → Nat} {A : Nat → Prop} {ad : Nat → Nat} {o2 : dK} (C : dc_C p s m args meth c cX7_setTimes none 2 RX7 wsX7_setTimes D ty eo A)   (q : dK)  (H : Heap) (locs : List Loc) (ls : Array Slot) (h : zX7_setTimes_s25_19  q = some o2) (hP : va_P D vwCl (wF ty ad q) H) (hD : va_D A (wF ty ad q)) (hS : va_S A s.heap H locs) (hl : lv_has ls 2 []) : W p l e ({ frames := 0, cells := 0, slots := 0, locals := 0 } : Room) s m args below meth c H locs 0 0 (MQ below (va_Qv (fun (u : va_W) => wF ty ad o2 = u) (kz_B D ty A) A) args s 0 0 A) (F0 m 19 ls []) := by
  have C0 := C
  obtain ⟨hx, hb, hr, hts, hown, hlocks, hml, hK, hN, hE, hA⟩ := C
  unfold zX7_setTimes_s25_19 at h
  cases h
  exact kz_vret hx hb hr hlocks hP hK hD hS dX7_setTimes_19 rfl
set_option maxHeartbeats 4000000 in
set_option maxRecDepth 100000 in
theorem qX7_setTimes_s25 (l : Launch) (D : va_G) (ty : Nat → ClassId) (eo : Nat → Nat) (sz : Nat) (ad : Nat → Nat) (q : dK) (p1 : Int32) (o2 : dK) (h : zX7_setTimes_s25 q p1 = some o2) : Met l yX7_setTimes wsX7_setTimes ({ frames := 0, cells := 0, slots := 0, locals := 0 } : Room) (va_Pc [.ref (ad 25), .int p1] (kz_pre D ty eo (wF ty ad q) sz)) (va_Qv (fun (u : va_W) => wF ty ad o2 = u) (kz_B D ty (va_A (wF ty ad q) sz)) (va_A (wF ty ad q) sz)) 0 0 (va_A (wF ty ad q) sz) := by
  refine Met.ofW (cc := cX7_setTimes) (maxL := 2) (ret := none) (by decide) rfl ?_
  intro p e s m args below meth c s₁ B hml hv
  obtain ⟨rfl, hsz, hP, hK, hD0, hN, hE⟩ := hv
  have hx := B.exec
  have hb := B.bytes
  have hr := B.returns
  have hts := atoms_spec (ws := wsX7_setTimes) B.pre
  have hown : s.vm.findClass RX7 = some m.cls := findClass_of_methodNamed B.named
  have hlocks := B.notSynchronized
  subst hsz
  have hD := hD0.self (sz := s.heap.size)
  generalize hAe : va_A (wF ty ad q) s.heap.size = A at hD hE ⊢
  have hA : ∀ q : Nat, s.heap.size ≤ q → A q := fun q h => by rw [← hAe]; exact Or.inr h
  clear hAe
  have hS : va_S A s.heap s.heap [] := va_S.rf
  have hl := lv_entry ([.ref (ad 25), .int p1]) (n := 2) (Nat.le_of_ble_eq_true rfl)
  rw [lg_entry_eq]
  generalize (lg_sl ([.ref (ad 25), .int p1]) ++ List.replicate (2 - (lg_sl ([.ref (ad 25), .int p1])).length) Slot.unset).toArray = ls at hl ⊢
  have hl : lv_has ls 2 [(0, .ref (ad 25)), (1, .int p1)] := hl
  have C : dc_C p s m _ meth c cX7_setTimes none 2 RX7 wsX7_setTimes D ty eo A := ⟨hx, hb, hr, hts, hown, hlocks, hml, hK, hN, hE, hA⟩
  unfold zX7_setTimes_s25 at h
  refine lv_aload_n hx hb dX7_setTimes_0 rfl (lv_at hl 0 rfl) ?_
  refine va_get (D := D) (ci := 7) (v := .int (q.1 25 6)) (C := RX7) (T := TX7) (N := 8) hx hb hts u9_wsX7_setTimes_X7 hown hK hP 25 rfl rfl 6 (by decide) (hts (.fieldLink RX7 7 "TurnedFloors$Text" "clauses" "I") f9_wsX7_setTimes_526) (fun _ h9 => h9) rfl dX7_setTimes_1 ?_
  refine lv_if_le (tgt := 19) hx hb dX7_setTimes_4 (by decide) (fun c9 => ?_) (fun c9 => ?_)
  · rw [if_pos c9] at h
    exact WX7_setTimes_s25_19 C  _ _ _ _ h hP hD hS (lv_sub hl [] rfl)
  · rw [if_neg c9] at h
    refine lv_aload_n hx hb dX7_setTimes_7 rfl (lv_at hl 0 rfl) ?_
    refine va_get (D := D) (ci := 7) (v := .ref (ad 27)) (C := RX7) (T := TX7) (N := 8) hx hb hts u9_wsX7_setTimes_X7 hown hK hP 25 rfl rfl 1 (by decide) (hts (.fieldLink RX7 20 "TurnedFloors$Text" "times" "[I") f9_wsX7_setTimes_527) (fun _ h9 => h9) rfl dX7_setTimes_8 ?_
    refine lv_aload_n hx hb dX7_setTimes_11 rfl (lv_at hl 0 rfl) ?_
    refine va_get (D := D) (ci := 7) (v := .int (q.1 25 6)) (C := RX7) (T := TX7) (N := 8) hx hb hts u9_wsX7_setTimes_X7 hown hK hP 25 rfl rfl 6 (by decide) (hts (.fieldLink RX7 7 "TurnedFloors$Text" "clauses" "I") f9_wsX7_setTimes_526) (fun _ h9 => h9) rfl dX7_setTimes_12 ?_
    refine lv_iconst (v := 1) hx hb dX7_setTimes_15 (by decide) ?_
    refine lv_isub hx hb dX7_setTimes_16 ?_
    refine lv_iload_n hx hb dX7_setTimes_17 rfl (lv_at hl 1 rfl) ?_
    obtain ⟨g1, h⟩ := dG_some h
    refine va_iast hx hb hK hP hD hS 27 0 rfl rfl (dg_in g1) dX7_setTimes_18 (fun H locs hp hd hs => ?_)
    obtain ⟨q2, eq2, h⟩ := dL_some h
    refine kz_re (w2 := wF ty ad q2) hp hd hs (by rw [← eq2]; exact wF_a27 ty ad q (Int32.toNatClampNeg ((q.1 25 6) - 1 : Int32)) p1) ?_
    clear hp hd hs hP hD hS
    intro hP hD hS
    exact WX7_setTimes_s25_19 C  _ _ _ _ h hP hD hS (lv_sub hl [] rfl)

set_option maxHeartbeats 4000000 in
set_option maxRecDepth 100000 in
theorem WX4_readTimes_s24_25 {p : Program} {l : Launch} {e : Env} {s : State} {m : MethodId} {args : Array Value} {below : List Frame} {meth : Method} {c : Code} {D : va_G} {ty : Nat → ClassId} {eo : Nat → Nat} {A : Nat → Prop} {ad : Nat → Nat} {o2 : dK} (C : dc_C p s m args meth c cX4_readTimes none 1 RX4 wsX4_readTimes D ty eo A)   (q : dK)  (H : Heap) (locs : List Loc) (ls : Array Slot) (h : zX4_readTimes_s24_25  q = some o2) (hP : va_P D vwCl (wF ty ad q) H) (hD : va_D A (wF ty ad q)) (hS : va_S A s.heap H locs) (hl : lv_has ls 1 [(0, .ref (ad 24))]) : W p l e ({ frames := 2, cells := 0, slots := 0, locals := 42 } : Room) s m args below meth c H locs 0 0 (MQ below (va_Qv (fun (u : va_W) => wF ty ad o2 = u) (kz_B D ty A) A) args s 0 0 A) (F0 m 25 ls []) := by
  have C0 := C
  obtain ⟨hx, hb, hr, hts, hown, hlocks, hml, hK, hN, hE, hA⟩ := C
  unfold zX4_readTimes_s24_25 at h
  refine lv_aload_n hx hb dX4_readTimes_25 rfl (lv_at hl 0 rfl) ?_
  obtain ⟨q3, h2, h⟩ := dV_some h
  refine dw_kv (va_runV (As := []) (rest := []) ⟨hx, hb, hml, hown, hts⟩ (qX4_fail_s24 l D ty eo _ ad q  q3 h2) (cwV 0 hts gX4_readTimes_X4_fail rfl rfl rfl hd_X4_fail_v ⟨Nat.le_of_ble_eq_true rfl, Nat.le_of_ble_eq_true rfl⟩) (pvF_4_24 hK hN hE hP hD hS hA) rfl rfl hl.1 rfl (lv_room (Nat.le_of_ble_eq_true rfl)) dX4_readTimes_26 ⟨Nat.le_of_ble_eq_true rfl, Nat.le_of_ble_eq_true rfl⟩) hD hS hA (fun u9 H locs hw hp hd hs => ?_)
  clear hP hD hS
  obtain rfl := hw
  have hP := hp; have hD := hd; have hS := hs; clear hp hd hs
  cases h
  exact kz_vret hx hb hr hlocks hP hK hD hS dX4_readTimes_29 rfl
set_option maxHeartbeats 4000000 in
set_option maxRecDepth 100000 in
theorem qX4_readTimes_s24 (l : Launch) (D : va_G) (ty : Nat → ClassId) (eo : Nat → Nat) (sz : Nat) (ad : Nat → Nat) (q : dK)  (o2 : dK) (h : zX4_readTimes_s24 q = some o2) : Met l yX4_readTimes wsX4_readTimes ({ frames := 2, cells := 0, slots := 0, locals := 42 } : Room) (va_Pc [.ref (ad 24)] (kz_pre D ty eo (wF ty ad q) sz)) (va_Qv (fun (u : va_W) => wF ty ad o2 = u) (kz_B D ty (va_A (wF ty ad q) sz)) (va_A (wF ty ad q) sz)) 0 0 (va_A (wF ty ad q) sz) := by
  refine Met.ofW (cc := cX4_readTimes) (maxL := 1) (ret := none) (by decide) rfl ?_
  intro p e s m args below meth c s₁ B hml hv
  obtain ⟨rfl, hsz, hP, hK, hD0, hN, hE⟩ := hv
  have hx := B.exec
  have hb := B.bytes
  have hr := B.returns
  have hts := atoms_spec (ws := wsX4_readTimes) B.pre
  have hown : s.vm.findClass RX4 = some m.cls := findClass_of_methodNamed B.named
  have hlocks := B.notSynchronized
  subst hsz
  have hD := hD0.self (sz := s.heap.size)
  generalize hAe : va_A (wF ty ad q) s.heap.size = A at hD hE ⊢
  have hA : ∀ q : Nat, s.heap.size ≤ q → A q := fun q h => by rw [← hAe]; exact Or.inr h
  clear hAe
  have hS : va_S A s.heap s.heap [] := va_S.rf
  have hl := lv_entry ([.ref (ad 24)]) (n := 1) (Nat.le_of_ble_eq_true rfl)
  rw [lg_entry_eq]
  generalize (lg_sl ([.ref (ad 24)]) ++ List.replicate (1 - (lg_sl ([.ref (ad 24)])).length) Slot.unset).toArray = ls at hl ⊢
  have hl : lv_has ls 1 [(0, .ref (ad 24))] := hl
  have C : dc_C p s m _ meth c cX4_readTimes none 1 RX4 wsX4_readTimes D ty eo A := ⟨hx, hb, hr, hts, hown, hlocks, hml, hK, hN, hE, hA⟩
  unfold zX4_readTimes_s24 at h
  refine lv_aload_n hx hb dX4_readTimes_0 rfl (lv_at hl 0 rfl) ?_
  refine va_get (D := D) (ci := 4) (v := .int (q.1 24 4)) (C := RX4) (T := TX4) (N := 11) hx hb hts u9_wsX4_readTimes_X4 hown hK hP 24 rfl rfl 4 (by decide) (hts (.fieldLink RX4 27 "TurnedFloors$Reader" "token" "I") f9_wsX4_readTimes_529) (fun _ h9 => h9) rfl dX4_readTimes_1 ?_
  refine lv_iconst (v := 2) hx hb dX4_readTimes_4 (by decide) ?_
  refine lv_icmp_ne (tgt := 25) hx hb dX4_readTimes_5 (by decide) (fun c9 => ?_) (fun c9 => ?_)
  · rw [if_neg c9] at h
    exact WX4_readTimes_s24_25 C  _ _ _ _ h hP hD hS (lv_sub hl [0] rfl)
  · rw [if_pos c9] at h
    refine lv_aload_n hx hb dX4_readTimes_8 rfl (lv_at hl 0 rfl) ?_
    refine va_get (D := D) (ci := 4) (v := .int (q.1 24 7)) (C := RX4) (T := TX4) (N := 11) hx hb hts u9_wsX4_readTimes_X4 hown hK hP 24 rfl rfl 7 (by decide) (hts (.fieldLink RX4 36 "TurnedFloors$Reader" "number" "I") f9_wsX4_readTimes_530) (fun _ h9 => h9) rfl dX4_readTimes_9 ?_
    refine lv_iconst (v := 1) hx hb dX4_readTimes_12 (by decide) ?_
    refine lv_icmp_lt (tgt := 25) hx hb dX4_readTimes_13 (by decide) (fun c9 => ?_) (fun c9 => ?_)
    · rw [if_pos c9] at h
      exact WX4_readTimes_s24_25 C  _ _ _ _ h hP hD hS (lv_sub hl [0] rfl)
    · rw [if_neg c9] at h
      refine lv_aload_n hx hb dX4_readTimes_16 rfl (lv_at hl 0 rfl) ?_
      refine va_get (D := D) (ci := 4) (v := .int (q.1 24 7)) (C := RX4) (T := TX4) (N := 11) hx hb hts u9_wsX4_readTimes_X4 hown hK hP 24 rfl rfl 7 (by decide) (hts (.fieldLink RX4 36 "TurnedFloors$Reader" "number" "I") f9_wsX4_readTimes_530) (fun _ h9 => h9) rfl dX4_readTimes_17 ?_
      refine lv_bipush (v := 20) hx hb dX4_readTimes_20 (by decide) ?_
      refine lv_icmp_le (tgt := 30) hx hb dX4_readTimes_22 (by decide) (fun c9 => ?_) (fun c9 => ?_)
      · rw [if_pos c9] at h
        refine lv_aload_n hx hb dX4_readTimes_30 rfl (lv_at hl 0 rfl) ?_
        refine va_get (D := D) (ci := 4) (v := dN (ad 25) (q.1 24 3)) (C := RX4) (T := TX4) (N := 11) hx hb hts u9_wsX4_readTimes_X4 hown hK hP 24 rfl rfl 3 (by decide) (hts (.fieldLink RX4 23 "TurnedFloors$Reader" "text" "LTurnedFloors$Text;") f9_wsX4_readTimes_531) (fun _ h9 => h9) rfl dX4_readTimes_31 ?_
        obtain ⟨g1, h⟩ := dG_some h
        refine kz_topv (if_neg (dnz_ne g1)) ?_
        refine lv_aload_n hx hb dX4_readTimes_34 rfl (lv_at hl 0 rfl) ?_
        refine va_get (D := D) (ci := 4) (v := .int (q.1 24 7)) (C := RX4) (T := TX4) (N := 11) hx hb hts u9_wsX4_readTimes_X4 hown hK hP 24 rfl rfl 7 (by decide) (hts (.fieldLink RX4 36 "TurnedFloors$Reader" "number" "I") f9_wsX4_readTimes_530) (fun _ h9 => h9) rfl dX4_readTimes_35 ?_
        obtain ⟨q4, h3, h⟩ := dV_some h
        refine dw_kv (va_runV (As := [.int (q.1 24 7)]) (rest := []) ⟨hx, hb, hml, hown, hts⟩ (qX7_setTimes_s25 l D ty eo _ ad q (q.1 24 7) q4 h3) (cwV 1 hts gX4_readTimes_X7_setTimes rfl rfl rfl hd_X7_setTimes_v ⟨Nat.le_of_ble_eq_true rfl, Nat.le_of_ble_eq_true rfl⟩) (pvF_7_25 hK hN hE hP hD hS hA) rfl rfl hl.1 rfl (lv_room (Nat.le_of_ble_eq_true rfl)) dX4_readTimes_38 ⟨Nat.le_of_ble_eq_true rfl, Nat.le_of_ble_eq_true rfl⟩) hD hS hA (fun u9 H locs hw hp hd hs => ?_)
        clear hP hD hS
        obtain rfl := hw
        have hP := hp; have hD := hd; have hS := hs; clear hp hd hs
        refine lv_aload_n hx hb dX4_readTimes_41 rfl (lv_at hl 0 rfl) ?_
        obtain ⟨q7, h6, h⟩ := dV_some h
        refine dw_kv (va_runV (As := []) (rest := []) ⟨hx, hb, hml, hown, hts⟩ (qX4_step_s24 l D ty eo _ ad q4  q7 h6) (cwV 0 hts gX4_readTimes_X4_step rfl rfl rfl hd_X4_step_v ⟨Nat.le_of_ble_eq_true rfl, Nat.le_of_ble_eq_true rfl⟩) (pvF_4_24 hK hN hE hP hD hS hA) rfl rfl hl.1 rfl (lv_room (Nat.le_of_ble_eq_true rfl)) dX4_readTimes_42 ⟨Nat.le_of_ble_eq_true rfl, Nat.le_of_ble_eq_true rfl⟩) hD hS hA (fun u9 H locs hw hp hd hs => ?_)
        clear hP hD hS
        obtain rfl := hw
        have hP := hp; have hD := hd; have hS := hs; clear hp hd hs
        cases h
        exact kz_vret hx hb hr hlocks hP hK hD hS dX4_readTimes_45 rfl
      · rw [if_neg c9] at h
        exact WX4_readTimes_s24_25 C  _ _ _ _ h hP hD hS (lv_sub hl [0] rfl)

set_option maxHeartbeats 4000000 in
set_option maxRecDepth 100000 in
theorem WX4_isSame_s24_t7_20b {p : Program} {l : Launch} {e : Env} {s : State} {m : MethodId} {args : Array Value} {below : List Frame} {meth : Method} {c : Code} {D : va_G} {ty : Nat → ClassId} {eo : Nat → Nat} {A : Nat → Prop} {ad : Nat → Nat} {o1 : Int32} {o2 : dK} (C : dc_C p s m args meth c cX4_isSame (some .boolean) 5 RX4 wsX4_isSame D ty eo A) {k20 : dK → Int32 → Int32 → Int32 → Option (Int32 × dK)} (hk20 : ∀ (q : dK) (x2 : Int32) (x3 : Int32) (x4 : Int32) (H : Heap) (locs : List Loc) (ls : Array Slot), k20 q x2 x3 x4 = some (o1, o2) → va_P D vwCl (wF ty ad q) H → va_D A (wF ty ad q) → va_S A s.heap H locs → lv_has ls 5 [(0, .ref (ad 24)), (1, .ref (eo (1 + 7))), (2, .int x2), (3, .int x3), (4, .int x4)] → W p l e ({ frames := 4, cells := 0, slots := 0, locals := 85 } : Room) s m args below meth c H locs 0 0 (MQ below (va_Qi (fun (r : Int32) (u : va_W) => o1 = r ∧ wF ty ad o2 = u) (kz_B D ty A) A) args s 0 0 A) (F0 m 20 ls [])) (q : dK) (x2 : Int32) (x3 : Int32) (x4 : Int32) (H : Heap) (locs : List Loc) (ls : Array Slot) (h : zX4_isSame_s24_t7_20b k20 q x2 x3 x4 = some (o1, o2)) (hP : va_P D vwCl (wF ty ad q) H) (hD : va_D A (wF ty ad q)) (hS : va_S A s.heap H locs) (hl : lv_has ls 5 [(0, .ref (ad 24)), (1, .ref (eo (1 + 7))), (2, .int x2), (3, .int x3), (4, .int x4)]) : W p l e ({ frames := 4, cells := 0, slots := 0, locals := 85 } : Room) s m args below meth c H locs 0 0 (MQ below (va_Qi (fun (r : Int32) (u : va_W) => o1 = r ∧ wF ty ad o2 = u) (kz_B D ty A) A) args s 0 0 A) (F0 m 20 ls []) := by
  have C0 := C
  obtain ⟨hx, hb, hr, hts, hown, hlocks, hml, hK, hN, hE, hA⟩ := C
  unfold zX4_isSame_s24_t7_20b at h
  refine lv_iload hx hb dX4_isSame_20 (lv_at hl 4 rfl) ?_
  refine lv_iload_n hx hb dX4_isSame_22 rfl (lv_at hl 3 rfl) ?_
  refine lv_icmp_ge (tgt := 57) hx hb dX4_isSame_23 (by decide) (fun c9 => ?_) (fun c9 => ?_)
  · rw [if_pos c9] at h
    refine lv_iconst (v := 1) hx hb dX4_isSame_57 (by decide) ?_
    cases h
    exact kz_zret hx hb hr hlocks rfl hP hK hD hS dX4_isSame_58 ⟨rfl, rfl⟩
  · rw [if_neg c9] at h
    refine lv_aload_n hx hb dX4_isSame_26 rfl (lv_at hl 1 rfl) ?_
    refine lv_iload hx hb dX4_isSame_27 (lv_at hl 4 rfl) ?_
    obtain ⟨g1, h⟩ := dG_some h
    refine dw_ks (va_runV (As := [.int x4]) (rest := []) ⟨hx, hb, hml, hown, hts⟩ (kcJ0ch l D ty eo _ 7 (by decide) x4 (dg_in g1)) (cwV 1 hts gX4_isSame_J0_charAt_5068e rfl rfl rfl hd_J0_charAt_5068e_v ⟨Nat.le_of_ble_eq_true rfl, Nat.le_of_ble_eq_true rfl⟩) (kz_preT hK hN hE hP hD hS hA 7 (by decide) [] (by decide) rfl) rfl rfl hl.1 rfl (lv_room (Nat.le_of_ble_eq_true rfl)) dX4_isSame_29 ⟨Nat.le_of_ble_eq_true rfl, Nat.le_of_ble_eq_true rfl⟩) hP hD hS hA (fun _ _ h9 => h9.2.symm) (fun r9 u9 H locs hw hp hd hs => ?_)
    obtain ⟨rfl, -⟩ := hw
    clear hP hD hS
    have hP := hp; have hD := hd; have hS := hs; clear hp hd hs
    obtain ⟨v2, ev2, h⟩ := dL_some h
    refine kz_topi v2 ev2 ?_
    refine lv_aload_n hx hb dX4_isSame_32 rfl (lv_at hl 0 rfl) ?_
    refine va_get (D := D) (ci := 4) (v := dN (ad 46) (q.1 24 0)) (C := RX4) (T := TX4) (N := 11) hx hb hts u9_wsX4_isSame_X4 hown hK hP 24 rfl rfl 0 (by decide) (hts (.fieldLink RX4 9 "TurnedFloors$Reader" "bytes" "[I") f9_wsX4_isSame_474) (fun _ h9 => h9) rfl dX4_isSame_33 ?_
    obtain ⟨g3, h⟩ := dG_some h
    refine kz_topv (if_neg (dnz_ne g3)) ?_
    refine lv_aload_n hx hb dX4_isSame_36 rfl (lv_at hl 0 rfl) ?_
    refine va_get (D := D) (ci := 4) (v := .int (q.1 24 5)) (C := RX4) (T := TX4) (N := 11) hx hb hts u9_wsX4_isSame_X4 hown hK hP 24 rfl rfl 5 (by decide) (hts (.fieldLink RX4 30 "TurnedFloors$Reader" "start" "I") f9_wsX4_isSame_475) (fun _ h9 => h9) rfl dX4_isSame_37 ?_
    refine lv_iload hx hb dX4_isSame_40 (lv_at hl 4 rfl) ?_
    refine lv_iadd hx hb dX4_isSame_42 ?_
    refine lv_iload_n hx hb dX4_isSame_43 rfl (lv_at hl 2 rfl) ?_
    refine lv_isub hx hb dX4_isSame_44 ?_
    obtain ⟨g4, h⟩ := dG_some h
    refine va_iald hx hb hK hP 46 0 rfl rfl (dg_in g4) dX4_isSame_45 ?_
    obtain ⟨v5, ev5, h⟩ := dL_some h
    refine kz_topi v5 ev5 ?_
    refine lv_icmp_eq (tgt := 51) hx hb dX4_isSame_46 (by decide) (fun c9 => ?_) (fun c9 => ?_)
    · rw [if_pos c9] at h
      refine lv_iinc (v := x4 + 1) (lv' := [(4, .int (x4 + 1)), (0, .ref (ad 24)), (1, .ref (eo (1 + 7))), (2, .int x2), (3, .int x3)]) hx hb dX4_isSame_51 hl (k := 4) rfl rfl (by decide) rfl (fun ls hl => ?_)
      refine lv_goto (tgt := 20) hx hb dX4_isSame_54 (by decide) ?_
      exact hk20 _ _ _ _ _ _ _ h hP hD hS (lv_sub hl [1, 2, 3, 4, 0] rfl)
    · rw [if_neg c9] at h
      refine lv_iconst (v := 0) hx hb dX4_isSame_49 (by decide) ?_
      cases h
      exact kz_zret hx hb hr hlocks rfl hP hK hD hS dX4_isSame_50 ⟨rfl, rfl⟩
set_option maxHeartbeats 4000000 in
set_option maxRecDepth 100000 in
theorem WX4_isSame_s24_t7_20 {p : Program} {l : Launch} {e : Env} {s : State} {m : MethodId} {args : Array Value} {below : List Frame} {meth : Method} {c : Code} {D : va_G} {ty : Nat → ClassId} {eo : Nat → Nat} {A : Nat → Prop} {ad : Nat → Nat} {o1 : Int32} {o2 : dK} (C : dc_C p s m args meth c cX4_isSame (some .boolean) 5 RX4 wsX4_isSame D ty eo A)   (n : Nat) (q : dK) (x2 : Int32) (x3 : Int32) (x4 : Int32) (H : Heap) (locs : List Loc) (ls : Array Slot) (h : zX4_isSame_s24_t7_20  n q x2 x3 x4 = some (o1, o2)) (hP : va_P D vwCl (wF ty ad q) H) (hD : va_D A (wF ty ad q)) (hS : va_S A s.heap H locs) (hl : lv_has ls 5 [(0, .ref (ad 24)), (1, .ref (eo (1 + 7))), (2, .int x2), (3, .int x3), (4, .int x4)]) : W p l e ({ frames := 4, cells := 0, slots := 0, locals := 85 } : Room) s m args below meth c H locs 0 0 (MQ below (va_Qi (fun (r : Int32) (u : va_W) => o1 = r ∧ wF ty ad o2 = u) (kz_B D ty A) A) args s 0 0 A) (F0 m 20 ls []) := by
  exact dFix_W (F := fun k (a : dK × Int32 × Int32 × Int32) => zX4_isSame_s24_t7_20b  (fun q x2 x3 x4 => k (q, x2, x3, x4)) a.1 a.2.1 a.2.2.1 a.2.2.2) (o := (o1, o2)) (P := fun (a : dK × Int32 × Int32 × Int32) H locs ls => va_P D vwCl (wF ty ad a.1) H ∧ va_D A (wF ty ad a.1) ∧ va_S A s.heap H locs ∧ lv_has ls 5 [(0, .ref (ad 24)), (1, .ref (eo (1 + 7))), (2, .int a.2.1), (3, .int a.2.2.1), (4, .int a.2.2.2)]) (G := fun H locs ls => W p l e ({ frames := 4, cells := 0, slots := 0, locals := 85 } : Room) s m args below meth c H locs 0 0 (MQ below (va_Qi (fun (r : Int32) (u : va_W) => o1 = r ∧ wF ty ad o2 = u) (kz_B D ty A) A) args s 0 0 A) (F0 m 20 ls []))
    (fun k hk a H locs ls h hp => WX4_isSame_s24_t7_20b C  (fun q x2 x3 x4 H locs ls h h1 h2 h3 h4 => hk (q, x2, x3, x4) H locs ls h ⟨h1, h2, h3, h4⟩) a.1 a.2.1 a.2.2.1 a.2.2.2 H locs ls h hp.1 hp.2.1 hp.2.2.1 hp.2.2.2) n (q, x2, x3, x4) H locs ls h ⟨hP, hD, hS, hl⟩
set_option maxHeartbeats 4000000 in
set_option maxRecDepth 100000 in
theorem qX4_isSame_s24_t7 (l : Launch) (D : va_G) (ty : Nat → ClassId) (eo : Nat → Nat) (sz : Nat) (ad : Nat → Nat) (q : dK) (p2 : Int32) (p3 : Int32) (o1 : Int32) (o2 : dK) (h : zX4_isSame_s24_t7 q p2 p3 = some (o1, o2)) : Met l yX4_isSame wsX4_isSame ({ frames := 4, cells := 0, slots := 0, locals := 85 } : Room) (va_Pc [.ref (ad 24), .ref (eo (1 + 7)), .int p2, .int p3] (kz_pre D ty eo (wF ty ad q) sz)) (va_Qi (fun (r : Int32) (u : va_W) => o1 = r ∧ wF ty ad o2 = u) (kz_B D ty (va_A (wF ty ad q) sz)) (va_A (wF ty ad q) sz)) 0 0 (va_A (wF ty ad q) sz) := by
  refine Met.ofW (cc := cX4_isSame) (maxL := 5) (ret := (some .boolean)) (by decide) rfl ?_
  intro p e s m args below meth c s₁ B hml hv
  obtain ⟨rfl, hsz, hP, hK, hD0, hN, hE⟩ := hv
  have hx := B.exec
  have hb := B.bytes
  have hr := B.returns
  have hts := atoms_spec (ws := wsX4_isSame) B.pre
  have hown : s.vm.findClass RX4 = some m.cls := findClass_of_methodNamed B.named
  have hlocks := B.notSynchronized
  subst hsz
  have hD := hD0.self (sz := s.heap.size)
  generalize hAe : va_A (wF ty ad q) s.heap.size = A at hD hE ⊢
  have hA : ∀ q : Nat, s.heap.size ≤ q → A q := fun q h => by rw [← hAe]; exact Or.inr h
  clear hAe
  have hS : va_S A s.heap s.heap [] := va_S.rf
  have hl := lv_entry ([.ref (ad 24), .ref (eo (1 + 7)), .int p2, .int p3]) (n := 5) (Nat.le_of_ble_eq_true rfl)
  rw [lg_entry_eq]
  generalize (lg_sl ([.ref (ad 24), .ref (eo (1 + 7)), .int p2, .int p3]) ++ List.replicate (5 - (lg_sl ([.ref (ad 24), .ref (eo (1 + 7)), .int p2, .int p3])).length) Slot.unset).toArray = ls at hl ⊢
  have hl : lv_has ls 5 [(0, .ref (ad 24)), (1, .ref (eo (1 + 7))), (2, .int p2), (3, .int p3)] := hl
  have C : dc_C p s m _ meth c cX4_isSame (some .boolean) 5 RX4 wsX4_isSame D ty eo A := ⟨hx, hb, hr, hts, hown, hlocks, hml, hK, hN, hE, hA⟩
  unfold zX4_isSame_s24_t7 at h
  refine lv_iload_n hx hb dX4_isSame_0 rfl (lv_at hl 3 rfl) ?_
  refine lv_iload_n hx hb dX4_isSame_1 rfl (lv_at hl 2 rfl) ?_
  refine lv_isub hx hb dX4_isSame_2 ?_
  refine lv_aload_n hx hb dX4_isSame_3 rfl (lv_at hl 0 rfl) ?_
  refine va_get (D := D) (ci := 4) (v := .int (q.1 24 6)) (C := RX4) (T := TX4) (N := 11) hx hb hts u9_wsX4_isSame_X4 hown hK hP 24 rfl rfl 6 (by decide) (hts (.fieldLink RX4 33 "TurnedFloors$Reader" "stop" "I") f9_wsX4_isSame_476) (fun _ h9 => h9) rfl dX4_isSame_4 ?_
  refine lv_aload_n hx hb dX4_isSame_7 rfl (lv_at hl 0 rfl) ?_
  refine va_get (D := D) (ci := 4) (v := .int (q.1 24 5)) (C := RX4) (T := TX4) (N := 11) hx hb hts u9_wsX4_isSame_X4 hown hK hP 24 rfl rfl 5 (by decide) (hts (.fieldLink RX4 30 "TurnedFloors$Reader" "start" "I") f9_wsX4_isSame_475) (fun _ h9 => h9) rfl dX4_isSame_8 ?_
  refine lv_isub hx hb dX4_isSame_11 ?_
  refine lv_icmp_eq (tgt := 17) hx hb dX4_isSame_12 (by decide) (fun c9 => ?_) (fun c9 => ?_)
  · rw [if_pos c9] at h
    refine lv_iload_n hx hb dX4_isSame_17 rfl (lv_at hl 2 rfl) ?_
    refine lv_istore (lv' := [(4, .int p2), (0, .ref (ad 24)), (1, .ref (eo (1 + 7))), (2, .int p2), (3, .int p3)]) hx hb dX4_isSame_18 hl (by decide) rfl (fun ls hl => ?_)
    exact WX4_isSame_s24_t7_20 C  _ _ _ _ _ _ _ _ h hP hD hS (lv_sub hl [1, 2, 3, 4, 0] rfl)
  · rw [if_neg c9] at h
    refine lv_iconst (v := 0) hx hb dX4_isSame_15 (by decide) ?_
    cases h
    exact kz_zret hx hb hr hlocks rfl hP hK hD hS dX4_isSame_16 ⟨rfl, rfl⟩

set_option maxHeartbeats 4000000 in
set_option maxRecDepth 100000 in
theorem WX4_isWord_s24_t7_26 {p : Program} {l : Launch} {e : Env} {s : State} {m : MethodId} {args : Array Value} {below : List Frame} {meth : Method} {c : Code} {D : va_G} {ty : Nat → ClassId} {eo : Nat → Nat} {A : Nat → Prop} {ad : Nat → Nat} {o1 : Int32} {o2 : dK} (C : dc_C p s m args meth c cX4_isWord (some .boolean) 2 RX4 wsX4_isWord D ty eo A)   (q : dK) (y0 : Int32) (H : Heap) (locs : List Loc) (ls : Array Slot) (h : zX4_isWord_s24_t7_26  q y0 = some (o1, o2)) (hP : va_P D vwCl (wF ty ad q) H) (hD : va_D A (wF ty ad q)) (hS : va_S A s.heap H locs) (hl : lv_has ls 2 []) : W p l e ({ frames := 5, cells := 0, slots := 0, locals := 109 } : Room) s m args below meth c H locs 0 0 (MQ below (va_Qi (fun (r : Int32) (u : va_W) => o1 = r ∧ wF ty ad o2 = u) (kz_B D ty A) A) args s 0 0 A) (F0 m 26 ls [.int y0]) := by
  have C0 := C
  obtain ⟨hx, hb, hr, hts, hown, hlocks, hml, hK, hN, hE, hA⟩ := C
  unfold zX4_isWord_s24_t7_26 at h
  obtain ⟨g1, h⟩ := dG_some h
  cases h
  exact kz_zret hx hb hr hlocks (dbl_nar g1) hP hK hD hS dX4_isWord_26 ⟨rfl, rfl⟩
set_option maxHeartbeats 4000000 in
set_option maxRecDepth 100000 in
theorem WX4_isWord_s24_t7_25 {p : Program} {l : Launch} {e : Env} {s : State} {m : MethodId} {args : Array Value} {below : List Frame} {meth : Method} {c : Code} {D : va_G} {ty : Nat → ClassId} {eo : Nat → Nat} {A : Nat → Prop} {ad : Nat → Nat} {o1 : Int32} {o2 : dK} (C : dc_C p s m args meth c cX4_isWord (some .boolean) 2 RX4 wsX4_isWord D ty eo A)   (q : dK)  (H : Heap) (locs : List Loc) (ls : Array Slot) (h : zX4_isWord_s24_t7_25  q = some (o1, o2)) (hP : va_P D vwCl (wF ty ad q) H) (hD : va_D A (wF ty ad q)) (hS : va_S A s.heap H locs) (hl : lv_has ls 2 []) : W p l e ({ frames := 5, cells := 0, slots := 0, locals := 109 } : Room) s m args below meth c H locs 0 0 (MQ below (va_Qi (fun (r : Int32) (u : va_W) => o1 = r ∧ wF ty ad o2 = u) (kz_B D ty A) A) args s 0 0 A) (F0 m 25 ls []) := by
  have C0 := C
  obtain ⟨hx, hb, hr, hts, hown, hlocks, hml, hK, hN, hE, hA⟩ := C
  unfold zX4_isWord_s24_t7_25 at h
  refine lv_iconst (v := 0) hx hb dX4_isWord_25 (by decide) ?_
  exact WX4_isWord_s24_t7_26 C0  _ _ _ _ _ h hP hD hS (lv_sub hl [] rfl)
set_option maxHeartbeats 4000000 in
set_option maxRecDepth 100000 in
theorem qX4_isWord_s24_t7 (l : Launch) (D : va_G) (ty : Nat → ClassId) (eo : Nat → Nat) (sz : Nat) (ad : Nat → Nat) (q : dK)  (o1 : Int32) (o2 : dK) (h : zX4_isWord_s24_t7 q = some (o1, o2)) : Met l yX4_isWord wsX4_isWord ({ frames := 5, cells := 0, slots := 0, locals := 109 } : Room) (va_Pc [.ref (ad 24), .ref (eo (1 + 7))] (kz_pre D ty eo (wF ty ad q) sz)) (va_Qi (fun (r : Int32) (u : va_W) => o1 = r ∧ wF ty ad o2 = u) (kz_B D ty (va_A (wF ty ad q) sz)) (va_A (wF ty ad q) sz)) 0 0 (va_A (wF ty ad q) sz) := by
  refine Met.ofW (cc := cX4_isWord) (maxL := 2) (ret := (some .boolean)) (by decide) rfl ?_
  intro p e s m args below meth c s₁ B hml hv
  obtain ⟨rfl, hsz, hP, hK, hD0, hN, hE⟩ := hv
  have hx := B.exec
  have hb := B.bytes
  have hr := B.returns
  have hts := atoms_spec (ws := wsX4_isWord) B.pre
  have hown : s.vm.findClass RX4 = some m.cls := findClass_of_methodNamed B.named
  have hlocks := B.notSynchronized
  subst hsz
  have hD := hD0.self (sz := s.heap.size)
  generalize hAe : va_A (wF ty ad q) s.heap.size = A at hD hE ⊢
  have hA : ∀ q : Nat, s.heap.size ≤ q → A q := fun q h => by rw [← hAe]; exact Or.inr h
  clear hAe
  have hS : va_S A s.heap s.heap [] := va_S.rf
  have hl := lv_entry ([.ref (ad 24), .ref (eo (1 + 7))]) (n := 2) (Nat.le_of_ble_eq_true rfl)
  rw [lg_entry_eq]
  generalize (lg_sl ([.ref (ad 24), .ref (eo (1 + 7))]) ++ List.replicate (2 - (lg_sl ([.ref (ad 24), .ref (eo (1 + 7))])).length) Slot.unset).toArray = ls at hl ⊢
  have hl : lv_has ls 2 [(0, .ref (ad 24)), (1, .ref (eo (1 + 7)))] := hl
  have C : dc_C p s m _ meth c cX4_isWord (some .boolean) 2 RX4 wsX4_isWord D ty eo A := ⟨hx, hb, hr, hts, hown, hlocks, hml, hK, hN, hE, hA⟩
  unfold zX4_isWord_s24_t7 at h
  refine lv_aload_n hx hb dX4_isWord_0 rfl (lv_at hl 0 rfl) ?_
  refine va_get (D := D) (ci := 4) (v := .int (q.1 24 4)) (C := RX4) (T := TX4) (N := 11) hx hb hts u9_wsX4_isWord_X4 hown hK hP 24 rfl rfl 4 (by decide) (hts (.fieldLink RX4 27 "TurnedFloors$Reader" "token" "I") f9_wsX4_isWord_524) (fun _ h9 => h9) rfl dX4_isWord_1 ?_
  refine lv_iconst (v := 1) hx hb dX4_isWord_4 (by decide) ?_
  refine lv_icmp_ne (tgt := 25) hx hb dX4_isWord_5 (by decide) (fun c9 => ?_) (fun c9 => ?_)
  · rw [if_neg c9] at h
    exact WX4_isWord_s24_t7_25 C  _ _ _ _ h hP hD hS (lv_sub hl [] rfl)
  · rw [if_pos c9] at h
    refine lv_aload_n hx hb dX4_isWord_8 rfl (lv_at hl 0 rfl) ?_
    refine lv_aload_n hx hb dX4_isWord_9 rfl (lv_at hl 1 rfl) ?_
    refine lv_iconst (v := 0) hx hb dX4_isWord_10 (by decide) ?_
    refine lv_aload_n hx hb dX4_isWord_11 rfl (lv_at hl 1 rfl) ?_
    refine dw_ks (va_runV (As := []) (rest := [.int 0, .ref (eo (1 + 7)), .ref (ad 24)]) ⟨hx, hb, hml, hown, hts⟩ (kcJ0le l D ty eo _ 7 (by decide)) (cwV 0 hts gX4_isWord_J0_length_8abf5 rfl rfl rfl hd_J0_length_8abf5_v ⟨Nat.le_of_ble_eq_true rfl, Nat.le_of_ble_eq_true rfl⟩) (kz_preT hK hN hE hP hD hS hA 7 (by decide) [] (by decide) rfl) rfl rfl hl.1 rfl (lv_room (Nat.le_of_ble_eq_true rfl)) dX4_isWord_12 ⟨Nat.le_of_ble_eq_true rfl, Nat.le_of_ble_eq_true rfl⟩) hP hD hS hA (fun _ _ h9 => h9.2.symm) (fun r9 u9 H locs hw hp hd hs => ?_)
    obtain ⟨rfl, -⟩ := hw
    clear hP hD hS
    have hP := hp; have hD := hd; have hS := hs; clear hp hd hs
    refine kz_topi 2 (by decide +kernel) ?_
    obtain ⟨r1, q3, h2, h⟩ := dB_some h
    refine dw_ki (va_runV (As := [.ref (eo (1 + 7)), .int 0, .int 2]) (rest := []) ⟨hx, hb, hml, hown, hts⟩ (qX4_isSame_s24_t7 l D ty eo _ ad q 0 2 r1 q3 h2) (cwV 3 hts gX4_isWord_X4_isSame rfl rfl rfl hd_X4_isSame_v ⟨Nat.le_of_ble_eq_true rfl, Nat.le_of_ble_eq_true rfl⟩) (pvF_4_24 hK hN hE hP hD hS hA) rfl rfl hl.1 rfl (lv_room (Nat.le_of_ble_eq_true rfl)) dX4_isWord_15 ⟨Nat.le_of_ble_eq_true rfl, Nat.le_of_ble_eq_true rfl⟩) hD hS hA (fun r9 u9 H locs hw hp hd hs => ?_)
    clear hP hD hS
    obtain ⟨rfl, rfl⟩ := hw
    have hP := hp; have hD := hd; have hS := hs; clear hp hd hs
    refine lv_if_eq (tgt := 25) hx hb dX4_isWord_18 (by decide) (fun c9 => ?_) (fun c9 => ?_)
    · rw [if_pos c9] at h
      exact WX4_isWord_s24_t7_25 C  _ _ _ _ h hP hD hS (lv_sub hl [] rfl)
    · rw [if_neg c9] at h
      refine lv_iconst (v := 1) hx hb dX4_isWord_21 (by decide) ?_
      refine lv_goto (tgt := 26) hx hb dX4_isWord_22 (by decide) ?_
      exact WX4_isWord_s24_t7_26 C  _ _ _ _ _ h hP hD hS (lv_sub hl [] rfl)

set_option maxHeartbeats 4000000 in
set_option maxRecDepth 100000 in
theorem WX4_isSame_s24_t8_20b {p : Program} {l : Launch} {e : Env} {s : State} {m : MethodId} {args : Array Value} {below : List Frame} {meth : Method} {c : Code} {D : va_G} {ty : Nat → ClassId} {eo : Nat → Nat} {A : Nat → Prop} {ad : Nat → Nat} {o1 : Int32} {o2 : dK} (C : dc_C p s m args meth c cX4_isSame (some .boolean) 5 RX4 wsX4_isSame D ty eo A) {k20 : dK → Int32 → Int32 → Int32 → Option (Int32 × dK)} (hk20 : ∀ (q : dK) (x2 : Int32) (x3 : Int32) (x4 : Int32) (H : Heap) (locs : List Loc) (ls : Array Slot), k20 q x2 x3 x4 = some (o1, o2) → va_P D vwCl (wF ty ad q) H → va_D A (wF ty ad q) → va_S A s.heap H locs → lv_has ls 5 [(0, .ref (ad 24)), (1, .ref (eo (1 + 8))), (2, .int x2), (3, .int x3), (4, .int x4)] → W p l e ({ frames := 4, cells := 0, slots := 0, locals := 85 } : Room) s m args below meth c H locs 0 0 (MQ below (va_Qi (fun (r : Int32) (u : va_W) => o1 = r ∧ wF ty ad o2 = u) (kz_B D ty A) A) args s 0 0 A) (F0 m 20 ls [])) (q : dK) (x2 : Int32) (x3 : Int32) (x4 : Int32) (H : Heap) (locs : List Loc) (ls : Array Slot) (h : zX4_isSame_s24_t8_20b k20 q x2 x3 x4 = some (o1, o2)) (hP : va_P D vwCl (wF ty ad q) H) (hD : va_D A (wF ty ad q)) (hS : va_S A s.heap H locs) (hl : lv_has ls 5 [(0, .ref (ad 24)), (1, .ref (eo (1 + 8))), (2, .int x2), (3, .int x3), (4, .int x4)]) : W p l e ({ frames := 4, cells := 0, slots := 0, locals := 85 } : Room) s m args below meth c H locs 0 0 (MQ below (va_Qi (fun (r : Int32) (u : va_W) => o1 = r ∧ wF ty ad o2 = u) (kz_B D ty A) A) args s 0 0 A) (F0 m 20 ls []) := by
  have C0 := C
  obtain ⟨hx, hb, hr, hts, hown, hlocks, hml, hK, hN, hE, hA⟩ := C
  unfold zX4_isSame_s24_t8_20b at h
  refine lv_iload hx hb dX4_isSame_20 (lv_at hl 4 rfl) ?_
  refine lv_iload_n hx hb dX4_isSame_22 rfl (lv_at hl 3 rfl) ?_
  refine lv_icmp_ge (tgt := 57) hx hb dX4_isSame_23 (by decide) (fun c9 => ?_) (fun c9 => ?_)
  · rw [if_pos c9] at h
    refine lv_iconst (v := 1) hx hb dX4_isSame_57 (by decide) ?_
    cases h
    exact kz_zret hx hb hr hlocks rfl hP hK hD hS dX4_isSame_58 ⟨rfl, rfl⟩
  · rw [if_neg c9] at h
    refine lv_aload_n hx hb dX4_isSame_26 rfl (lv_at hl 1 rfl) ?_
    refine lv_iload hx hb dX4_isSame_27 (lv_at hl 4 rfl) ?_
    obtain ⟨g1, h⟩ := dG_some h
    refine dw_ks (va_runV (As := [.int x4]) (rest := []) ⟨hx, hb, hml, hown, hts⟩ (kcJ0ch l D ty eo _ 8 (by decide) x4 (dg_in g1)) (cwV 1 hts gX4_isSame_J0_charAt_5068e rfl rfl rfl hd_J0_charAt_5068e_v ⟨Nat.le_of_ble_eq_true rfl, Nat.le_of_ble_eq_true rfl⟩) (kz_preT hK hN hE hP hD hS hA 8 (by decide) [] (by decide) rfl) rfl rfl hl.1 rfl (lv_room (Nat.le_of_ble_eq_true rfl)) dX4_isSame_29 ⟨Nat.le_of_ble_eq_true rfl, Nat.le_of_ble_eq_true rfl⟩) hP hD hS hA (fun _ _ h9 => h9.2.symm) (fun r9 u9 H locs hw hp hd hs => ?_)
    obtain ⟨rfl, -⟩ := hw
    clear hP hD hS
    have hP := hp; have hD := hd; have hS := hs; clear hp hd hs
    obtain ⟨v2, ev2, h⟩ := dL_some h
    refine kz_topi v2 ev2 ?_
    refine lv_aload_n hx hb dX4_isSame_32 rfl (lv_at hl 0 rfl) ?_
    refine va_get (D := D) (ci := 4) (v := dN (ad 46) (q.1 24 0)) (C := RX4) (T := TX4) (N := 11) hx hb hts u9_wsX4_isSame_X4 hown hK hP 24 rfl rfl 0 (by decide) (hts (.fieldLink RX4 9 "TurnedFloors$Reader" "bytes" "[I") f9_wsX4_isSame_474) (fun _ h9 => h9) rfl dX4_isSame_33 ?_
    obtain ⟨g3, h⟩ := dG_some h
    refine kz_topv (if_neg (dnz_ne g3)) ?_
    refine lv_aload_n hx hb dX4_isSame_36 rfl (lv_at hl 0 rfl) ?_
    refine va_get (D := D) (ci := 4) (v := .int (q.1 24 5)) (C := RX4) (T := TX4) (N := 11) hx hb hts u9_wsX4_isSame_X4 hown hK hP 24 rfl rfl 5 (by decide) (hts (.fieldLink RX4 30 "TurnedFloors$Reader" "start" "I") f9_wsX4_isSame_475) (fun _ h9 => h9) rfl dX4_isSame_37 ?_
    refine lv_iload hx hb dX4_isSame_40 (lv_at hl 4 rfl) ?_
    refine lv_iadd hx hb dX4_isSame_42 ?_
    refine lv_iload_n hx hb dX4_isSame_43 rfl (lv_at hl 2 rfl) ?_
    refine lv_isub hx hb dX4_isSame_44 ?_
    obtain ⟨g4, h⟩ := dG_some h
    refine va_iald hx hb hK hP 46 0 rfl rfl (dg_in g4) dX4_isSame_45 ?_
    obtain ⟨v5, ev5, h⟩ := dL_some h
    refine kz_topi v5 ev5 ?_
    refine lv_icmp_eq (tgt := 51) hx hb dX4_isSame_46 (by decide) (fun c9 => ?_) (fun c9 => ?_)
    · rw [if_pos c9] at h
      refine lv_iinc (v := x4 + 1) (lv' := [(4, .int (x4 + 1)), (0, .ref (ad 24)), (1, .ref (eo (1 + 8))), (2, .int x2), (3, .int x3)]) hx hb dX4_isSame_51 hl (k := 4) rfl rfl (by decide) rfl (fun ls hl => ?_)
      refine lv_goto (tgt := 20) hx hb dX4_isSame_54 (by decide) ?_
      exact hk20 _ _ _ _ _ _ _ h hP hD hS (lv_sub hl [1, 2, 3, 4, 0] rfl)
    · rw [if_neg c9] at h
      refine lv_iconst (v := 0) hx hb dX4_isSame_49 (by decide) ?_
      cases h
      exact kz_zret hx hb hr hlocks rfl hP hK hD hS dX4_isSame_50 ⟨rfl, rfl⟩
set_option maxHeartbeats 4000000 in
set_option maxRecDepth 100000 in
theorem WX4_isSame_s24_t8_20 {p : Program} {l : Launch} {e : Env} {s : State} {m : MethodId} {args : Array Value} {below : List Frame} {meth : Method} {c : Code} {D : va_G} {ty : Nat → ClassId} {eo : Nat → Nat} {A : Nat → Prop} {ad : Nat → Nat} {o1 : Int32} {o2 : dK} (C : dc_C p s m args meth c cX4_isSame (some .boolean) 5 RX4 wsX4_isSame D ty eo A)   (n : Nat) (q : dK) (x2 : Int32) (x3 : Int32) (x4 : Int32) (H : Heap) (locs : List Loc) (ls : Array Slot) (h : zX4_isSame_s24_t8_20  n q x2 x3 x4 = some (o1, o2)) (hP : va_P D vwCl (wF ty ad q) H) (hD : va_D A (wF ty ad q)) (hS : va_S A s.heap H locs) (hl : lv_has ls 5 [(0, .ref (ad 24)), (1, .ref (eo (1 + 8))), (2, .int x2), (3, .int x3), (4, .int x4)]) : W p l e ({ frames := 4, cells := 0, slots := 0, locals := 85 } : Room) s m args below meth c H locs 0 0 (MQ below (va_Qi (fun (r : Int32) (u : va_W) => o1 = r ∧ wF ty ad o2 = u) (kz_B D ty A) A) args s 0 0 A) (F0 m 20 ls []) := by
  exact dFix_W (F := fun k (a : dK × Int32 × Int32 × Int32) => zX4_isSame_s24_t8_20b  (fun q x2 x3 x4 => k (q, x2, x3, x4)) a.1 a.2.1 a.2.2.1 a.2.2.2) (o := (o1, o2)) (P := fun (a : dK × Int32 × Int32 × Int32) H locs ls => va_P D vwCl (wF ty ad a.1) H ∧ va_D A (wF ty ad a.1) ∧ va_S A s.heap H locs ∧ lv_has ls 5 [(0, .ref (ad 24)), (1, .ref (eo (1 + 8))), (2, .int a.2.1), (3, .int a.2.2.1), (4, .int a.2.2.2)]) (G := fun H locs ls => W p l e ({ frames := 4, cells := 0, slots := 0, locals := 85 } : Room) s m args below meth c H locs 0 0 (MQ below (va_Qi (fun (r : Int32) (u : va_W) => o1 = r ∧ wF ty ad o2 = u) (kz_B D ty A) A) args s 0 0 A) (F0 m 20 ls []))
    (fun k hk a H locs ls h hp => WX4_isSame_s24_t8_20b C  (fun q x2 x3 x4 H locs ls h h1 h2 h3 h4 => hk (q, x2, x3, x4) H locs ls h ⟨h1, h2, h3, h4⟩) a.1 a.2.1 a.2.2.1 a.2.2.2 H locs ls h hp.1 hp.2.1 hp.2.2.1 hp.2.2.2) n (q, x2, x3, x4) H locs ls h ⟨hP, hD, hS, hl⟩
set_option maxHeartbeats 4000000 in
set_option maxRecDepth 100000 in
theorem qX4_isSame_s24_t8 (l : Launch) (D : va_G) (ty : Nat → ClassId) (eo : Nat → Nat) (sz : Nat) (ad : Nat → Nat) (q : dK) (p2 : Int32) (p3 : Int32) (o1 : Int32) (o2 : dK) (h : zX4_isSame_s24_t8 q p2 p3 = some (o1, o2)) : Met l yX4_isSame wsX4_isSame ({ frames := 4, cells := 0, slots := 0, locals := 85 } : Room) (va_Pc [.ref (ad 24), .ref (eo (1 + 8)), .int p2, .int p3] (kz_pre D ty eo (wF ty ad q) sz)) (va_Qi (fun (r : Int32) (u : va_W) => o1 = r ∧ wF ty ad o2 = u) (kz_B D ty (va_A (wF ty ad q) sz)) (va_A (wF ty ad q) sz)) 0 0 (va_A (wF ty ad q) sz) := by
  refine Met.ofW (cc := cX4_isSame) (maxL := 5) (ret := (some .boolean)) (by decide) rfl ?_
  intro p e s m args below meth c s₁ B hml hv
  obtain ⟨rfl, hsz, hP, hK, hD0, hN, hE⟩ := hv
  have hx := B.exec
  have hb := B.bytes
  have hr := B.returns
  have hts := atoms_spec (ws := wsX4_isSame) B.pre
  have hown : s.vm.findClass RX4 = some m.cls := findClass_of_methodNamed B.named
  have hlocks := B.notSynchronized
  subst hsz
  have hD := hD0.self (sz := s.heap.size)
  generalize hAe : va_A (wF ty ad q) s.heap.size = A at hD hE ⊢
  have hA : ∀ q : Nat, s.heap.size ≤ q → A q := fun q h => by rw [← hAe]; exact Or.inr h
  clear hAe
  have hS : va_S A s.heap s.heap [] := va_S.rf
  have hl := lv_entry ([.ref (ad 24), .ref (eo (1 + 8)), .int p2, .int p3]) (n := 5) (Nat.le_of_ble_eq_true rfl)
  rw [lg_entry_eq]
  generalize (lg_sl ([.ref (ad 24), .ref (eo (1 + 8)), .int p2, .int p3]) ++ List.replicate (5 - (lg_sl ([.ref (ad 24), .ref (eo (1 + 8)), .int p2, .int p3])).length) Slot.unset).toArray = ls at hl ⊢
  have hl : lv_has ls 5 [(0, .ref (ad 24)), (1, .ref (eo (1 + 8))), (2, .int p2), (3, .int p3)] := hl
  have C : dc_C p s m _ meth c cX4_isSame (some .boolean) 5 RX4 wsX4_isSame D ty eo A := ⟨hx, hb, hr, hts, hown, hlocks, hml, hK, hN, hE, hA⟩
  unfold zX4_isSame_s24_t8 at h
  refine lv_iload_n hx hb dX4_isSame_0 rfl (lv_at hl 3 rfl) ?_
  refine lv_iload_n hx hb dX4_isSame_1 rfl (lv_at hl 2 rfl) ?_
  refine lv_isub hx hb dX4_isSame_2 ?_
  refine lv_aload_n hx hb dX4_isSame_3 rfl (lv_at hl 0 rfl) ?_
  refine va_get (D := D) (ci := 4) (v := .int (q.1 24 6)) (C := RX4) (T := TX4) (N := 11) hx hb hts u9_wsX4_isSame_X4 hown hK hP 24 rfl rfl 6 (by decide) (hts (.fieldLink RX4 33 "TurnedFloors$Reader" "stop" "I") f9_wsX4_isSame_476) (fun _ h9 => h9) rfl dX4_isSame_4 ?_
  refine lv_aload_n hx hb dX4_isSame_7 rfl (lv_at hl 0 rfl) ?_
  refine va_get (D := D) (ci := 4) (v := .int (q.1 24 5)) (C := RX4) (T := TX4) (N := 11) hx hb hts u9_wsX4_isSame_X4 hown hK hP 24 rfl rfl 5 (by decide) (hts (.fieldLink RX4 30 "TurnedFloors$Reader" "start" "I") f9_wsX4_isSame_475) (fun _ h9 => h9) rfl dX4_isSame_8 ?_
  refine lv_isub hx hb dX4_isSame_11 ?_
  refine lv_icmp_eq (tgt := 17) hx hb dX4_isSame_12 (by decide) (fun c9 => ?_) (fun c9 => ?_)
  · rw [if_pos c9] at h
    refine lv_iload_n hx hb dX4_isSame_17 rfl (lv_at hl 2 rfl) ?_
    refine lv_istore (lv' := [(4, .int p2), (0, .ref (ad 24)), (1, .ref (eo (1 + 8))), (2, .int p2), (3, .int p3)]) hx hb dX4_isSame_18 hl (by decide) rfl (fun ls hl => ?_)
    exact WX4_isSame_s24_t8_20 C  _ _ _ _ _ _ _ _ h hP hD hS (lv_sub hl [1, 2, 3, 4, 0] rfl)
  · rw [if_neg c9] at h
    refine lv_iconst (v := 0) hx hb dX4_isSame_15 (by decide) ?_
    cases h
    exact kz_zret hx hb hr hlocks rfl hP hK hD hS dX4_isSame_16 ⟨rfl, rfl⟩
end
section
set_option maxRecDepth 20000 in
theorem ggX4_readBoth_X4_readPlain : GoodIn wsX4_readBoth wsX4_readPlain := wd_c vW9_ok mvW9_330
set_option maxRecDepth 20000 in
theorem gX4_readBoth_X4_readPlain : GoodIn wsX4_readBoth (wsV RX4 123 RX4 yX4_readPlain wsX4_readPlain) := goodIn_app (wd_l vW9_ok _ pvW9_52) ggX4_readBoth_X4_readPlain
set_option maxRecDepth 20000 in
theorem ggX4_readBoth_X4_isWord : GoodIn wsX4_readBoth wsX4_isWord := wd_c vW9_ok mvW9_306
set_option maxRecDepth 20000 in
theorem gX4_readBoth_X4_isWord : GoodIn wsX4_readBoth (wsV RX4 92 RX4 yX4_isWord wsX4_isWord) := goodIn_app (wd_l vW9_ok _ pvW9_44) ggX4_readBoth_X4_isWord
set_option maxRecDepth 20000 in
theorem ggX4_readBoth_X7_emit : GoodIn wsX4_readBoth wsX7_emit := wd_c vW9_ok mvW9_280
set_option maxRecDepth 20000 in
theorem gX4_readBoth_X7_emit : GoodIn wsX4_readBoth (wsV RX4 116 RX7 yX7_emit wsX7_emit) := goodIn_app (wd_l vW9_ok _ pvW9_50) ggX4_readBoth_X7_emit
set_option maxRecDepth 20000 in
theorem ggX4_readBoth_X4_step : GoodIn wsX4_readBoth wsX4_step := wd_c vW9_ok mvW9_182
set_option maxRecDepth 20000 in
theorem gX4_readBoth_X4_step : GoodIn wsX4_readBoth (wsV RX4 59 RX4 yX4_step wsX4_step) := goodIn_app (wd_l vW9_ok _ pvW9_36) ggX4_readBoth_X4_step
set_option maxRecDepth 20000 in
theorem ggX4_readBoth_X7_leapHere : GoodIn wsX4_readBoth wsX7_leapHere := wd_c vW9_ok mvW9_325
set_option maxRecDepth 20000 in
theorem gX4_readBoth_X7_leapHere : GoodIn wsX4_readBoth (wsV RX4 120 RX7 yX7_leapHere wsX7_leapHere) := goodIn_app (wd_l vW9_ok _ pvW9_51) ggX4_readBoth_X7_leapHere
theorem da9_dX4_readBoth_0 : (decode cX4_readBoth 0 = .ok (.aload_n 0, 1)) ∧ (decode cX4_readBoth 1 = .ok (.invokevirtual 123, 3)) ∧ (decode cX4_readBoth 4 = .ok (.iconst 0, 1)) ∧ (decode cX4_readBoth 5 = .ok (.istore_n 1, 1)) ∧ (decode cX4_readBoth 6 = .ok (.iload_n 1, 1)) ∧ (decode cX4_readBoth 7 = .ok (.aload_n 0, 1)) ∧ (decode cX4_readBoth 8 = .ok (.getfield 15, 3)) ∧ (decode cX4_readBoth 11 = .ok (.if_icmp .ge 62, 3)) ∧ (decode cX4_readBoth 14 = .ok (.aload_n 0, 1)) ∧ (decode cX4_readBoth 15 = .ok (.getfield 45, 3)) ∧ (decode cX4_readBoth 18 = .ok (.iconst (-1), 1)) ∧ (decode cX4_readBoth 19 = .ok (.if_icmp .ne 54, 3)) ∧ (decode cX4_readBoth 22 = .ok (.aload_n 0, 1)) ∧ (decode cX4_readBoth 23 = .ok (.ldc 126, 2)) ∧ (decode cX4_readBoth 25 = .ok (.invokevirtual 92, 3)) ∧ (decode cX4_readBoth 28 = .ok (.ifCond .eq 45, 3)) := by decide +kernel
theorem dX4_readBoth_0 : decode cX4_readBoth 0 = .ok (.aload_n 0, 1) := da9_dX4_readBoth_0.1
theorem dX4_readBoth_1 : decode cX4_readBoth 1 = .ok (.invokevirtual 123, 3) := da9_dX4_readBoth_0.2.1
theorem dX4_readBoth_4 : decode cX4_readBoth 4 = .ok (.iconst 0, 1) := da9_dX4_readBoth_0.2.2.1
theorem dX4_readBoth_5 : decode cX4_readBoth 5 = .ok (.istore_n 1, 1) := da9_dX4_readBoth_0.2.2.2.1
theorem dX4_readBoth_6 : decode cX4_readBoth 6 = .ok (.iload_n 1, 1) := da9_dX4_readBoth_0.2.2.2.2.1
theorem dX4_readBoth_7 : decode cX4_readBoth 7 = .ok (.aload_n 0, 1) := da9_dX4_readBoth_0.2.2.2.2.2.1
theorem dX4_readBoth_8 : decode cX4_readBoth 8 = .ok (.getfield 15, 3) := da9_dX4_readBoth_0.2.2.2.2.2.2.1
theorem dX4_readBoth_11 : decode cX4_readBoth 11 = .ok (.if_icmp .ge 62, 3) := da9_dX4_readBoth_0.2.2.2.2.2.2.2.1
theorem dX4_readBoth_14 : decode cX4_readBoth 14 = .ok (.aload_n 0, 1) := da9_dX4_readBoth_0.2.2.2.2.2.2.2.2.1
theorem dX4_readBoth_15 : decode cX4_readBoth 15 = .ok (.getfield 45, 3) := da9_dX4_readBoth_0.2.2.2.2.2.2.2.2.2.1
theorem dX4_readBoth_18 : decode cX4_readBoth 18 = .ok (.iconst (-1), 1) := da9_dX4_readBoth_0.2.2.2.2.2.2.2.2.2.2.1
theorem dX4_readBoth_19 : decode cX4_readBoth 19 = .ok (.if_icmp .ne 54, 3) := da9_dX4_readBoth_0.2.2.2.2.2.2.2.2.2.2.2.1
theorem dX4_readBoth_22 : decode cX4_readBoth 22 = .ok (.aload_n 0, 1) := da9_dX4_readBoth_0.2.2.2.2.2.2.2.2.2.2.2.2.1
theorem dX4_readBoth_23 : decode cX4_readBoth 23 = .ok (.ldc 126, 2) := da9_dX4_readBoth_0.2.2.2.2.2.2.2.2.2.2.2.2.2.1
theorem dX4_readBoth_25 : decode cX4_readBoth 25 = .ok (.invokevirtual 92, 3) := da9_dX4_readBoth_0.2.2.2.2.2.2.2.2.2.2.2.2.2.2.1
theorem dX4_readBoth_28 : decode cX4_readBoth 28 = .ok (.ifCond .eq 45, 3) := da9_dX4_readBoth_0.2.2.2.2.2.2.2.2.2.2.2.2.2.2.2
theorem da9_dX4_readBoth_31 : (decode cX4_readBoth 31 = .ok (.aload_n 0, 1)) ∧ (decode cX4_readBoth 32 = .ok (.getfield 23, 3)) ∧ (decode cX4_readBoth 35 = .ok (.getfield 115, 3)) ∧ (decode cX4_readBoth 38 = .ok (.istore_n 2, 1)) ∧ (decode cX4_readBoth 39 = .ok (.aload_n 0, 1)) ∧ (decode cX4_readBoth 40 = .ok (.getfield 23, 3)) ∧ (decode cX4_readBoth 43 = .ok (.bipush 11, 2)) ∧ (decode cX4_readBoth 45 = .ok (.iconst 0, 1)) ∧ (decode cX4_readBoth 46 = .ok (.invokevirtual 116, 3)) ∧ (decode cX4_readBoth 49 = .ok (.aload_n 0, 1)) ∧ (decode cX4_readBoth 50 = .ok (.invokevirtual 59, 3)) ∧ (decode cX4_readBoth 53 = .ok (.aload_n 0, 1)) ∧ (decode cX4_readBoth 54 = .ok (.invokevirtual 123, 3)) ∧ (decode cX4_readBoth 57 = .ok (.aload_n 0, 1)) ∧ (decode cX4_readBoth 58 = .ok (.getfield 23, 3)) ∧ (decode cX4_readBoth 61 = .ok (.bipush 11, 2)) := by decide +kernel
theorem dX4_readBoth_31 : decode cX4_readBoth 31 = .ok (.aload_n 0, 1) := da9_dX4_readBoth_31.1
theorem dX4_readBoth_32 : decode cX4_readBoth 32 = .ok (.getfield 23, 3) := da9_dX4_readBoth_31.2.1
theorem dX4_readBoth_35 : decode cX4_readBoth 35 = .ok (.getfield 115, 3) := da9_dX4_readBoth_31.2.2.1
theorem dX4_readBoth_38 : decode cX4_readBoth 38 = .ok (.istore_n 2, 1) := da9_dX4_readBoth_31.2.2.2.1
theorem dX4_readBoth_39 : decode cX4_readBoth 39 = .ok (.aload_n 0, 1) := da9_dX4_readBoth_31.2.2.2.2.1
theorem dX4_readBoth_40 : decode cX4_readBoth 40 = .ok (.getfield 23, 3) := da9_dX4_readBoth_31.2.2.2.2.2.1
theorem dX4_readBoth_43 : decode cX4_readBoth 43 = .ok (.bipush 11, 2) := da9_dX4_readBoth_31.2.2.2.2.2.2.1
theorem dX4_readBoth_45 : decode cX4_readBoth 45 = .ok (.iconst 0, 1) := da9_dX4_readBoth_31.2.2.2.2.2.2.2.1
theorem dX4_readBoth_46 : decode cX4_readBoth 46 = .ok (.invokevirtual 116, 3) := da9_dX4_readBoth_31.2.2.2.2.2.2.2.2.1
theorem dX4_readBoth_49 : decode cX4_readBoth 49 = .ok (.aload_n 0, 1) := da9_dX4_readBoth_31.2.2.2.2.2.2.2.2.2.1
theorem dX4_readBoth_50 : decode cX4_readBoth 50 = .ok (.invokevirtual 59, 3) := da9_dX4_readBoth_31.2.2.2.2.2.2.2.2.2.2.1
theorem dX4_readBoth_53 : decode cX4_readBoth 53 = .ok (.aload_n 0, 1) := da9_dX4_readBoth_31.2.2.2.2.2.2.2.2.2.2.2.1
theorem dX4_readBoth_54 : decode cX4_readBoth 54 = .ok (.invokevirtual 123, 3) := da9_dX4_readBoth_31.2.2.2.2.2.2.2.2.2.2.2.2.1
theorem dX4_readBoth_57 : decode cX4_readBoth 57 = .ok (.aload_n 0, 1) := da9_dX4_readBoth_31.2.2.2.2.2.2.2.2.2.2.2.2.2.1
theorem dX4_readBoth_58 : decode cX4_readBoth 58 = .ok (.getfield 23, 3) := da9_dX4_readBoth_31.2.2.2.2.2.2.2.2.2.2.2.2.2.2.1
theorem dX4_readBoth_61 : decode cX4_readBoth 61 = .ok (.bipush 11, 2) := da9_dX4_readBoth_31.2.2.2.2.2.2.2.2.2.2.2.2.2.2.2
theorem da9_dX4_readBoth_63 : (decode cX4_readBoth 63 = .ok (.iload_n 2, 1)) ∧ (decode cX4_readBoth 64 = .ok (.invokevirtual 120, 3)) ∧ (decode cX4_readBoth 67 = .ok (.iinc 1 1, 3)) ∧ (decode cX4_readBoth 70 = .ok (.goto (-64), 3)) ∧ (decode cX4_readBoth 73 = .ok (.return_, 1)) := by decide +kernel
theorem dX4_readBoth_63 : decode cX4_readBoth 63 = .ok (.iload_n 2, 1) := da9_dX4_readBoth_63.1
theorem dX4_readBoth_64 : decode cX4_readBoth 64 = .ok (.invokevirtual 120, 3) := da9_dX4_readBoth_63.2.1
theorem dX4_readBoth_67 : decode cX4_readBoth 67 = .ok (.iinc 1 1, 3) := da9_dX4_readBoth_63.2.2.1
theorem dX4_readBoth_70 : decode cX4_readBoth 70 = .ok (.goto (-64), 3) := da9_dX4_readBoth_63.2.2.2.1
theorem dX4_readBoth_73 : decode cX4_readBoth 73 = .ok (.return_, 1) := da9_dX4_readBoth_63.2.2.2.2
set_option maxRecDepth 20000 in
theorem ggX4_readPlain_X4_isWord : GoodIn wsX4_readPlain wsX4_isWord := wd_c vW9_ok mvW9_306
set_option maxRecDepth 20000 in
theorem gX4_readPlain_X4_isWord : GoodIn wsX4_readPlain (wsV RX4 92 RX4 yX4_isWord wsX4_isWord) := goodIn_app (wd_l vW9_ok _ pvW9_44) ggX4_readPlain_X4_isWord
set_option maxRecDepth 20000 in
theorem ggX4_readPlain_X4_step : GoodIn wsX4_readPlain wsX4_step := wd_c vW9_ok mvW9_182
set_option maxRecDepth 20000 in
theorem gX4_readPlain_X4_step : GoodIn wsX4_readPlain (wsV RX4 59 RX4 yX4_step wsX4_step) := goodIn_app (wd_l vW9_ok _ pvW9_36) ggX4_readPlain_X4_step
set_option maxRecDepth 20000 in
theorem ggX4_readPlain_X4_isSign : GoodIn wsX4_readPlain wsX4_isSign := wd_c vW9_ok mvW9_276
set_option maxRecDepth 20000 in
theorem gX4_readPlain_X4_isSign : GoodIn wsX4_readPlain (wsV RX4 130 RX4 yX4_isSign wsX4_isSign) := goodIn_app (wd_l vW9_ok _ pvW9_53) ggX4_readPlain_X4_isSign
set_option maxRecDepth 20000 in
theorem ggX4_readPlain_X4_openBracket : GoodIn wsX4_readPlain wsX4_openBracket := wd_c vW9_ok mvW9_286
set_option maxRecDepth 20000 in
theorem gX4_readPlain_X4_openBracket : GoodIn wsX4_readPlain (wsV RX4 134 RX4 yX4_openBracket wsX4_openBracket) := goodIn_app (wd_l vW9_ok _ pvW9_54) ggX4_readPlain_X4_openBracket
set_option maxRecDepth 20000 in
theorem ggX4_readPlain_X4_readTest : GoodIn wsX4_readPlain wsX4_readTest := wd_c vW9_ok mvW9_318
set_option maxRecDepth 20000 in
theorem gX4_readPlain_X4_readTest : GoodIn wsX4_readPlain (wsV RX4 101 RX4 yX4_readTest wsX4_readTest) := goodIn_app (wd_l vW9_ok _ pvW9_46) ggX4_readPlain_X4_readTest
set_option maxRecDepth 20000 in
theorem ggX4_readPlain_X4_expectSign : GoodIn wsX4_readPlain wsX4_expectSign := wd_c vW9_ok mvW9_290
set_option maxRecDepth 20000 in
theorem gX4_readPlain_X4_expectSign : GoodIn wsX4_readPlain (wsV RX4 68 RX4 yX4_expectSign wsX4_expectSign) := goodIn_app (wd_l vW9_ok _ pvW9_39) ggX4_readPlain_X4_expectSign
set_option maxRecDepth 20000 in
theorem ggX4_readPlain_X4_readSum : GoodIn wsX4_readPlain wsX4_readSum := wd_c vW9_ok mvW9_265
set_option maxRecDepth 20000 in
theorem gX4_readPlain_X4_readSum : GoodIn wsX4_readPlain (wsV RX4 84 RX4 yX4_readSum wsX4_readSum) := goodIn_app (wd_l vW9_ok _ pvW9_42) ggX4_readPlain_X4_readSum
set_option maxRecDepth 20000 in
theorem ggX4_readPlain_X4_signIn : GoodIn wsX4_readPlain wsX4_signIn := wd_c vW9_ok mvW9_272
set_option maxRecDepth 20000 in
theorem gX4_readPlain_X4_signIn : GoodIn wsX4_readPlain (wsV RX4 140 RX4 yX4_signIn wsX4_signIn) := goodIn_app (wd_l vW9_ok _ pvW9_55) ggX4_readPlain_X4_signIn
set_option maxRecDepth 20000 in
theorem ggX4_readPlain_X4_fail : GoodIn wsX4_readPlain wsX4_fail := wd_c vW9_ok mvW9_191
set_option maxRecDepth 20000 in
theorem gX4_readPlain_X4_fail : GoodIn wsX4_readPlain (wsV RX4 62 RX4 yX4_fail wsX4_fail) := goodIn_app (wd_l vW9_ok _ pvW9_37) ggX4_readPlain_X4_fail
set_option maxRecDepth 20000 in
theorem ggX4_readPlain_X7_emit : GoodIn wsX4_readPlain wsX7_emit := wd_c vW9_ok mvW9_280
set_option maxRecDepth 20000 in
theorem gX4_readPlain_X7_emit : GoodIn wsX4_readPlain (wsV RX4 116 RX7 yX7_emit wsX7_emit) := goodIn_app (wd_l vW9_ok _ pvW9_50) ggX4_readPlain_X7_emit
theorem da9_dX4_readPlain_0 : (decode cX4_readPlain 0 = .ok (.iconst 0, 1)) ∧ (decode cX4_readPlain 1 = .ok (.istore_n 1, 1)) ∧ (decode cX4_readPlain 2 = .ok (.iconst 0, 1)) ∧ (decode cX4_readPlain 3 = .ok (.istore_n 2, 1)) ∧ (decode cX4_readPlain 4 = .ok (.iload_n 2, 1)) ∧ (decode cX4_readPlain 5 = .ok (.aload_n 0, 1)) ∧ (decode cX4_readPlain 6 = .ok (.getfield 15, 3)) ∧ (decode cX4_readPlain 9 = .ok (.if_icmp .ge 32, 3)) ∧ (decode cX4_readPlain 12 = .ok (.aload_n 0, 1)) ∧ (decode cX4_readPlain 13 = .ok (.ldc 128, 2)) ∧ (decode cX4_readPlain 15 = .ok (.invokevirtual 92, 3)) ∧ (decode cX4_readPlain 18 = .ok (.ifCond .eq 23, 3)) ∧ (decode cX4_readPlain 21 = .ok (.iload_n 1, 1)) ∧ (decode cX4_readPlain 22 = .ok (.ifCond .ne 7, 3)) ∧ (decode cX4_readPlain 25 = .ok (.iconst 1, 1)) ∧ (decode cX4_readPlain 26 = .ok (.goto 4, 3)) := by decide +kernel
theorem dX4_readPlain_0 : decode cX4_readPlain 0 = .ok (.iconst 0, 1) := da9_dX4_readPlain_0.1
theorem dX4_readPlain_1 : decode cX4_readPlain 1 = .ok (.istore_n 1, 1) := da9_dX4_readPlain_0.2.1
theorem dX4_readPlain_2 : decode cX4_readPlain 2 = .ok (.iconst 0, 1) := da9_dX4_readPlain_0.2.2.1
theorem dX4_readPlain_3 : decode cX4_readPlain 3 = .ok (.istore_n 2, 1) := da9_dX4_readPlain_0.2.2.2.1
theorem dX4_readPlain_4 : decode cX4_readPlain 4 = .ok (.iload_n 2, 1) := da9_dX4_readPlain_0.2.2.2.2.1
theorem dX4_readPlain_5 : decode cX4_readPlain 5 = .ok (.aload_n 0, 1) := da9_dX4_readPlain_0.2.2.2.2.2.1
theorem dX4_readPlain_6 : decode cX4_readPlain 6 = .ok (.getfield 15, 3) := da9_dX4_readPlain_0.2.2.2.2.2.2.1
theorem dX4_readPlain_9 : decode cX4_readPlain 9 = .ok (.if_icmp .ge 32, 3) := da9_dX4_readPlain_0.2.2.2.2.2.2.2.1
theorem dX4_readPlain_12 : decode cX4_readPlain 12 = .ok (.aload_n 0, 1) := da9_dX4_readPlain_0.2.2.2.2.2.2.2.2.1
theorem dX4_readPlain_13 : decode cX4_readPlain 13 = .ok (.ldc 128, 2) := da9_dX4_readPlain_0.2.2.2.2.2.2.2.2.2.1
theorem dX4_readPlain_15 : decode cX4_readPlain 15 = .ok (.invokevirtual 92, 3) := da9_dX4_readPlain_0.2.2.2.2.2.2.2.2.2.2.1
theorem dX4_readPlain_18 : decode cX4_readPlain 18 = .ok (.ifCond .eq 23, 3) := da9_dX4_readPlain_0.2.2.2.2.2.2.2.2.2.2.2.1
theorem dX4_readPlain_21 : decode cX4_readPlain 21 = .ok (.iload_n 1, 1) := da9_dX4_readPlain_0.2.2.2.2.2.2.2.2.2.2.2.2.1
theorem dX4_readPlain_22 : decode cX4_readPlain 22 = .ok (.ifCond .ne 7, 3) := da9_dX4_readPlain_0.2.2.2.2.2.2.2.2.2.2.2.2.2.1
theorem dX4_readPlain_25 : decode cX4_readPlain 25 = .ok (.iconst 1, 1) := da9_dX4_readPlain_0.2.2.2.2.2.2.2.2.2.2.2.2.2.2.1
theorem dX4_readPlain_26 : decode cX4_readPlain 26 = .ok (.goto 4, 3) := da9_dX4_readPlain_0.2.2.2.2.2.2.2.2.2.2.2.2.2.2.2
theorem da9_dX4_readPlain_29 : (decode cX4_readPlain 29 = .ok (.iconst 0, 1)) ∧ (decode cX4_readPlain 30 = .ok (.istore_n 1, 1)) ∧ (decode cX4_readPlain 31 = .ok (.aload_n 0, 1)) ∧ (decode cX4_readPlain 32 = .ok (.invokevirtual 59, 3)) ∧ (decode cX4_readPlain 35 = .ok (.iinc 2 1, 3)) ∧ (decode cX4_readPlain 38 = .ok (.goto (-34), 3)) ∧ (decode cX4_readPlain 41 = .ok (.aload_n 0, 1)) ∧ (decode cX4_readPlain 42 = .ok (.bipush 40, 2)) ∧ (decode cX4_readPlain 44 = .ok (.invokevirtual 130, 3)) ∧ (decode cX4_readPlain 47 = .ok (.ifCond .eq 33, 3)) ∧ (decode cX4_readPlain 50 = .ok (.aload_n 0, 1)) ∧ (decode cX4_readPlain 51 = .ok (.invokevirtual 134, 3)) ∧ (decode cX4_readPlain 54 = .ok (.ifCond .eq 74, 3)) ∧ (decode cX4_readPlain 57 = .ok (.aload_n 0, 1)) ∧ (decode cX4_readPlain 58 = .ok (.invokevirtual 101, 3)) ∧ (decode cX4_readPlain 61 = .ok (.aload_n 0, 1)) := by decide +kernel
theorem dX4_readPlain_29 : decode cX4_readPlain 29 = .ok (.iconst 0, 1) := da9_dX4_readPlain_29.1
theorem dX4_readPlain_30 : decode cX4_readPlain 30 = .ok (.istore_n 1, 1) := da9_dX4_readPlain_29.2.1
theorem dX4_readPlain_31 : decode cX4_readPlain 31 = .ok (.aload_n 0, 1) := da9_dX4_readPlain_29.2.2.1
theorem dX4_readPlain_32 : decode cX4_readPlain 32 = .ok (.invokevirtual 59, 3) := da9_dX4_readPlain_29.2.2.2.1
theorem dX4_readPlain_35 : decode cX4_readPlain 35 = .ok (.iinc 2 1, 3) := da9_dX4_readPlain_29.2.2.2.2.1
theorem dX4_readPlain_38 : decode cX4_readPlain 38 = .ok (.goto (-34), 3) := da9_dX4_readPlain_29.2.2.2.2.2.1
theorem dX4_readPlain_41 : decode cX4_readPlain 41 = .ok (.aload_n 0, 1) := da9_dX4_readPlain_29.2.2.2.2.2.2.1
theorem dX4_readPlain_42 : decode cX4_readPlain 42 = .ok (.bipush 40, 2) := da9_dX4_readPlain_29.2.2.2.2.2.2.2.1
theorem dX4_readPlain_44 : decode cX4_readPlain 44 = .ok (.invokevirtual 130, 3) := da9_dX4_readPlain_29.2.2.2.2.2.2.2.2.1
theorem dX4_readPlain_47 : decode cX4_readPlain 47 = .ok (.ifCond .eq 33, 3) := da9_dX4_readPlain_29.2.2.2.2.2.2.2.2.2.1
theorem dX4_readPlain_50 : decode cX4_readPlain 50 = .ok (.aload_n 0, 1) := da9_dX4_readPlain_29.2.2.2.2.2.2.2.2.2.2.1
theorem dX4_readPlain_51 : decode cX4_readPlain 51 = .ok (.invokevirtual 134, 3) := da9_dX4_readPlain_29.2.2.2.2.2.2.2.2.2.2.2.1
theorem dX4_readPlain_54 : decode cX4_readPlain 54 = .ok (.ifCond .eq 74, 3) := da9_dX4_readPlain_29.2.2.2.2.2.2.2.2.2.2.2.2.1
theorem dX4_readPlain_57 : decode cX4_readPlain 57 = .ok (.aload_n 0, 1) := da9_dX4_readPlain_29.2.2.2.2.2.2.2.2.2.2.2.2.2.1
theorem dX4_readPlain_58 : decode cX4_readPlain 58 = .ok (.invokevirtual 101, 3) := da9_dX4_readPlain_29.2.2.2.2.2.2.2.2.2.2.2.2.2.2.1
theorem dX4_readPlain_61 : decode cX4_readPlain 61 = .ok (.aload_n 0, 1) := da9_dX4_readPlain_29.2.2.2.2.2.2.2.2.2.2.2.2.2.2.2
theorem da9_dX4_readPlain_62 : (decode cX4_readPlain 62 = .ok (.dup, 1)) ∧ (decode cX4_readPlain 63 = .ok (.getfield 42, 3)) ∧ (decode cX4_readPlain 66 = .ok (.iconst 1, 1)) ∧ (decode cX4_readPlain 67 = .ok (.isub, 1)) ∧ (decode cX4_readPlain 68 = .ok (.putfield 42, 3)) ∧ (decode cX4_readPlain 71 = .ok (.aload_n 0, 1)) ∧ (decode cX4_readPlain 72 = .ok (.bipush 41, 2)) ∧ (decode cX4_readPlain 74 = .ok (.invokevirtual 68, 3)) ∧ (decode cX4_readPlain 77 = .ok (.goto 51, 3)) ∧ (decode cX4_readPlain 80 = .ok (.aload_n 0, 1)) ∧ (decode cX4_readPlain 81 = .ok (.invokevirtual 84, 3)) ∧ (decode cX4_readPlain 84 = .ok (.aload_n 0, 1)) ∧ (decode cX4_readPlain 85 = .ok (.ldc 138, 2)) ∧ (decode cX4_readPlain 87 = .ok (.bipush 7, 2)) ∧ (decode cX4_readPlain 89 = .ok (.invokevirtual 140, 3)) ∧ (decode cX4_readPlain 92 = .ok (.istore_n 2, 1)) := by decide +kernel
theorem dX4_readPlain_62 : decode cX4_readPlain 62 = .ok (.dup, 1) := da9_dX4_readPlain_62.1
theorem dX4_readPlain_63 : decode cX4_readPlain 63 = .ok (.getfield 42, 3) := da9_dX4_readPlain_62.2.1
theorem dX4_readPlain_66 : decode cX4_readPlain 66 = .ok (.iconst 1, 1) := da9_dX4_readPlain_62.2.2.1
theorem dX4_readPlain_67 : decode cX4_readPlain 67 = .ok (.isub, 1) := da9_dX4_readPlain_62.2.2.2.1
theorem dX4_readPlain_68 : decode cX4_readPlain 68 = .ok (.putfield 42, 3) := da9_dX4_readPlain_62.2.2.2.2.1
theorem dX4_readPlain_71 : decode cX4_readPlain 71 = .ok (.aload_n 0, 1) := da9_dX4_readPlain_62.2.2.2.2.2.1
theorem dX4_readPlain_72 : decode cX4_readPlain 72 = .ok (.bipush 41, 2) := da9_dX4_readPlain_62.2.2.2.2.2.2.1
theorem dX4_readPlain_74 : decode cX4_readPlain 74 = .ok (.invokevirtual 68, 3) := da9_dX4_readPlain_62.2.2.2.2.2.2.2.1
theorem dX4_readPlain_77 : decode cX4_readPlain 77 = .ok (.goto 51, 3) := da9_dX4_readPlain_62.2.2.2.2.2.2.2.2.1
theorem dX4_readPlain_80 : decode cX4_readPlain 80 = .ok (.aload_n 0, 1) := da9_dX4_readPlain_62.2.2.2.2.2.2.2.2.2.1
theorem dX4_readPlain_81 : decode cX4_readPlain 81 = .ok (.invokevirtual 84, 3) := da9_dX4_readPlain_62.2.2.2.2.2.2.2.2.2.2.1
theorem dX4_readPlain_84 : decode cX4_readPlain 84 = .ok (.aload_n 0, 1) := da9_dX4_readPlain_62.2.2.2.2.2.2.2.2.2.2.2.1
theorem dX4_readPlain_85 : decode cX4_readPlain 85 = .ok (.ldc 138, 2) := da9_dX4_readPlain_62.2.2.2.2.2.2.2.2.2.2.2.2.1
theorem dX4_readPlain_87 : decode cX4_readPlain 87 = .ok (.bipush 7, 2) := da9_dX4_readPlain_62.2.2.2.2.2.2.2.2.2.2.2.2.2.1
theorem dX4_readPlain_89 : decode cX4_readPlain 89 = .ok (.invokevirtual 140, 3) := da9_dX4_readPlain_62.2.2.2.2.2.2.2.2.2.2.2.2.2.2.1
theorem dX4_readPlain_92 : decode cX4_readPlain 92 = .ok (.istore_n 2, 1) := da9_dX4_readPlain_62.2.2.2.2.2.2.2.2.2.2.2.2.2.2.2
theorem da9_dX4_readPlain_93 : (decode cX4_readPlain 93 = .ok (.aload_n 0, 1)) ∧ (decode cX4_readPlain 94 = .ok (.getfield 45, 3)) ∧ (decode cX4_readPlain 97 = .ok (.iconst (-1), 1)) ∧ (decode cX4_readPlain 98 = .ok (.if_icmp .ne 8, 3)) ∧ (decode cX4_readPlain 101 = .ok (.iload_n 2, 1)) ∧ (decode cX4_readPlain 102 = .ok (.iconst (-1), 1)) ∧ (decode cX4_readPlain 103 = .ok (.if_icmp .ne 8, 3)) ∧ (decode cX4_readPlain 106 = .ok (.aload_n 0, 1)) ∧ (decode cX4_readPlain 107 = .ok (.invokevirtual 62, 3)) ∧ (decode cX4_readPlain 110 = .ok (.return_, 1)) ∧ (decode cX4_readPlain 111 = .ok (.aload_n 0, 1)) ∧ (decode cX4_readPlain 112 = .ok (.invokevirtual 59, 3)) ∧ (decode cX4_readPlain 115 = .ok (.aload_n 0, 1)) ∧ (decode cX4_readPlain 116 = .ok (.invokevirtual 84, 3)) ∧ (decode cX4_readPlain 119 = .ok (.aload_n 0, 1)) ∧ (decode cX4_readPlain 120 = .ok (.getfield 23, 3)) := by decide +kernel
theorem dX4_readPlain_93 : decode cX4_readPlain 93 = .ok (.aload_n 0, 1) := da9_dX4_readPlain_93.1
theorem dX4_readPlain_94 : decode cX4_readPlain 94 = .ok (.getfield 45, 3) := da9_dX4_readPlain_93.2.1
theorem dX4_readPlain_97 : decode cX4_readPlain 97 = .ok (.iconst (-1), 1) := da9_dX4_readPlain_93.2.2.1
theorem dX4_readPlain_98 : decode cX4_readPlain 98 = .ok (.if_icmp .ne 8, 3) := da9_dX4_readPlain_93.2.2.2.1
theorem dX4_readPlain_101 : decode cX4_readPlain 101 = .ok (.iload_n 2, 1) := da9_dX4_readPlain_93.2.2.2.2.1
theorem dX4_readPlain_102 : decode cX4_readPlain 102 = .ok (.iconst (-1), 1) := da9_dX4_readPlain_93.2.2.2.2.2.1
theorem dX4_readPlain_103 : decode cX4_readPlain 103 = .ok (.if_icmp .ne 8, 3) := da9_dX4_readPlain_93.2.2.2.2.2.2.1
theorem dX4_readPlain_106 : decode cX4_readPlain 106 = .ok (.aload_n 0, 1) := da9_dX4_readPlain_93.2.2.2.2.2.2.2.1
theorem dX4_readPlain_107 : decode cX4_readPlain 107 = .ok (.invokevirtual 62, 3) := da9_dX4_readPlain_93.2.2.2.2.2.2.2.2.1
theorem dX4_readPlain_110 : decode cX4_readPlain 110 = .ok (.return_, 1) := da9_dX4_readPlain_93.2.2.2.2.2.2.2.2.2.1
theorem dX4_readPlain_111 : decode cX4_readPlain 111 = .ok (.aload_n 0, 1) := da9_dX4_readPlain_93.2.2.2.2.2.2.2.2.2.2.1
theorem dX4_readPlain_112 : decode cX4_readPlain 112 = .ok (.invokevirtual 59, 3) := da9_dX4_readPlain_93.2.2.2.2.2.2.2.2.2.2.2.1
theorem dX4_readPlain_115 : decode cX4_readPlain 115 = .ok (.aload_n 0, 1) := da9_dX4_readPlain_93.2.2.2.2.2.2.2.2.2.2.2.2.1
theorem dX4_readPlain_116 : decode cX4_readPlain 116 = .ok (.invokevirtual 84, 3) := da9_dX4_readPlain_93.2.2.2.2.2.2.2.2.2.2.2.2.2.1
theorem dX4_readPlain_119 : decode cX4_readPlain 119 = .ok (.aload_n 0, 1) := da9_dX4_readPlain_93.2.2.2.2.2.2.2.2.2.2.2.2.2.2.1
theorem dX4_readPlain_120 : decode cX4_readPlain 120 = .ok (.getfield 23, 3) := da9_dX4_readPlain_93.2.2.2.2.2.2.2.2.2.2.2.2.2.2.2
theorem da9_dX4_readPlain_123 : (decode cX4_readPlain 123 = .ok (.iload_n 2, 1)) ∧ (decode cX4_readPlain 124 = .ok (.iconst 0, 1)) ∧ (decode cX4_readPlain 125 = .ok (.invokevirtual 116, 3)) ∧ (decode cX4_readPlain 128 = .ok (.iload_n 1, 1)) ∧ (decode cX4_readPlain 129 = .ok (.ifCond .eq 13, 3)) ∧ (decode cX4_readPlain 132 = .ok (.aload_n 0, 1)) ∧ (decode cX4_readPlain 133 = .ok (.getfield 23, 3)) ∧ (decode cX4_readPlain 136 = .ok (.bipush 10, 2)) ∧ (decode cX4_readPlain 138 = .ok (.iconst 0, 1)) ∧ (decode cX4_readPlain 139 = .ok (.invokevirtual 116, 3)) ∧ (decode cX4_readPlain 142 = .ok (.return_, 1)) := by decide +kernel
theorem dX4_readPlain_123 : decode cX4_readPlain 123 = .ok (.iload_n 2, 1) := da9_dX4_readPlain_123.1
theorem dX4_readPlain_124 : decode cX4_readPlain 124 = .ok (.iconst 0, 1) := da9_dX4_readPlain_123.2.1
theorem dX4_readPlain_125 : decode cX4_readPlain 125 = .ok (.invokevirtual 116, 3) := da9_dX4_readPlain_123.2.2.1
theorem dX4_readPlain_128 : decode cX4_readPlain 128 = .ok (.iload_n 1, 1) := da9_dX4_readPlain_123.2.2.2.1
theorem dX4_readPlain_129 : decode cX4_readPlain 129 = .ok (.ifCond .eq 13, 3) := da9_dX4_readPlain_123.2.2.2.2.1
theorem dX4_readPlain_132 : decode cX4_readPlain 132 = .ok (.aload_n 0, 1) := da9_dX4_readPlain_123.2.2.2.2.2.1
theorem dX4_readPlain_133 : decode cX4_readPlain 133 = .ok (.getfield 23, 3) := da9_dX4_readPlain_123.2.2.2.2.2.2.1
theorem dX4_readPlain_136 : decode cX4_readPlain 136 = .ok (.bipush 10, 2) := da9_dX4_readPlain_123.2.2.2.2.2.2.2.1
theorem dX4_readPlain_138 : decode cX4_readPlain 138 = .ok (.iconst 0, 1) := da9_dX4_readPlain_123.2.2.2.2.2.2.2.2.1
theorem dX4_readPlain_139 : decode cX4_readPlain 139 = .ok (.invokevirtual 116, 3) := da9_dX4_readPlain_123.2.2.2.2.2.2.2.2.2.1
theorem dX4_readPlain_142 : decode cX4_readPlain 142 = .ok (.return_, 1) := da9_dX4_readPlain_123.2.2.2.2.2.2.2.2.2.2
theorem da9_dX7_leapHere_0 : (decode cX7_leapHere 0 = .ok (.iload_n 2, 1)) ∧ (decode cX7_leapHere 1 = .ok (.ifCond .lt 25, 3)) ∧ (decode cX7_leapHere 4 = .ok (.iload_n 2, 1)) ∧ (decode cX7_leapHere 5 = .ok (.aload_n 0, 1)) ∧ (decode cX7_leapHere 6 = .ok (.getfield 13, 3)) ∧ (decode cX7_leapHere 9 = .ok (.if_icmp .ge 17, 3)) ∧ (decode cX7_leapHere 12 = .ok (.aload_n 0, 1)) ∧ (decode cX7_leapHere 13 = .ok (.getfield 32, 3)) ∧ (decode cX7_leapHere 16 = .ok (.iload_n 2, 1)) ∧ (decode cX7_leapHere 17 = .ok (.aload_n 0, 1)) ∧ (decode cX7_leapHere 18 = .ok (.getfield 13, 3)) ∧ (decode cX7_leapHere 21 = .ok (.iconst 4, 1)) ∧ (decode cX7_leapHere 22 = .ok (.ishl, 1)) ∧ (decode cX7_leapHere 23 = .ok (.iload_n 1, 1)) ∧ (decode cX7_leapHere 24 = .ok (.ior, 1)) ∧ (decode cX7_leapHere 25 = .ok (.iastore, 1)) := by decide +kernel
theorem dX7_leapHere_0 : decode cX7_leapHere 0 = .ok (.iload_n 2, 1) := da9_dX7_leapHere_0.1
theorem dX7_leapHere_1 : decode cX7_leapHere 1 = .ok (.ifCond .lt 25, 3) := da9_dX7_leapHere_0.2.1
theorem dX7_leapHere_4 : decode cX7_leapHere 4 = .ok (.iload_n 2, 1) := da9_dX7_leapHere_0.2.2.1
theorem dX7_leapHere_5 : decode cX7_leapHere 5 = .ok (.aload_n 0, 1) := da9_dX7_leapHere_0.2.2.2.1
theorem dX7_leapHere_6 : decode cX7_leapHere 6 = .ok (.getfield 13, 3) := da9_dX7_leapHere_0.2.2.2.2.1
theorem dX7_leapHere_9 : decode cX7_leapHere 9 = .ok (.if_icmp .ge 17, 3) := da9_dX7_leapHere_0.2.2.2.2.2.1
theorem dX7_leapHere_12 : decode cX7_leapHere 12 = .ok (.aload_n 0, 1) := da9_dX7_leapHere_0.2.2.2.2.2.2.1
theorem dX7_leapHere_13 : decode cX7_leapHere 13 = .ok (.getfield 32, 3) := da9_dX7_leapHere_0.2.2.2.2.2.2.2.1
theorem dX7_leapHere_16 : decode cX7_leapHere 16 = .ok (.iload_n 2, 1) := da9_dX7_leapHere_0.2.2.2.2.2.2.2.2.1
theorem dX7_leapHere_17 : decode cX7_leapHere 17 = .ok (.aload_n 0, 1) := da9_dX7_leapHere_0.2.2.2.2.2.2.2.2.2.1
theorem dX7_leapHere_18 : decode cX7_leapHere 18 = .ok (.getfield 13, 3) := da9_dX7_leapHere_0.2.2.2.2.2.2.2.2.2.2.1
theorem dX7_leapHere_21 : decode cX7_leapHere 21 = .ok (.iconst 4, 1) := da9_dX7_leapHere_0.2.2.2.2.2.2.2.2.2.2.2.1
theorem dX7_leapHere_22 : decode cX7_leapHere 22 = .ok (.ishl, 1) := da9_dX7_leapHere_0.2.2.2.2.2.2.2.2.2.2.2.2.1
theorem dX7_leapHere_23 : decode cX7_leapHere 23 = .ok (.iload_n 1, 1) := da9_dX7_leapHere_0.2.2.2.2.2.2.2.2.2.2.2.2.2.1
theorem dX7_leapHere_24 : decode cX7_leapHere 24 = .ok (.ior, 1) := da9_dX7_leapHere_0.2.2.2.2.2.2.2.2.2.2.2.2.2.2.1
theorem dX7_leapHere_25 : decode cX7_leapHere 25 = .ok (.iastore, 1) := da9_dX7_leapHere_0.2.2.2.2.2.2.2.2.2.2.2.2.2.2.2
theorem dX7_leapHere_26 : decode cX7_leapHere 26 = .ok (.return_, 1) := by decide +kernel
end
