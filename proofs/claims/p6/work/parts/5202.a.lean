set_option maxRecDepth 20000 in
theorem ggX1_bars_X1_setTurn : GoodIn wsX1_bars wsX1_setTurn := goodIn_r _ [5, 6, 7, 8, 4, 9, 10, 11, 12, 13, 14, 15, 16, 17, 18, 19, 20, 21, 22, 23, 24, 25, 26, 27, 28, 29, 53, 54, 55, 56, 57, 58, 59, 60] rfl (by decide +kernel)
set_option maxRecDepth 20000 in
theorem gX1_bars_X1_setTurn : GoodIn wsX1_bars (wsV RX1 23 RX1 yX1_setTurn wsX1_setTurn) := goodIn_app (goodIn_of _ (by decide +kernel)) ggX1_bars_X1_setTurn
set_option maxRecDepth 20000 in
theorem ggX1_bars_X1_anyHolds : GoodIn wsX1_bars wsX1_anyHolds := goodIn_r _ [33, 34, 35, 10, 36, 37, 38, 39, 40, 41, 42, 43, 44, 45, 46, 47, 48, 49, 50, 51, 52, 58, 59, 60, 61, 62, 63, 64, 65, 66, 67, 68, 69, 70] rfl (by decide +kernel)
set_option maxRecDepth 20000 in
theorem gX1_bars_X1_anyHolds : GoodIn wsX1_bars (wsV RX1 27 RX1 yX1_anyHolds wsX1_anyHolds) := goodIn_app (goodIn_of _ (by decide +kernel)) ggX1_bars_X1_anyHolds
theorem da9_dX1_bars_0 : (decode cX1_bars 0 = .ok (.aload_n 0, 1)) ∧ (decode cX1_bars 1 = .ok (.aload_n 1, 1)) ∧ (decode cX1_bars 2 = .ok (.iload_n 2, 1)) ∧ (decode cX1_bars 3 = .ok (.invokevirtual 23, 3)) ∧ (decode cX1_bars 6 = .ok (.aload_n 0, 1)) ∧ (decode cX1_bars 7 = .ok (.iconst 1, 1)) ∧ (decode cX1_bars 8 = .ok (.invokevirtual 27, 3)) ∧ (decode cX1_bars 11 = .ok (.ireturn, 1)) := by decide +kernel
theorem dX1_bars_0 : decode cX1_bars 0 = .ok (.aload_n 0, 1) := da9_dX1_bars_0.1
theorem dX1_bars_1 : decode cX1_bars 1 = .ok (.aload_n 1, 1) := da9_dX1_bars_0.2.1
theorem dX1_bars_2 : decode cX1_bars 2 = .ok (.iload_n 2, 1) := da9_dX1_bars_0.2.2.1
theorem dX1_bars_3 : decode cX1_bars 3 = .ok (.invokevirtual 23, 3) := da9_dX1_bars_0.2.2.2.1
theorem dX1_bars_6 : decode cX1_bars 6 = .ok (.aload_n 0, 1) := da9_dX1_bars_0.2.2.2.2.1
theorem dX1_bars_7 : decode cX1_bars 7 = .ok (.iconst 1, 1) := da9_dX1_bars_0.2.2.2.2.2.1
theorem dX1_bars_8 : decode cX1_bars 8 = .ok (.invokevirtual 27, 3) := da9_dX1_bars_0.2.2.2.2.2.2.1
theorem dX1_bars_11 : decode cX1_bars 11 = .ok (.ireturn, 1) := da9_dX1_bars_0.2.2.2.2.2.2.2
set_option maxRecDepth 20000 in
theorem ggX1_payOf_X1_setTurn : GoodIn wsX1_payOf wsX1_setTurn := goodIn_r _ [5, 6, 7, 8, 4, 9, 10, 11, 12, 13, 14, 15, 16, 17, 18, 19, 20, 21, 22, 23, 24, 25, 26, 27, 28, 29, 57, 58, 59, 60, 61, 62, 63, 64] rfl (by decide +kernel)
set_option maxRecDepth 20000 in
theorem gX1_payOf_X1_setTurn : GoodIn wsX1_payOf (wsV RX1 23 RX1 yX1_setTurn wsX1_setTurn) := goodIn_app (goodIn_of _ (by decide +kernel)) ggX1_payOf_X1_setTurn
set_option maxRecDepth 20000 in
theorem ggX1_payOf_X1_pay : GoodIn wsX1_payOf wsX1_pay := goodIn_r _ [33, 34, 10, 35, 36, 37, 38, 39, 40, 41, 42, 43, 44, 45, 46, 47, 48, 49, 50, 51, 52, 53, 54, 55, 56, 62, 63, 64, 65, 66, 67, 68, 69, 70, 71, 72, 73, 74] rfl (by decide +kernel)
set_option maxRecDepth 20000 in
theorem gX1_payOf_X1_pay : GoodIn wsX1_payOf (wsV RX1 31 RX1 yX1_pay wsX1_pay) := goodIn_app (goodIn_of _ (by decide +kernel)) ggX1_payOf_X1_pay
theorem da9_dX1_payOf_0 : (decode cX1_payOf 0 = .ok (.aload_n 0, 1)) ∧ (decode cX1_payOf 1 = .ok (.aload_n 1, 1)) ∧ (decode cX1_payOf 2 = .ok (.iload_n 2, 1)) ∧ (decode cX1_payOf 3 = .ok (.invokevirtual 23, 3)) ∧ (decode cX1_payOf 6 = .ok (.aload_n 0, 1)) ∧ (decode cX1_payOf 7 = .ok (.invokevirtual 31, 3)) ∧ (decode cX1_payOf 10 = .ok (.ireturn, 1)) := by decide +kernel
theorem dX1_payOf_0 : decode cX1_payOf 0 = .ok (.aload_n 0, 1) := da9_dX1_payOf_0.1
theorem dX1_payOf_1 : decode cX1_payOf 1 = .ok (.aload_n 1, 1) := da9_dX1_payOf_0.2.1
theorem dX1_payOf_2 : decode cX1_payOf 2 = .ok (.iload_n 2, 1) := da9_dX1_payOf_0.2.2.1
theorem dX1_payOf_3 : decode cX1_payOf 3 = .ok (.invokevirtual 23, 3) := da9_dX1_payOf_0.2.2.2.1
theorem dX1_payOf_6 : decode cX1_payOf 6 = .ok (.aload_n 0, 1) := da9_dX1_payOf_0.2.2.2.2.1
theorem dX1_payOf_7 : decode cX1_payOf 7 = .ok (.invokevirtual 31, 3) := da9_dX1_payOf_0.2.2.2.2.2.1
theorem dX1_payOf_10 : decode cX1_payOf 10 = .ok (.ireturn, 1) := da9_dX1_payOf_0.2.2.2.2.2.2
set_option maxRecDepth 20000 in
theorem ggX1_tips_X8_isFloor : GoodIn wsX1_tips wsX8_isFloor := goodIn_r _ [6, 7, 36, 37, 38, 39, 40] rfl (by decide +kernel)
set_option maxRecDepth 20000 in
theorem gX1_tips_X8_isFloor : GoodIn wsX1_tips (wsV RX1 35 RX8 yX8_isFloor wsX8_isFloor) := goodIn_app (goodIn_of _ (by decide +kernel)) ggX1_tips_X8_isFloor
set_option maxRecDepth 20000 in
theorem ggX1_tips_X1_setCommon : GoodIn wsX1_tips wsX1_setCommon := goodIn_r _ [12, 1, 41, 42, 43] rfl (by decide +kernel)
set_option maxRecDepth 20000 in
theorem gX1_tips_X1_setCommon : GoodIn wsX1_tips (wsV RX1 47 RX1 yX1_setCommon wsX1_setCommon) := goodIn_app (goodIn_of _ (by decide +kernel)) ggX1_tips_X1_setCommon
set_option maxRecDepth 20000 in
theorem ggX1_tips_X1_anyHolds : GoodIn wsX1_tips wsX1_anyHolds := goodIn_r _ [16, 17, 18, 1, 19, 20, 21, 22, 23, 24, 25, 26, 27, 28, 29, 30, 31, 32, 33, 34, 35, 41, 42, 43, 44, 45, 46, 47, 48, 49, 50, 51, 52, 53] rfl (by decide +kernel)
set_option maxRecDepth 20000 in
theorem gX1_tips_X1_anyHolds : GoodIn wsX1_tips (wsV RX1 27 RX1 yX1_anyHolds wsX1_anyHolds) := goodIn_app (goodIn_of _ (by decide +kernel)) ggX1_tips_X1_anyHolds
theorem da9_dX1_tips_0 : (decode cX1_tips 0 = .ok (.aload_n 1, 1)) ∧ (decode cX1_tips 1 = .ok (.iload_n 2, 1)) ∧ (decode cX1_tips 2 = .ok (.invokevirtual 35, 3)) ∧ (decode cX1_tips 5 = .ok (.ifCond .ne 5, 3)) ∧ (decode cX1_tips 8 = .ok (.iconst 0, 1)) ∧ (decode cX1_tips 9 = .ok (.ireturn, 1)) ∧ (decode cX1_tips 10 = .ok (.aload_n 0, 1)) ∧ (decode cX1_tips 11 = .ok (.aload_n 1, 1)) ∧ (decode cX1_tips 12 = .ok (.getfield 40, 3)) ∧ (decode cX1_tips 15 = .ok (.aload_n 1, 1)) ∧ (decode cX1_tips 16 = .ok (.getfield 44, 3)) ∧ (decode cX1_tips 19 = .ok (.invokevirtual 47, 3)) ∧ (decode cX1_tips 22 = .ok (.aload_n 0, 1)) ∧ (decode cX1_tips 23 = .ok (.getfield 11, 3)) ∧ (decode cX1_tips 26 = .ok (.iconst 0, 1)) ∧ (decode cX1_tips 27 = .ok (.iconst (-1), 1)) := by decide +kernel
theorem dX1_tips_0 : decode cX1_tips 0 = .ok (.aload_n 1, 1) := da9_dX1_tips_0.1
theorem dX1_tips_1 : decode cX1_tips 1 = .ok (.iload_n 2, 1) := da9_dX1_tips_0.2.1
theorem dX1_tips_2 : decode cX1_tips 2 = .ok (.invokevirtual 35, 3) := da9_dX1_tips_0.2.2.1
theorem dX1_tips_5 : decode cX1_tips 5 = .ok (.ifCond .ne 5, 3) := da9_dX1_tips_0.2.2.2.1
theorem dX1_tips_8 : decode cX1_tips 8 = .ok (.iconst 0, 1) := da9_dX1_tips_0.2.2.2.2.1
theorem dX1_tips_9 : decode cX1_tips 9 = .ok (.ireturn, 1) := da9_dX1_tips_0.2.2.2.2.2.1
theorem dX1_tips_10 : decode cX1_tips 10 = .ok (.aload_n 0, 1) := da9_dX1_tips_0.2.2.2.2.2.2.1
theorem dX1_tips_11 : decode cX1_tips 11 = .ok (.aload_n 1, 1) := da9_dX1_tips_0.2.2.2.2.2.2.2.1
theorem dX1_tips_12 : decode cX1_tips 12 = .ok (.getfield 40, 3) := da9_dX1_tips_0.2.2.2.2.2.2.2.2.1
theorem dX1_tips_15 : decode cX1_tips 15 = .ok (.aload_n 1, 1) := da9_dX1_tips_0.2.2.2.2.2.2.2.2.2.1
theorem dX1_tips_16 : decode cX1_tips 16 = .ok (.getfield 44, 3) := da9_dX1_tips_0.2.2.2.2.2.2.2.2.2.2.1
theorem dX1_tips_19 : decode cX1_tips 19 = .ok (.invokevirtual 47, 3) := da9_dX1_tips_0.2.2.2.2.2.2.2.2.2.2.2.1
theorem dX1_tips_22 : decode cX1_tips 22 = .ok (.aload_n 0, 1) := da9_dX1_tips_0.2.2.2.2.2.2.2.2.2.2.2.2.1
theorem dX1_tips_23 : decode cX1_tips 23 = .ok (.getfield 11, 3) := da9_dX1_tips_0.2.2.2.2.2.2.2.2.2.2.2.2.2.1
theorem dX1_tips_26 : decode cX1_tips 26 = .ok (.iconst 0, 1) := da9_dX1_tips_0.2.2.2.2.2.2.2.2.2.2.2.2.2.2.1
theorem dX1_tips_27 : decode cX1_tips 27 = .ok (.iconst (-1), 1) := da9_dX1_tips_0.2.2.2.2.2.2.2.2.2.2.2.2.2.2.2
theorem da9_dX1_tips_28 : (decode cX1_tips 28 = .ok (.iastore, 1)) ∧ (decode cX1_tips 29 = .ok (.aload_n 0, 1)) ∧ (decode cX1_tips 30 = .ok (.getfield 11, 3)) ∧ (decode cX1_tips 33 = .ok (.iconst 1, 1)) ∧ (decode cX1_tips 34 = .ok (.iconst (-1), 1)) ∧ (decode cX1_tips 35 = .ok (.iastore, 1)) ∧ (decode cX1_tips 36 = .ok (.aload_n 0, 1)) ∧ (decode cX1_tips 37 = .ok (.getfield 11, 3)) ∧ (decode cX1_tips 40 = .ok (.iconst 2, 1)) ∧ (decode cX1_tips 41 = .ok (.iconst (-1), 1)) ∧ (decode cX1_tips 42 = .ok (.iastore, 1)) ∧ (decode cX1_tips 43 = .ok (.aload_n 0, 1)) ∧ (decode cX1_tips 44 = .ok (.getfield 11, 3)) ∧ (decode cX1_tips 47 = .ok (.iconst 3, 1)) ∧ (decode cX1_tips 48 = .ok (.aload_n 1, 1)) ∧ (decode cX1_tips 49 = .ok (.getfield 51, 3)) := by decide +kernel
theorem dX1_tips_28 : decode cX1_tips 28 = .ok (.iastore, 1) := da9_dX1_tips_28.1
theorem dX1_tips_29 : decode cX1_tips 29 = .ok (.aload_n 0, 1) := da9_dX1_tips_28.2.1
theorem dX1_tips_30 : decode cX1_tips 30 = .ok (.getfield 11, 3) := da9_dX1_tips_28.2.2.1
theorem dX1_tips_33 : decode cX1_tips 33 = .ok (.iconst 1, 1) := da9_dX1_tips_28.2.2.2.1
theorem dX1_tips_34 : decode cX1_tips 34 = .ok (.iconst (-1), 1) := da9_dX1_tips_28.2.2.2.2.1
theorem dX1_tips_35 : decode cX1_tips 35 = .ok (.iastore, 1) := da9_dX1_tips_28.2.2.2.2.2.1
theorem dX1_tips_36 : decode cX1_tips 36 = .ok (.aload_n 0, 1) := da9_dX1_tips_28.2.2.2.2.2.2.1
theorem dX1_tips_37 : decode cX1_tips 37 = .ok (.getfield 11, 3) := da9_dX1_tips_28.2.2.2.2.2.2.2.1
theorem dX1_tips_40 : decode cX1_tips 40 = .ok (.iconst 2, 1) := da9_dX1_tips_28.2.2.2.2.2.2.2.2.1
theorem dX1_tips_41 : decode cX1_tips 41 = .ok (.iconst (-1), 1) := da9_dX1_tips_28.2.2.2.2.2.2.2.2.2.1
theorem dX1_tips_42 : decode cX1_tips 42 = .ok (.iastore, 1) := da9_dX1_tips_28.2.2.2.2.2.2.2.2.2.2.1
theorem dX1_tips_43 : decode cX1_tips 43 = .ok (.aload_n 0, 1) := da9_dX1_tips_28.2.2.2.2.2.2.2.2.2.2.2.1
theorem dX1_tips_44 : decode cX1_tips 44 = .ok (.getfield 11, 3) := da9_dX1_tips_28.2.2.2.2.2.2.2.2.2.2.2.2.1
theorem dX1_tips_47 : decode cX1_tips 47 = .ok (.iconst 3, 1) := da9_dX1_tips_28.2.2.2.2.2.2.2.2.2.2.2.2.2.1
theorem dX1_tips_48 : decode cX1_tips 48 = .ok (.aload_n 1, 1) := da9_dX1_tips_28.2.2.2.2.2.2.2.2.2.2.2.2.2.2.1
theorem dX1_tips_49 : decode cX1_tips 49 = .ok (.getfield 51, 3) := da9_dX1_tips_28.2.2.2.2.2.2.2.2.2.2.2.2.2.2.2
theorem da9_dX1_tips_52 : (decode cX1_tips 52 = .ok (.iload_n 2, 1)) ∧ (decode cX1_tips 53 = .ok (.iaload, 1)) ∧ (decode cX1_tips 54 = .ok (.iastore, 1)) ∧ (decode cX1_tips 55 = .ok (.aload_n 0, 1)) ∧ (decode cX1_tips 56 = .ok (.getfield 11, 3)) ∧ (decode cX1_tips 59 = .ok (.iconst 5, 1)) ∧ (decode cX1_tips 60 = .ok (.aload_n 1, 1)) ∧ (decode cX1_tips 61 = .ok (.getfield 54, 3)) ∧ (decode cX1_tips 64 = .ok (.iload_n 2, 1)) ∧ (decode cX1_tips 65 = .ok (.iaload, 1)) ∧ (decode cX1_tips 66 = .ok (.iastore, 1)) ∧ (decode cX1_tips 67 = .ok (.aload_n 0, 1)) ∧ (decode cX1_tips 68 = .ok (.getfield 11, 3)) ∧ (decode cX1_tips 71 = .ok (.bipush 6, 2)) ∧ (decode cX1_tips 73 = .ok (.iload_n 2, 1)) ∧ (decode cX1_tips 74 = .ok (.iastore, 1)) := by decide +kernel
theorem dX1_tips_52 : decode cX1_tips 52 = .ok (.iload_n 2, 1) := da9_dX1_tips_52.1
theorem dX1_tips_53 : decode cX1_tips 53 = .ok (.iaload, 1) := da9_dX1_tips_52.2.1
theorem dX1_tips_54 : decode cX1_tips 54 = .ok (.iastore, 1) := da9_dX1_tips_52.2.2.1
theorem dX1_tips_55 : decode cX1_tips 55 = .ok (.aload_n 0, 1) := da9_dX1_tips_52.2.2.2.1
theorem dX1_tips_56 : decode cX1_tips 56 = .ok (.getfield 11, 3) := da9_dX1_tips_52.2.2.2.2.1
theorem dX1_tips_59 : decode cX1_tips 59 = .ok (.iconst 5, 1) := da9_dX1_tips_52.2.2.2.2.2.1
theorem dX1_tips_60 : decode cX1_tips 60 = .ok (.aload_n 1, 1) := da9_dX1_tips_52.2.2.2.2.2.2.1
theorem dX1_tips_61 : decode cX1_tips 61 = .ok (.getfield 54, 3) := da9_dX1_tips_52.2.2.2.2.2.2.2.1
theorem dX1_tips_64 : decode cX1_tips 64 = .ok (.iload_n 2, 1) := da9_dX1_tips_52.2.2.2.2.2.2.2.2.1
theorem dX1_tips_65 : decode cX1_tips 65 = .ok (.iaload, 1) := da9_dX1_tips_52.2.2.2.2.2.2.2.2.2.1
theorem dX1_tips_66 : decode cX1_tips 66 = .ok (.iastore, 1) := da9_dX1_tips_52.2.2.2.2.2.2.2.2.2.2.1
theorem dX1_tips_67 : decode cX1_tips 67 = .ok (.aload_n 0, 1) := da9_dX1_tips_52.2.2.2.2.2.2.2.2.2.2.2.1
theorem dX1_tips_68 : decode cX1_tips 68 = .ok (.getfield 11, 3) := da9_dX1_tips_52.2.2.2.2.2.2.2.2.2.2.2.2.1
theorem dX1_tips_71 : decode cX1_tips 71 = .ok (.bipush 6, 2) := da9_dX1_tips_52.2.2.2.2.2.2.2.2.2.2.2.2.2.1
theorem dX1_tips_73 : decode cX1_tips 73 = .ok (.iload_n 2, 1) := da9_dX1_tips_52.2.2.2.2.2.2.2.2.2.2.2.2.2.2.1
theorem dX1_tips_74 : decode cX1_tips 74 = .ok (.iastore, 1) := da9_dX1_tips_52.2.2.2.2.2.2.2.2.2.2.2.2.2.2.2
theorem da9_dX1_tips_75 : (decode cX1_tips 75 = .ok (.aload_n 0, 1)) ∧ (decode cX1_tips 76 = .ok (.iconst 2, 1)) ∧ (decode cX1_tips 77 = .ok (.invokevirtual 27, 3)) ∧ (decode cX1_tips 80 = .ok (.ireturn, 1)) := by decide +kernel
theorem dX1_tips_75 : decode cX1_tips 75 = .ok (.aload_n 0, 1) := da9_dX1_tips_75.1
theorem dX1_tips_76 : decode cX1_tips 76 = .ok (.iconst 2, 1) := da9_dX1_tips_75.2.1
theorem dX1_tips_77 : decode cX1_tips 77 = .ok (.invokevirtual 27, 3) := da9_dX1_tips_75.2.2.1
theorem dX1_tips_80 : decode cX1_tips 80 = .ok (.ireturn, 1) := da9_dX1_tips_75.2.2.2
set_option maxRecDepth 20000 in
theorem ggX1_setTurn_X1_setCommon : GoodIn wsX1_setTurn wsX1_setCommon := goodIn_r _ [5, 6, 31, 32, 33] rfl (by decide +kernel)
set_option maxRecDepth 20000 in
theorem gX1_setTurn_X1_setCommon : GoodIn wsX1_setTurn (wsV RX1 47 RX1 yX1_setCommon wsX1_setCommon) := goodIn_app (goodIn_of _ (by decide +kernel)) ggX1_setTurn_X1_setCommon
set_option maxRecDepth 20000 in
theorem ggX1_setTurn_X8_tell : GoodIn wsX1_setTurn wsX8_tell := goodIn_r _ [11, 12, 13, 14, 15, 16, 10, 17, 18, 19, 20, 21, 26, 27, 28, 29, 30] rfl (by decide +kernel)
set_option maxRecDepth 20000 in
theorem gX1_setTurn_X8_tell : GoodIn wsX1_setTurn (wsV RX1 57 RX8 yX8_tell wsX8_tell) := goodIn_app (goodIn_of _ (by decide +kernel)) ggX1_setTurn_X8_tell
set_option maxRecDepth 20000 in
theorem ggX1_setTurn_X1_setGrip : GoodIn wsX1_setTurn wsX1_setGrip := goodIn_r _ [25, 6, 31, 32, 33] rfl (by decide +kernel)
set_option maxRecDepth 20000 in
theorem gX1_setTurn_X1_setGrip : GoodIn wsX1_setTurn (wsV RX1 61 RX1 yX1_setGrip wsX1_setGrip) := goodIn_app (goodIn_of _ (by decide +kernel)) ggX1_setTurn_X1_setGrip
theorem da9_dX1_setTurn_0 : (decode cX1_setTurn 0 = .ok (.aload_n 0, 1)) ∧ (decode cX1_setTurn 1 = .ok (.aload_n 1, 1)) ∧ (decode cX1_setTurn 2 = .ok (.getfield 40, 3)) ∧ (decode cX1_setTurn 5 = .ok (.aload_n 1, 1)) ∧ (decode cX1_setTurn 6 = .ok (.getfield 44, 3)) ∧ (decode cX1_setTurn 9 = .ok (.invokevirtual 47, 3)) ∧ (decode cX1_setTurn 12 = .ok (.aload_n 0, 1)) ∧ (decode cX1_setTurn 13 = .ok (.iload_n 2, 1)) ∧ (decode cX1_setTurn 14 = .ok (.aload_n 1, 1)) ∧ (decode cX1_setTurn 15 = .ok (.iconst 0, 1)) ∧ (decode cX1_setTurn 16 = .ok (.iconst 0, 1)) ∧ (decode cX1_setTurn 17 = .ok (.invokevirtual 57, 3)) ∧ (decode cX1_setTurn 20 = .ok (.aload_n 1, 1)) ∧ (decode cX1_setTurn 21 = .ok (.iload_n 2, 1)) ∧ (decode cX1_setTurn 22 = .ok (.iconst 0, 1)) ∧ (decode cX1_setTurn 23 = .ok (.invokevirtual 57, 3)) := by decide +kernel
theorem dX1_setTurn_0 : decode cX1_setTurn 0 = .ok (.aload_n 0, 1) := da9_dX1_setTurn_0.1
theorem dX1_setTurn_1 : decode cX1_setTurn 1 = .ok (.aload_n 1, 1) := da9_dX1_setTurn_0.2.1
theorem dX1_setTurn_2 : decode cX1_setTurn 2 = .ok (.getfield 40, 3) := da9_dX1_setTurn_0.2.2.1
theorem dX1_setTurn_5 : decode cX1_setTurn 5 = .ok (.aload_n 1, 1) := da9_dX1_setTurn_0.2.2.2.1
theorem dX1_setTurn_6 : decode cX1_setTurn 6 = .ok (.getfield 44, 3) := da9_dX1_setTurn_0.2.2.2.2.1
theorem dX1_setTurn_9 : decode cX1_setTurn 9 = .ok (.invokevirtual 47, 3) := da9_dX1_setTurn_0.2.2.2.2.2.1
theorem dX1_setTurn_12 : decode cX1_setTurn 12 = .ok (.aload_n 0, 1) := da9_dX1_setTurn_0.2.2.2.2.2.2.1
theorem dX1_setTurn_13 : decode cX1_setTurn 13 = .ok (.iload_n 2, 1) := da9_dX1_setTurn_0.2.2.2.2.2.2.2.1
theorem dX1_setTurn_14 : decode cX1_setTurn 14 = .ok (.aload_n 1, 1) := da9_dX1_setTurn_0.2.2.2.2.2.2.2.2.1
theorem dX1_setTurn_15 : decode cX1_setTurn 15 = .ok (.iconst 0, 1) := da9_dX1_setTurn_0.2.2.2.2.2.2.2.2.2.1
theorem dX1_setTurn_16 : decode cX1_setTurn 16 = .ok (.iconst 0, 1) := da9_dX1_setTurn_0.2.2.2.2.2.2.2.2.2.2.1
theorem dX1_setTurn_17 : decode cX1_setTurn 17 = .ok (.invokevirtual 57, 3) := da9_dX1_setTurn_0.2.2.2.2.2.2.2.2.2.2.2.1
theorem dX1_setTurn_20 : decode cX1_setTurn 20 = .ok (.aload_n 1, 1) := da9_dX1_setTurn_0.2.2.2.2.2.2.2.2.2.2.2.2.1
theorem dX1_setTurn_21 : decode cX1_setTurn 21 = .ok (.iload_n 2, 1) := da9_dX1_setTurn_0.2.2.2.2.2.2.2.2.2.2.2.2.2.1
theorem dX1_setTurn_22 : decode cX1_setTurn 22 = .ok (.iconst 0, 1) := da9_dX1_setTurn_0.2.2.2.2.2.2.2.2.2.2.2.2.2.2.1
theorem dX1_setTurn_23 : decode cX1_setTurn 23 = .ok (.invokevirtual 57, 3) := da9_dX1_setTurn_0.2.2.2.2.2.2.2.2.2.2.2.2.2.2.2
theorem da9_dX1_setTurn_26 : (decode cX1_setTurn 26 = .ok (.aload_n 1, 1)) ∧ (decode cX1_setTurn 27 = .ok (.iconst 0, 1)) ∧ (decode cX1_setTurn 28 = .ok (.iconst 1, 1)) ∧ (decode cX1_setTurn 29 = .ok (.invokevirtual 57, 3)) ∧ (decode cX1_setTurn 32 = .ok (.invokevirtual 61, 3)) ∧ (decode cX1_setTurn 35 = .ok (.return_, 1)) := by decide +kernel
theorem dX1_setTurn_26 : decode cX1_setTurn 26 = .ok (.aload_n 1, 1) := da9_dX1_setTurn_26.1
theorem dX1_setTurn_27 : decode cX1_setTurn 27 = .ok (.iconst 0, 1) := da9_dX1_setTurn_26.2.1
theorem dX1_setTurn_28 : decode cX1_setTurn 28 = .ok (.iconst 1, 1) := da9_dX1_setTurn_26.2.2.1
theorem dX1_setTurn_29 : decode cX1_setTurn 29 = .ok (.invokevirtual 57, 3) := da9_dX1_setTurn_26.2.2.2.1
theorem dX1_setTurn_32 : decode cX1_setTurn 32 = .ok (.invokevirtual 61, 3) := da9_dX1_setTurn_26.2.2.2.2.1
theorem dX1_setTurn_35 : decode cX1_setTurn 35 = .ok (.return_, 1) := da9_dX1_setTurn_26.2.2.2.2.2
theorem da9_dX1_setGrip_0 : (decode cX1_setGrip 0 = .ok (.aload_n 0, 1)) ∧ (decode cX1_setGrip 1 = .ok (.getfield 11, 3)) ∧ (decode cX1_setGrip 4 = .ok (.iconst 0, 1)) ∧ (decode cX1_setGrip 5 = .ok (.iload_n 1, 1)) ∧ (decode cX1_setGrip 6 = .ok (.iastore, 1)) ∧ (decode cX1_setGrip 7 = .ok (.aload_n 0, 1)) ∧ (decode cX1_setGrip 8 = .ok (.getfield 11, 3)) ∧ (decode cX1_setGrip 11 = .ok (.iconst 1, 1)) ∧ (decode cX1_setGrip 12 = .ok (.iload_n 2, 1)) ∧ (decode cX1_setGrip 13 = .ok (.iastore, 1)) ∧ (decode cX1_setGrip 14 = .ok (.aload_n 0, 1)) ∧ (decode cX1_setGrip 15 = .ok (.getfield 11, 3)) ∧ (decode cX1_setGrip 18 = .ok (.iconst 2, 1)) ∧ (decode cX1_setGrip 19 = .ok (.iload_n 3, 1)) ∧ (decode cX1_setGrip 20 = .ok (.iastore, 1)) ∧ (decode cX1_setGrip 21 = .ok (.aload_n 0, 1)) := by decide +kernel
theorem dX1_setGrip_0 : decode cX1_setGrip 0 = .ok (.aload_n 0, 1) := da9_dX1_setGrip_0.1
theorem dX1_setGrip_1 : decode cX1_setGrip 1 = .ok (.getfield 11, 3) := da9_dX1_setGrip_0.2.1
theorem dX1_setGrip_4 : decode cX1_setGrip 4 = .ok (.iconst 0, 1) := da9_dX1_setGrip_0.2.2.1
theorem dX1_setGrip_5 : decode cX1_setGrip 5 = .ok (.iload_n 1, 1) := da9_dX1_setGrip_0.2.2.2.1
theorem dX1_setGrip_6 : decode cX1_setGrip 6 = .ok (.iastore, 1) := da9_dX1_setGrip_0.2.2.2.2.1
theorem dX1_setGrip_7 : decode cX1_setGrip 7 = .ok (.aload_n 0, 1) := da9_dX1_setGrip_0.2.2.2.2.2.1
theorem dX1_setGrip_8 : decode cX1_setGrip 8 = .ok (.getfield 11, 3) := da9_dX1_setGrip_0.2.2.2.2.2.2.1
theorem dX1_setGrip_11 : decode cX1_setGrip 11 = .ok (.iconst 1, 1) := da9_dX1_setGrip_0.2.2.2.2.2.2.2.1
theorem dX1_setGrip_12 : decode cX1_setGrip 12 = .ok (.iload_n 2, 1) := da9_dX1_setGrip_0.2.2.2.2.2.2.2.2.1
theorem dX1_setGrip_13 : decode cX1_setGrip 13 = .ok (.iastore, 1) := da9_dX1_setGrip_0.2.2.2.2.2.2.2.2.2.1
theorem dX1_setGrip_14 : decode cX1_setGrip 14 = .ok (.aload_n 0, 1) := da9_dX1_setGrip_0.2.2.2.2.2.2.2.2.2.2.1
theorem dX1_setGrip_15 : decode cX1_setGrip 15 = .ok (.getfield 11, 3) := da9_dX1_setGrip_0.2.2.2.2.2.2.2.2.2.2.2.1
theorem dX1_setGrip_18 : decode cX1_setGrip 18 = .ok (.iconst 2, 1) := da9_dX1_setGrip_0.2.2.2.2.2.2.2.2.2.2.2.2.1
theorem dX1_setGrip_19 : decode cX1_setGrip 19 = .ok (.iload_n 3, 1) := da9_dX1_setGrip_0.2.2.2.2.2.2.2.2.2.2.2.2.2.1
theorem dX1_setGrip_20 : decode cX1_setGrip 20 = .ok (.iastore, 1) := da9_dX1_setGrip_0.2.2.2.2.2.2.2.2.2.2.2.2.2.2.1
theorem dX1_setGrip_21 : decode cX1_setGrip 21 = .ok (.aload_n 0, 1) := da9_dX1_setGrip_0.2.2.2.2.2.2.2.2.2.2.2.2.2.2.2
theorem da9_dX1_setGrip_22 : (decode cX1_setGrip 22 = .ok (.getfield 11, 3)) ∧ (decode cX1_setGrip 25 = .ok (.iconst 3, 1)) ∧ (decode cX1_setGrip 26 = .ok (.iload 4, 2)) ∧ (decode cX1_setGrip 28 = .ok (.iastore, 1)) ∧ (decode cX1_setGrip 29 = .ok (.aload_n 0, 1)) ∧ (decode cX1_setGrip 30 = .ok (.getfield 11, 3)) ∧ (decode cX1_setGrip 33 = .ok (.iconst 5, 1)) ∧ (decode cX1_setGrip 34 = .ok (.iconst (-1), 1)) ∧ (decode cX1_setGrip 35 = .ok (.iastore, 1)) ∧ (decode cX1_setGrip 36 = .ok (.aload_n 0, 1)) ∧ (decode cX1_setGrip 37 = .ok (.getfield 11, 3)) ∧ (decode cX1_setGrip 40 = .ok (.bipush 6, 2)) ∧ (decode cX1_setGrip 42 = .ok (.iconst (-1), 1)) ∧ (decode cX1_setGrip 43 = .ok (.iastore, 1)) ∧ (decode cX1_setGrip 44 = .ok (.return_, 1)) := by decide +kernel
theorem dX1_setGrip_22 : decode cX1_setGrip 22 = .ok (.getfield 11, 3) := da9_dX1_setGrip_22.1
theorem dX1_setGrip_25 : decode cX1_setGrip 25 = .ok (.iconst 3, 1) := da9_dX1_setGrip_22.2.1
theorem dX1_setGrip_26 : decode cX1_setGrip 26 = .ok (.iload 4, 2) := da9_dX1_setGrip_22.2.2.1
theorem dX1_setGrip_28 : decode cX1_setGrip 28 = .ok (.iastore, 1) := da9_dX1_setGrip_22.2.2.2.1
theorem dX1_setGrip_29 : decode cX1_setGrip 29 = .ok (.aload_n 0, 1) := da9_dX1_setGrip_22.2.2.2.2.1
theorem dX1_setGrip_30 : decode cX1_setGrip 30 = .ok (.getfield 11, 3) := da9_dX1_setGrip_22.2.2.2.2.2.1
theorem dX1_setGrip_33 : decode cX1_setGrip 33 = .ok (.iconst 5, 1) := da9_dX1_setGrip_22.2.2.2.2.2.2.1
theorem dX1_setGrip_34 : decode cX1_setGrip 34 = .ok (.iconst (-1), 1) := da9_dX1_setGrip_22.2.2.2.2.2.2.2.1
theorem dX1_setGrip_35 : decode cX1_setGrip 35 = .ok (.iastore, 1) := da9_dX1_setGrip_22.2.2.2.2.2.2.2.2.1
theorem dX1_setGrip_36 : decode cX1_setGrip 36 = .ok (.aload_n 0, 1) := da9_dX1_setGrip_22.2.2.2.2.2.2.2.2.2.1
theorem dX1_setGrip_37 : decode cX1_setGrip 37 = .ok (.getfield 11, 3) := da9_dX1_setGrip_22.2.2.2.2.2.2.2.2.2.2.1
theorem dX1_setGrip_40 : decode cX1_setGrip 40 = .ok (.bipush 6, 2) := da9_dX1_setGrip_22.2.2.2.2.2.2.2.2.2.2.2.1
theorem dX1_setGrip_42 : decode cX1_setGrip 42 = .ok (.iconst (-1), 1) := da9_dX1_setGrip_22.2.2.2.2.2.2.2.2.2.2.2.2.1
theorem dX1_setGrip_43 : decode cX1_setGrip 43 = .ok (.iastore, 1) := da9_dX1_setGrip_22.2.2.2.2.2.2.2.2.2.2.2.2.2.1
theorem dX1_setGrip_44 : decode cX1_setGrip 44 = .ok (.return_, 1) := da9_dX1_setGrip_22.2.2.2.2.2.2.2.2.2.2.2.2.2.2
set_option maxRecDepth 20000 in
theorem ggX1_anyHolds_X2_valueOf : GoodIn wsX1_anyHolds wsX2_valueOf := goodIn_r _ [8, 9, 10, 11, 12, 13, 14, 15, 16, 17, 7, 18, 19, 20, 32, 33, 24, 25, 26, 27, 28, 29, 30, 31] rfl (by decide +kernel)
set_option maxRecDepth 20000 in
theorem gX1_anyHolds_X2_valueOf : GoodIn wsX1_anyHolds (wsV RX1 79 RX2 yX2_valueOf wsX2_valueOf) := goodIn_app (goodIn_of _ (by decide +kernel)) ggX1_anyHolds_X2_valueOf
theorem da9_dX1_anyHolds_0 : (decode cX1_anyHolds 0 = .ok (.aload_n 0, 1)) ∧ (decode cX1_anyHolds 1 = .ok (.getfield 15, 3)) ∧ (decode cX1_anyHolds 4 = .ok (.ifnonnull 5, 3)) ∧ (decode cX1_anyHolds 7 = .ok (.iconst 0, 1)) ∧ (decode cX1_anyHolds 8 = .ok (.ireturn, 1)) ∧ (decode cX1_anyHolds 9 = .ok (.iconst 0, 1)) ∧ (decode cX1_anyHolds 10 = .ok (.istore_n 2, 1)) ∧ (decode cX1_anyHolds 11 = .ok (.iload_n 2, 1)) ∧ (decode cX1_anyHolds 12 = .ok (.aload_n 0, 1)) ∧ (decode cX1_anyHolds 13 = .ok (.getfield 15, 3)) ∧ (decode cX1_anyHolds 16 = .ok (.getfield 65, 3)) ∧ (decode cX1_anyHolds 19 = .ok (.if_icmp .ge 61, 3)) ∧ (decode cX1_anyHolds 22 = .ok (.aload_n 0, 1)) ∧ (decode cX1_anyHolds 23 = .ok (.getfield 15, 3)) ∧ (decode cX1_anyHolds 26 = .ok (.getfield 70, 3)) ∧ (decode cX1_anyHolds 29 = .ok (.iload_n 2, 1)) := by decide +kernel
theorem dX1_anyHolds_0 : decode cX1_anyHolds 0 = .ok (.aload_n 0, 1) := da9_dX1_anyHolds_0.1
theorem dX1_anyHolds_1 : decode cX1_anyHolds 1 = .ok (.getfield 15, 3) := da9_dX1_anyHolds_0.2.1
theorem dX1_anyHolds_4 : decode cX1_anyHolds 4 = .ok (.ifnonnull 5, 3) := da9_dX1_anyHolds_0.2.2.1
theorem dX1_anyHolds_7 : decode cX1_anyHolds 7 = .ok (.iconst 0, 1) := da9_dX1_anyHolds_0.2.2.2.1
theorem dX1_anyHolds_8 : decode cX1_anyHolds 8 = .ok (.ireturn, 1) := da9_dX1_anyHolds_0.2.2.2.2.1
theorem dX1_anyHolds_9 : decode cX1_anyHolds 9 = .ok (.iconst 0, 1) := da9_dX1_anyHolds_0.2.2.2.2.2.1
theorem dX1_anyHolds_10 : decode cX1_anyHolds 10 = .ok (.istore_n 2, 1) := da9_dX1_anyHolds_0.2.2.2.2.2.2.1
theorem dX1_anyHolds_11 : decode cX1_anyHolds 11 = .ok (.iload_n 2, 1) := da9_dX1_anyHolds_0.2.2.2.2.2.2.2.1
theorem dX1_anyHolds_12 : decode cX1_anyHolds 12 = .ok (.aload_n 0, 1) := da9_dX1_anyHolds_0.2.2.2.2.2.2.2.2.1
theorem dX1_anyHolds_13 : decode cX1_anyHolds 13 = .ok (.getfield 15, 3) := da9_dX1_anyHolds_0.2.2.2.2.2.2.2.2.2.1
theorem dX1_anyHolds_16 : decode cX1_anyHolds 16 = .ok (.getfield 65, 3) := da9_dX1_anyHolds_0.2.2.2.2.2.2.2.2.2.2.1
theorem dX1_anyHolds_19 : decode cX1_anyHolds 19 = .ok (.if_icmp .ge 61, 3) := da9_dX1_anyHolds_0.2.2.2.2.2.2.2.2.2.2.2.1
theorem dX1_anyHolds_22 : decode cX1_anyHolds 22 = .ok (.aload_n 0, 1) := da9_dX1_anyHolds_0.2.2.2.2.2.2.2.2.2.2.2.2.1
theorem dX1_anyHolds_23 : decode cX1_anyHolds 23 = .ok (.getfield 15, 3) := da9_dX1_anyHolds_0.2.2.2.2.2.2.2.2.2.2.2.2.2.1
theorem dX1_anyHolds_26 : decode cX1_anyHolds 26 = .ok (.getfield 70, 3) := da9_dX1_anyHolds_0.2.2.2.2.2.2.2.2.2.2.2.2.2.2.1
theorem dX1_anyHolds_29 : decode cX1_anyHolds 29 = .ok (.iload_n 2, 1) := da9_dX1_anyHolds_0.2.2.2.2.2.2.2.2.2.2.2.2.2.2.2
theorem da9_dX1_anyHolds_30 : (decode cX1_anyHolds 30 = .ok (.iaload, 1)) ∧ (decode cX1_anyHolds 31 = .ok (.iload_n 1, 1)) ∧ (decode cX1_anyHolds 32 = .ok (.if_icmp .ne 42, 3)) ∧ (decode cX1_anyHolds 35 = .ok (.aload_n 0, 1)) ∧ (decode cX1_anyHolds 36 = .ok (.getfield 19, 3)) ∧ (decode cX1_anyHolds 39 = .ok (.aload_n 0, 1)) ∧ (decode cX1_anyHolds 40 = .ok (.getfield 15, 3)) ∧ (decode cX1_anyHolds 43 = .ok (.aload_n 0, 1)) ∧ (decode cX1_anyHolds 44 = .ok (.getfield 15, 3)) ∧ (decode cX1_anyHolds 47 = .ok (.getfield 73, 3)) ∧ (decode cX1_anyHolds 50 = .ok (.iload_n 2, 1)) ∧ (decode cX1_anyHolds 51 = .ok (.iaload, 1)) ∧ (decode cX1_anyHolds 52 = .ok (.aload_n 0, 1)) ∧ (decode cX1_anyHolds 53 = .ok (.getfield 15, 3)) ∧ (decode cX1_anyHolds 56 = .ok (.getfield 76, 3)) ∧ (decode cX1_anyHolds 59 = .ok (.iload_n 2, 1)) := by decide +kernel
theorem dX1_anyHolds_30 : decode cX1_anyHolds 30 = .ok (.iaload, 1) := da9_dX1_anyHolds_30.1
theorem dX1_anyHolds_31 : decode cX1_anyHolds 31 = .ok (.iload_n 1, 1) := da9_dX1_anyHolds_30.2.1
theorem dX1_anyHolds_32 : decode cX1_anyHolds 32 = .ok (.if_icmp .ne 42, 3) := da9_dX1_anyHolds_30.2.2.1
theorem dX1_anyHolds_35 : decode cX1_anyHolds 35 = .ok (.aload_n 0, 1) := da9_dX1_anyHolds_30.2.2.2.1
theorem dX1_anyHolds_36 : decode cX1_anyHolds 36 = .ok (.getfield 19, 3) := da9_dX1_anyHolds_30.2.2.2.2.1
theorem dX1_anyHolds_39 : decode cX1_anyHolds 39 = .ok (.aload_n 0, 1) := da9_dX1_anyHolds_30.2.2.2.2.2.1
theorem dX1_anyHolds_40 : decode cX1_anyHolds 40 = .ok (.getfield 15, 3) := da9_dX1_anyHolds_30.2.2.2.2.2.2.1
theorem dX1_anyHolds_43 : decode cX1_anyHolds 43 = .ok (.aload_n 0, 1) := da9_dX1_anyHolds_30.2.2.2.2.2.2.2.1
theorem dX1_anyHolds_44 : decode cX1_anyHolds 44 = .ok (.getfield 15, 3) := da9_dX1_anyHolds_30.2.2.2.2.2.2.2.2.1
theorem dX1_anyHolds_47 : decode cX1_anyHolds 47 = .ok (.getfield 73, 3) := da9_dX1_anyHolds_30.2.2.2.2.2.2.2.2.2.1
theorem dX1_anyHolds_50 : decode cX1_anyHolds 50 = .ok (.iload_n 2, 1) := da9_dX1_anyHolds_30.2.2.2.2.2.2.2.2.2.2.1
theorem dX1_anyHolds_51 : decode cX1_anyHolds 51 = .ok (.iaload, 1) := da9_dX1_anyHolds_30.2.2.2.2.2.2.2.2.2.2.2.1
theorem dX1_anyHolds_52 : decode cX1_anyHolds 52 = .ok (.aload_n 0, 1) := da9_dX1_anyHolds_30.2.2.2.2.2.2.2.2.2.2.2.2.1
theorem dX1_anyHolds_53 : decode cX1_anyHolds 53 = .ok (.getfield 15, 3) := da9_dX1_anyHolds_30.2.2.2.2.2.2.2.2.2.2.2.2.2.1
theorem dX1_anyHolds_56 : decode cX1_anyHolds 56 = .ok (.getfield 76, 3) := da9_dX1_anyHolds_30.2.2.2.2.2.2.2.2.2.2.2.2.2.2.1
theorem dX1_anyHolds_59 : decode cX1_anyHolds 59 = .ok (.iload_n 2, 1) := da9_dX1_anyHolds_30.2.2.2.2.2.2.2.2.2.2.2.2.2.2.2
theorem da9_dX1_anyHolds_60 : (decode cX1_anyHolds 60 = .ok (.iaload, 1)) ∧ (decode cX1_anyHolds 61 = .ok (.aload_n 0, 1)) ∧ (decode cX1_anyHolds 62 = .ok (.getfield 11, 3)) ∧ (decode cX1_anyHolds 65 = .ok (.invokevirtual 79, 3)) ∧ (decode cX1_anyHolds 68 = .ok (.iconst 1, 1)) ∧ (decode cX1_anyHolds 69 = .ok (.if_icmp .ne 5, 3)) ∧ (decode cX1_anyHolds 72 = .ok (.iconst 1, 1)) ∧ (decode cX1_anyHolds 73 = .ok (.ireturn, 1)) ∧ (decode cX1_anyHolds 74 = .ok (.iinc 2 1, 3)) ∧ (decode cX1_anyHolds 77 = .ok (.goto (-66), 3)) ∧ (decode cX1_anyHolds 80 = .ok (.iconst 0, 1)) ∧ (decode cX1_anyHolds 81 = .ok (.ireturn, 1)) := by decide +kernel
theorem dX1_anyHolds_60 : decode cX1_anyHolds 60 = .ok (.iaload, 1) := da9_dX1_anyHolds_60.1
theorem dX1_anyHolds_61 : decode cX1_anyHolds 61 = .ok (.aload_n 0, 1) := da9_dX1_anyHolds_60.2.1
theorem dX1_anyHolds_62 : decode cX1_anyHolds 62 = .ok (.getfield 11, 3) := da9_dX1_anyHolds_60.2.2.1
theorem dX1_anyHolds_65 : decode cX1_anyHolds 65 = .ok (.invokevirtual 79, 3) := da9_dX1_anyHolds_60.2.2.2.1
theorem dX1_anyHolds_68 : decode cX1_anyHolds 68 = .ok (.iconst 1, 1) := da9_dX1_anyHolds_60.2.2.2.2.1
theorem dX1_anyHolds_69 : decode cX1_anyHolds 69 = .ok (.if_icmp .ne 5, 3) := da9_dX1_anyHolds_60.2.2.2.2.2.1
theorem dX1_anyHolds_72 : decode cX1_anyHolds 72 = .ok (.iconst 1, 1) := da9_dX1_anyHolds_60.2.2.2.2.2.2.1
theorem dX1_anyHolds_73 : decode cX1_anyHolds 73 = .ok (.ireturn, 1) := da9_dX1_anyHolds_60.2.2.2.2.2.2.2.1
theorem dX1_anyHolds_74 : decode cX1_anyHolds 74 = .ok (.iinc 2 1, 3) := da9_dX1_anyHolds_60.2.2.2.2.2.2.2.2.1
theorem dX1_anyHolds_77 : decode cX1_anyHolds 77 = .ok (.goto (-66), 3) := da9_dX1_anyHolds_60.2.2.2.2.2.2.2.2.2.1
theorem dX1_anyHolds_80 : decode cX1_anyHolds 80 = .ok (.iconst 0, 1) := da9_dX1_anyHolds_60.2.2.2.2.2.2.2.2.2.2.1
theorem dX1_anyHolds_81 : decode cX1_anyHolds 81 = .ok (.ireturn, 1) := da9_dX1_anyHolds_60.2.2.2.2.2.2.2.2.2.2.2
set_option maxRecDepth 20000 in
theorem ggX1_pay_X2_valueOf : GoodIn wsX1_pay wsX2_valueOf := goodIn_r _ [15, 16, 17, 18, 5, 6, 7, 19, 20, 21, 14, 22, 23, 24, 36, 37, 28, 29, 30, 31, 32, 33, 34, 35] rfl (by decide +kernel)
set_option maxRecDepth 20000 in
theorem gX1_pay_X2_valueOf : GoodIn wsX1_pay (wsV RX1 79 RX2 yX2_valueOf wsX2_valueOf) := goodIn_app (goodIn_of _ (by decide +kernel)) ggX1_pay_X2_valueOf
theorem da9_dX1_pay_0 : (decode cX1_pay 0 = .ok (.aload_n 0, 1)) ∧ (decode cX1_pay 1 = .ok (.getfield 15, 3)) ∧ (decode cX1_pay 4 = .ok (.ifnonnull 10, 3)) ∧ (decode cX1_pay 7 = .ok (.aload_n 0, 1)) ∧ (decode cX1_pay 8 = .ok (.getfield 11, 3)) ∧ (decode cX1_pay 11 = .ok (.iconst 0, 1)) ∧ (decode cX1_pay 12 = .ok (.iaload, 1)) ∧ (decode cX1_pay 13 = .ok (.ireturn, 1)) ∧ (decode cX1_pay 14 = .ok (.aload_n 0, 1)) ∧ (decode cX1_pay 15 = .ok (.getfield 15, 3)) ∧ (decode cX1_pay 18 = .ok (.getfield 65, 3)) ∧ (decode cX1_pay 21 = .ok (.iconst 1, 1)) ∧ (decode cX1_pay 22 = .ok (.isub, 1)) ∧ (decode cX1_pay 23 = .ok (.istore_n 1, 1)) ∧ (decode cX1_pay 24 = .ok (.iload_n 1, 1)) ∧ (decode cX1_pay 25 = .ok (.ifCond .lt 113, 3)) := by decide +kernel
theorem dX1_pay_0 : decode cX1_pay 0 = .ok (.aload_n 0, 1) := da9_dX1_pay_0.1
theorem dX1_pay_1 : decode cX1_pay 1 = .ok (.getfield 15, 3) := da9_dX1_pay_0.2.1
theorem dX1_pay_4 : decode cX1_pay 4 = .ok (.ifnonnull 10, 3) := da9_dX1_pay_0.2.2.1
theorem dX1_pay_7 : decode cX1_pay 7 = .ok (.aload_n 0, 1) := da9_dX1_pay_0.2.2.2.1
theorem dX1_pay_8 : decode cX1_pay 8 = .ok (.getfield 11, 3) := da9_dX1_pay_0.2.2.2.2.1
theorem dX1_pay_11 : decode cX1_pay 11 = .ok (.iconst 0, 1) := da9_dX1_pay_0.2.2.2.2.2.1
theorem dX1_pay_12 : decode cX1_pay 12 = .ok (.iaload, 1) := da9_dX1_pay_0.2.2.2.2.2.2.1
theorem dX1_pay_13 : decode cX1_pay 13 = .ok (.ireturn, 1) := da9_dX1_pay_0.2.2.2.2.2.2.2.1
theorem dX1_pay_14 : decode cX1_pay 14 = .ok (.aload_n 0, 1) := da9_dX1_pay_0.2.2.2.2.2.2.2.2.1
theorem dX1_pay_15 : decode cX1_pay 15 = .ok (.getfield 15, 3) := da9_dX1_pay_0.2.2.2.2.2.2.2.2.2.1
theorem dX1_pay_18 : decode cX1_pay 18 = .ok (.getfield 65, 3) := da9_dX1_pay_0.2.2.2.2.2.2.2.2.2.2.1
theorem dX1_pay_21 : decode cX1_pay 21 = .ok (.iconst 1, 1) := da9_dX1_pay_0.2.2.2.2.2.2.2.2.2.2.2.1
theorem dX1_pay_22 : decode cX1_pay 22 = .ok (.isub, 1) := da9_dX1_pay_0.2.2.2.2.2.2.2.2.2.2.2.2.1
theorem dX1_pay_23 : decode cX1_pay 23 = .ok (.istore_n 1, 1) := da9_dX1_pay_0.2.2.2.2.2.2.2.2.2.2.2.2.2.1
theorem dX1_pay_24 : decode cX1_pay 24 = .ok (.iload_n 1, 1) := da9_dX1_pay_0.2.2.2.2.2.2.2.2.2.2.2.2.2.2.1
theorem dX1_pay_25 : decode cX1_pay 25 = .ok (.ifCond .lt 113, 3) := da9_dX1_pay_0.2.2.2.2.2.2.2.2.2.2.2.2.2.2.2
theorem da9_dX1_pay_28 : (decode cX1_pay 28 = .ok (.aload_n 0, 1)) ∧ (decode cX1_pay 29 = .ok (.getfield 15, 3)) ∧ (decode cX1_pay 32 = .ok (.getfield 70, 3)) ∧ (decode cX1_pay 35 = .ok (.iload_n 1, 1)) ∧ (decode cX1_pay 36 = .ok (.iaload, 1)) ∧ (decode cX1_pay 37 = .ok (.ifCond .ne 95, 3)) ∧ (decode cX1_pay 40 = .ok (.aload_n 0, 1)) ∧ (decode cX1_pay 41 = .ok (.getfield 19, 3)) ∧ (decode cX1_pay 44 = .ok (.aload_n 0, 1)) ∧ (decode cX1_pay 45 = .ok (.getfield 15, 3)) ∧ (decode cX1_pay 48 = .ok (.aload_n 0, 1)) ∧ (decode cX1_pay 49 = .ok (.getfield 15, 3)) ∧ (decode cX1_pay 52 = .ok (.getfield 73, 3)) ∧ (decode cX1_pay 55 = .ok (.iload_n 1, 1)) ∧ (decode cX1_pay 56 = .ok (.iaload, 1)) ∧ (decode cX1_pay 57 = .ok (.aload_n 0, 1)) := by decide +kernel
theorem dX1_pay_28 : decode cX1_pay 28 = .ok (.aload_n 0, 1) := da9_dX1_pay_28.1
theorem dX1_pay_29 : decode cX1_pay 29 = .ok (.getfield 15, 3) := da9_dX1_pay_28.2.1
theorem dX1_pay_32 : decode cX1_pay 32 = .ok (.getfield 70, 3) := da9_dX1_pay_28.2.2.1
theorem dX1_pay_35 : decode cX1_pay 35 = .ok (.iload_n 1, 1) := da9_dX1_pay_28.2.2.2.1
theorem dX1_pay_36 : decode cX1_pay 36 = .ok (.iaload, 1) := da9_dX1_pay_28.2.2.2.2.1
theorem dX1_pay_37 : decode cX1_pay 37 = .ok (.ifCond .ne 95, 3) := da9_dX1_pay_28.2.2.2.2.2.1
theorem dX1_pay_40 : decode cX1_pay 40 = .ok (.aload_n 0, 1) := da9_dX1_pay_28.2.2.2.2.2.2.1
theorem dX1_pay_41 : decode cX1_pay 41 = .ok (.getfield 19, 3) := da9_dX1_pay_28.2.2.2.2.2.2.2.1
theorem dX1_pay_44 : decode cX1_pay 44 = .ok (.aload_n 0, 1) := da9_dX1_pay_28.2.2.2.2.2.2.2.2.1
theorem dX1_pay_45 : decode cX1_pay 45 = .ok (.getfield 15, 3) := da9_dX1_pay_28.2.2.2.2.2.2.2.2.2.1
theorem dX1_pay_48 : decode cX1_pay 48 = .ok (.aload_n 0, 1) := da9_dX1_pay_28.2.2.2.2.2.2.2.2.2.2.1
theorem dX1_pay_49 : decode cX1_pay 49 = .ok (.getfield 15, 3) := da9_dX1_pay_28.2.2.2.2.2.2.2.2.2.2.2.1
theorem dX1_pay_52 : decode cX1_pay 52 = .ok (.getfield 73, 3) := da9_dX1_pay_28.2.2.2.2.2.2.2.2.2.2.2.2.1
theorem dX1_pay_55 : decode cX1_pay 55 = .ok (.iload_n 1, 1) := da9_dX1_pay_28.2.2.2.2.2.2.2.2.2.2.2.2.2.1
theorem dX1_pay_56 : decode cX1_pay 56 = .ok (.iaload, 1) := da9_dX1_pay_28.2.2.2.2.2.2.2.2.2.2.2.2.2.2.1
theorem dX1_pay_57 : decode cX1_pay 57 = .ok (.aload_n 0, 1) := da9_dX1_pay_28.2.2.2.2.2.2.2.2.2.2.2.2.2.2.2
theorem da9_dX1_pay_58 : (decode cX1_pay 58 = .ok (.getfield 15, 3)) ∧ (decode cX1_pay 61 = .ok (.getfield 76, 3)) ∧ (decode cX1_pay 64 = .ok (.iload_n 1, 1)) ∧ (decode cX1_pay 65 = .ok (.iaload, 1)) ∧ (decode cX1_pay 66 = .ok (.aload_n 0, 1)) ∧ (decode cX1_pay 67 = .ok (.getfield 11, 3)) ∧ (decode cX1_pay 70 = .ok (.invokevirtual 79, 3)) ∧ (decode cX1_pay 73 = .ok (.iconst 1, 1)) ∧ (decode cX1_pay 74 = .ok (.if_icmp .ne 58, 3)) ∧ (decode cX1_pay 77 = .ok (.aload_n 0, 1)) ∧ (decode cX1_pay 78 = .ok (.getfield 19, 3)) ∧ (decode cX1_pay 81 = .ok (.aload_n 0, 1)) ∧ (decode cX1_pay 82 = .ok (.getfield 15, 3)) ∧ (decode cX1_pay 85 = .ok (.aload_n 0, 1)) ∧ (decode cX1_pay 86 = .ok (.getfield 15, 3)) ∧ (decode cX1_pay 89 = .ok (.getfield 85, 3)) := by decide +kernel
theorem dX1_pay_58 : decode cX1_pay 58 = .ok (.getfield 15, 3) := da9_dX1_pay_58.1
theorem dX1_pay_61 : decode cX1_pay 61 = .ok (.getfield 76, 3) := da9_dX1_pay_58.2.1
theorem dX1_pay_64 : decode cX1_pay 64 = .ok (.iload_n 1, 1) := da9_dX1_pay_58.2.2.1
theorem dX1_pay_65 : decode cX1_pay 65 = .ok (.iaload, 1) := da9_dX1_pay_58.2.2.2.1
theorem dX1_pay_66 : decode cX1_pay 66 = .ok (.aload_n 0, 1) := da9_dX1_pay_58.2.2.2.2.1
theorem dX1_pay_67 : decode cX1_pay 67 = .ok (.getfield 11, 3) := da9_dX1_pay_58.2.2.2.2.2.1
theorem dX1_pay_70 : decode cX1_pay 70 = .ok (.invokevirtual 79, 3) := da9_dX1_pay_58.2.2.2.2.2.2.1
theorem dX1_pay_73 : decode cX1_pay 73 = .ok (.iconst 1, 1) := da9_dX1_pay_58.2.2.2.2.2.2.2.1
theorem dX1_pay_74 : decode cX1_pay 74 = .ok (.if_icmp .ne 58, 3) := da9_dX1_pay_58.2.2.2.2.2.2.2.2.1
theorem dX1_pay_77 : decode cX1_pay 77 = .ok (.aload_n 0, 1) := da9_dX1_pay_58.2.2.2.2.2.2.2.2.2.1
theorem dX1_pay_78 : decode cX1_pay 78 = .ok (.getfield 19, 3) := da9_dX1_pay_58.2.2.2.2.2.2.2.2.2.2.1
theorem dX1_pay_81 : decode cX1_pay 81 = .ok (.aload_n 0, 1) := da9_dX1_pay_58.2.2.2.2.2.2.2.2.2.2.2.1
theorem dX1_pay_82 : decode cX1_pay 82 = .ok (.getfield 15, 3) := da9_dX1_pay_58.2.2.2.2.2.2.2.2.2.2.2.2.1
theorem dX1_pay_85 : decode cX1_pay 85 = .ok (.aload_n 0, 1) := da9_dX1_pay_58.2.2.2.2.2.2.2.2.2.2.2.2.2.1
theorem dX1_pay_86 : decode cX1_pay 86 = .ok (.getfield 15, 3) := da9_dX1_pay_58.2.2.2.2.2.2.2.2.2.2.2.2.2.2.1
theorem dX1_pay_89 : decode cX1_pay 89 = .ok (.getfield 85, 3) := da9_dX1_pay_58.2.2.2.2.2.2.2.2.2.2.2.2.2.2.2
theorem da9_dX1_pay_92 : (decode cX1_pay 92 = .ok (.iload_n 1, 1)) ∧ (decode cX1_pay 93 = .ok (.iaload, 1)) ∧ (decode cX1_pay 94 = .ok (.aload_n 0, 1)) ∧ (decode cX1_pay 95 = .ok (.getfield 15, 3)) ∧ (decode cX1_pay 98 = .ok (.getfield 73, 3)) ∧ (decode cX1_pay 101 = .ok (.iload_n 1, 1)) ∧ (decode cX1_pay 102 = .ok (.iaload, 1)) ∧ (decode cX1_pay 103 = .ok (.aload_n 0, 1)) ∧ (decode cX1_pay 104 = .ok (.getfield 11, 3)) ∧ (decode cX1_pay 107 = .ok (.invokevirtual 79, 3)) ∧ (decode cX1_pay 110 = .ok (.istore_n 2, 1)) ∧ (decode cX1_pay 111 = .ok (.aload_n 0, 1)) ∧ (decode cX1_pay 112 = .ok (.getfield 19, 3)) ∧ (decode cX1_pay 115 = .ok (.getfield 88, 3)) ∧ (decode cX1_pay 118 = .ok (.ifCond .ne 14, 3)) ∧ (decode cX1_pay 121 = .ok (.iconst 0, 1)) := by decide +kernel
theorem dX1_pay_92 : decode cX1_pay 92 = .ok (.iload_n 1, 1) := da9_dX1_pay_92.1
theorem dX1_pay_93 : decode cX1_pay 93 = .ok (.iaload, 1) := da9_dX1_pay_92.2.1
theorem dX1_pay_94 : decode cX1_pay 94 = .ok (.aload_n 0, 1) := da9_dX1_pay_92.2.2.1
theorem dX1_pay_95 : decode cX1_pay 95 = .ok (.getfield 15, 3) := da9_dX1_pay_92.2.2.2.1
theorem dX1_pay_98 : decode cX1_pay 98 = .ok (.getfield 73, 3) := da9_dX1_pay_92.2.2.2.2.1
theorem dX1_pay_101 : decode cX1_pay 101 = .ok (.iload_n 1, 1) := da9_dX1_pay_92.2.2.2.2.2.1
theorem dX1_pay_102 : decode cX1_pay 102 = .ok (.iaload, 1) := da9_dX1_pay_92.2.2.2.2.2.2.1
theorem dX1_pay_103 : decode cX1_pay 103 = .ok (.aload_n 0, 1) := da9_dX1_pay_92.2.2.2.2.2.2.2.1
theorem dX1_pay_104 : decode cX1_pay 104 = .ok (.getfield 11, 3) := da9_dX1_pay_92.2.2.2.2.2.2.2.2.1
theorem dX1_pay_107 : decode cX1_pay 107 = .ok (.invokevirtual 79, 3) := da9_dX1_pay_92.2.2.2.2.2.2.2.2.2.1
theorem dX1_pay_110 : decode cX1_pay 110 = .ok (.istore_n 2, 1) := da9_dX1_pay_92.2.2.2.2.2.2.2.2.2.2.1
theorem dX1_pay_111 : decode cX1_pay 111 = .ok (.aload_n 0, 1) := da9_dX1_pay_92.2.2.2.2.2.2.2.2.2.2.2.1
theorem dX1_pay_112 : decode cX1_pay 112 = .ok (.getfield 19, 3) := da9_dX1_pay_92.2.2.2.2.2.2.2.2.2.2.2.2.1
theorem dX1_pay_115 : decode cX1_pay 115 = .ok (.getfield 88, 3) := da9_dX1_pay_92.2.2.2.2.2.2.2.2.2.2.2.2.2.1
theorem dX1_pay_118 : decode cX1_pay 118 = .ok (.ifCond .ne 14, 3) := da9_dX1_pay_92.2.2.2.2.2.2.2.2.2.2.2.2.2.2.1
theorem dX1_pay_121 : decode cX1_pay 121 = .ok (.iconst 0, 1) := da9_dX1_pay_92.2.2.2.2.2.2.2.2.2.2.2.2.2.2.2
theorem da9_dX1_pay_122 : (decode cX1_pay 122 = .ok (.bipush 99, 2)) ∧ (decode cX1_pay 124 = .ok (.iload_n 2, 1)) ∧ (decode cX1_pay 125 = .ok (.invokestatic 92, 3)) ∧ (decode cX1_pay 128 = .ok (.invokestatic 97, 3)) ∧ (decode cX1_pay 131 = .ok (.ireturn, 1)) ∧ (decode cX1_pay 132 = .ok (.iinc 1 (-1), 3)) ∧ (decode cX1_pay 135 = .ok (.goto (-111), 3)) ∧ (decode cX1_pay 138 = .ok (.aload_n 0, 1)) ∧ (decode cX1_pay 139 = .ok (.getfield 11, 3)) ∧ (decode cX1_pay 142 = .ok (.iconst 0, 1)) ∧ (decode cX1_pay 143 = .ok (.iaload, 1)) ∧ (decode cX1_pay 144 = .ok (.ireturn, 1)) := by decide +kernel
theorem dX1_pay_122 : decode cX1_pay 122 = .ok (.bipush 99, 2) := da9_dX1_pay_122.1
theorem dX1_pay_124 : decode cX1_pay 124 = .ok (.iload_n 2, 1) := da9_dX1_pay_122.2.1
theorem dX1_pay_125 : decode cX1_pay 125 = .ok (.invokestatic 92, 3) := da9_dX1_pay_122.2.2.1
theorem dX1_pay_128 : decode cX1_pay 128 = .ok (.invokestatic 97, 3) := da9_dX1_pay_122.2.2.2.1
theorem dX1_pay_131 : decode cX1_pay 131 = .ok (.ireturn, 1) := da9_dX1_pay_122.2.2.2.2.1
theorem dX1_pay_132 : decode cX1_pay 132 = .ok (.iinc 1 (-1), 3) := da9_dX1_pay_122.2.2.2.2.2.1
theorem dX1_pay_135 : decode cX1_pay 135 = .ok (.goto (-111), 3) := da9_dX1_pay_122.2.2.2.2.2.2.1
theorem dX1_pay_138 : decode cX1_pay 138 = .ok (.aload_n 0, 1) := da9_dX1_pay_122.2.2.2.2.2.2.2.1
theorem dX1_pay_139 : decode cX1_pay 139 = .ok (.getfield 11, 3) := da9_dX1_pay_122.2.2.2.2.2.2.2.2.1
theorem dX1_pay_142 : decode cX1_pay 142 = .ok (.iconst 0, 1) := da9_dX1_pay_122.2.2.2.2.2.2.2.2.2.1
theorem dX1_pay_143 : decode cX1_pay 143 = .ok (.iaload, 1) := da9_dX1_pay_122.2.2.2.2.2.2.2.2.2.2.1
theorem dX1_pay_144 : decode cX1_pay 144 = .ok (.ireturn, 1) := da9_dX1_pay_122.2.2.2.2.2.2.2.2.2.2.2
set_option maxRecDepth 20000 in
theorem ggX9_at_X8_isFloor : GoodIn wsX9_at wsX8_isFloor := goodIn_r _ [6, 7, 104, 105, 106, 107, 108] rfl (by decide +kernel)
set_option maxRecDepth 20000 in
theorem gX9_at_X8_isFloor : GoodIn wsX9_at (wsV RX9 141 RX8 yX8_isFloor wsX8_isFloor) := goodIn_app (goodIn_of _ (by decide +kernel)) ggX9_at_X8_isFloor
set_option maxRecDepth 20000 in
theorem ggX9_at_X9_seated : GoodIn wsX9_at wsX9_seated := goodIn_r _ [12, 13, 1, 14, 15, 16, 17, 18, 19, 20, 21, 22, 23, 24, 25, 26, 27, 28, 29, 30, 31, 75, 76, 77, 78, 79, 80, 81, 82, 83, 84, 85, 86, 87, 88, 89, 90, 91, 92, 93, 94, 95, 96, 97, 98, 99, 100, 101, 102, 103, 109, 110, 111] rfl (by decide +kernel)
set_option maxRecDepth 20000 in
theorem gX9_at_X9_seated : GoodIn wsX9_at (wsV RX9 144 RX9 yX9_seated wsX9_seated) := goodIn_app (goodIn_of _ (by decide +kernel)) ggX9_at_X9_seated
set_option maxRecDepth 20000 in
theorem ggX9_at_X1_tips : GoodIn wsX9_at wsX1_tips := goodIn_r _ [35, 31, 36, 3, 4, 5, 6, 7, 37, 38, 39, 28, 40, 41, 42, 43, 44, 30, 45, 46, 47, 48, 49, 50, 51, 52, 53, 54, 55, 56, 57, 58, 59, 60, 61, 62, 104, 105, 106, 107, 108, 109, 110, 111, 112, 113, 114, 115, 116, 117, 118, 119, 120, 121] rfl (by decide +kernel)
set_option maxRecDepth 20000 in
theorem gX9_at_X1_tips : GoodIn wsX9_at (wsV RX9 148 RX1 yX1_tips wsX1_tips) := goodIn_app (goodIn_of _ (by decide +kernel)) ggX9_at_X1_tips
set_option maxRecDepth 20000 in
theorem ggX9_at_X9_bit : GoodIn wsX9_at wsX9_bit := goodIn_r _ [65] rfl (by decide +kernel)
set_option maxRecDepth 20000 in
theorem gX9_at_X9_bit : GoodIn wsX9_at (va_wsS RX9 152 yX9_bit wsX9_bit) := goodIn_app (goodIn_of _ (by decide +kernel)) ggX9_at_X9_bit
set_option maxRecDepth 20000 in
theorem ggX9_at_X8_tell : GoodIn wsX9_at wsX8_tell := goodIn_r _ [69, 70, 71, 72, 3, 4, 5, 6, 7, 73, 11, 74, 104, 105, 106, 107, 108] rfl (by decide +kernel)
set_option maxRecDepth 20000 in
theorem gX9_at_X8_tell : GoodIn wsX9_at (wsV RX9 156 RX8 yX8_tell wsX8_tell) := goodIn_app (goodIn_of _ (by decide +kernel)) ggX9_at_X8_tell
theorem da9_dX9_at_0 : (decode cX9_at 0 = .ok (.iload_n 2, 1)) ∧ (decode cX9_at 1 = .ok (.iconst 2, 1)) ∧ (decode cX9_at 2 = .ok (.if_icmp .ne 40, 3)) ∧ (decode cX9_at 5 = .ok (.aload_n 0, 1)) ∧ (decode cX9_at 6 = .ok (.getfield 10, 3)) ∧ (decode cX9_at 9 = .ok (.getfield 122, 3)) ∧ (decode cX9_at 12 = .ok (.iload_n 1, 1)) ∧ (decode cX9_at 13 = .ok (.invokevirtual 141, 3)) ∧ (decode cX9_at 16 = .ok (.ifCond .eq 24, 3)) ∧ (decode cX9_at 19 = .ok (.aload_n 0, 1)) ∧ (decode cX9_at 20 = .ok (.invokevirtual 144, 3)) ∧ (decode cX9_at 23 = .ok (.aload_n 0, 1)) ∧ (decode cX9_at 24 = .ok (.getfield 10, 3)) ∧ (decode cX9_at 27 = .ok (.getfield 122, 3)) ∧ (decode cX9_at 30 = .ok (.iload_n 1, 1)) ∧ (decode cX9_at 31 = .ok (.invokevirtual 148, 3)) := by decide +kernel
theorem dX9_at_0 : decode cX9_at 0 = .ok (.iload_n 2, 1) := da9_dX9_at_0.1
theorem dX9_at_1 : decode cX9_at 1 = .ok (.iconst 2, 1) := da9_dX9_at_0.2.1
theorem dX9_at_2 : decode cX9_at 2 = .ok (.if_icmp .ne 40, 3) := da9_dX9_at_0.2.2.1
theorem dX9_at_5 : decode cX9_at 5 = .ok (.aload_n 0, 1) := da9_dX9_at_0.2.2.2.1
theorem dX9_at_6 : decode cX9_at 6 = .ok (.getfield 10, 3) := da9_dX9_at_0.2.2.2.2.1
theorem dX9_at_9 : decode cX9_at 9 = .ok (.getfield 122, 3) := da9_dX9_at_0.2.2.2.2.2.1
theorem dX9_at_12 : decode cX9_at 12 = .ok (.iload_n 1, 1) := da9_dX9_at_0.2.2.2.2.2.2.1
theorem dX9_at_13 : decode cX9_at 13 = .ok (.invokevirtual 141, 3) := da9_dX9_at_0.2.2.2.2.2.2.2.1
theorem dX9_at_16 : decode cX9_at 16 = .ok (.ifCond .eq 24, 3) := da9_dX9_at_0.2.2.2.2.2.2.2.2.1
theorem dX9_at_19 : decode cX9_at 19 = .ok (.aload_n 0, 1) := da9_dX9_at_0.2.2.2.2.2.2.2.2.2.1
theorem dX9_at_20 : decode cX9_at 20 = .ok (.invokevirtual 144, 3) := da9_dX9_at_0.2.2.2.2.2.2.2.2.2.2.1
theorem dX9_at_23 : decode cX9_at 23 = .ok (.aload_n 0, 1) := da9_dX9_at_0.2.2.2.2.2.2.2.2.2.2.2.1
theorem dX9_at_24 : decode cX9_at 24 = .ok (.getfield 10, 3) := da9_dX9_at_0.2.2.2.2.2.2.2.2.2.2.2.2.1
theorem dX9_at_27 : decode cX9_at 27 = .ok (.getfield 122, 3) := da9_dX9_at_0.2.2.2.2.2.2.2.2.2.2.2.2.2.1
theorem dX9_at_30 : decode cX9_at 30 = .ok (.iload_n 1, 1) := da9_dX9_at_0.2.2.2.2.2.2.2.2.2.2.2.2.2.2.1
theorem dX9_at_31 : decode cX9_at 31 = .ok (.invokevirtual 148, 3) := da9_dX9_at_0.2.2.2.2.2.2.2.2.2.2.2.2.2.2.2
theorem da9_dX9_at_34 : (decode cX9_at 34 = .ok (.invokestatic 152, 3)) ∧ (decode cX9_at 37 = .ok (.goto 4, 3)) ∧ (decode cX9_at 40 = .ok (.iconst (-1), 1)) ∧ (decode cX9_at 41 = .ok (.ireturn, 1)) ∧ (decode cX9_at 42 = .ok (.aload_n 0, 1)) ∧ (decode cX9_at 43 = .ok (.getfield 10, 3)) ∧ (decode cX9_at 46 = .ok (.getfield 122, 3)) ∧ (decode cX9_at 49 = .ok (.iload_n 1, 1)) ∧ (decode cX9_at 50 = .ok (.iload_n 2, 1)) ∧ (decode cX9_at 51 = .ok (.invokevirtual 156, 3)) ∧ (decode cX9_at 54 = .ok (.ireturn, 1)) := by decide +kernel
theorem dX9_at_34 : decode cX9_at 34 = .ok (.invokestatic 152, 3) := da9_dX9_at_34.1
theorem dX9_at_37 : decode cX9_at 37 = .ok (.goto 4, 3) := da9_dX9_at_34.2.1
theorem dX9_at_40 : decode cX9_at 40 = .ok (.iconst (-1), 1) := da9_dX9_at_34.2.2.1
theorem dX9_at_41 : decode cX9_at 41 = .ok (.ireturn, 1) := da9_dX9_at_34.2.2.2.1
theorem dX9_at_42 : decode cX9_at 42 = .ok (.aload_n 0, 1) := da9_dX9_at_34.2.2.2.2.1
theorem dX9_at_43 : decode cX9_at 43 = .ok (.getfield 10, 3) := da9_dX9_at_34.2.2.2.2.2.1
theorem dX9_at_46 : decode cX9_at 46 = .ok (.getfield 122, 3) := da9_dX9_at_34.2.2.2.2.2.2.1
theorem dX9_at_49 : decode cX9_at 49 = .ok (.iload_n 1, 1) := da9_dX9_at_34.2.2.2.2.2.2.2.1
theorem dX9_at_50 : decode cX9_at 50 = .ok (.iload_n 2, 1) := da9_dX9_at_34.2.2.2.2.2.2.2.2.1
theorem dX9_at_51 : decode cX9_at 51 = .ok (.invokevirtual 156, 3) := da9_dX9_at_34.2.2.2.2.2.2.2.2.2.1
theorem dX9_at_54 : decode cX9_at 54 = .ok (.ireturn, 1) := da9_dX9_at_34.2.2.2.2.2.2.2.2.2.2
theorem da9_dX9_bit_0 : (decode cX9_bit 0 = .ok (.iload_n 0, 1)) ∧ (decode cX9_bit 1 = .ok (.ifCond .eq 7, 3)) ∧ (decode cX9_bit 4 = .ok (.iconst 1, 1)) ∧ (decode cX9_bit 5 = .ok (.goto 4, 3)) ∧ (decode cX9_bit 8 = .ok (.iconst 0, 1)) ∧ (decode cX9_bit 9 = .ok (.ireturn, 1)) := by decide +kernel
theorem dX9_bit_0 : decode cX9_bit 0 = .ok (.iload_n 0, 1) := da9_dX9_bit_0.1
theorem dX9_bit_1 : decode cX9_bit 1 = .ok (.ifCond .eq 7, 3) := da9_dX9_bit_0.2.1
theorem dX9_bit_4 : decode cX9_bit 4 = .ok (.iconst 1, 1) := da9_dX9_bit_0.2.2.1
theorem dX9_bit_5 : decode cX9_bit 5 = .ok (.goto 4, 3) := da9_dX9_bit_0.2.2.2.1
theorem dX9_bit_8 : decode cX9_bit 8 = .ok (.iconst 0, 1) := da9_dX9_bit_0.2.2.2.2.1
theorem dX9_bit_9 : decode cX9_bit 9 = .ok (.ireturn, 1) := da9_dX9_bit_0.2.2.2.2.2
