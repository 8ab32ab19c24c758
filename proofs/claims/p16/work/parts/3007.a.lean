section
set_option maxRecDepth 20000 in
theorem ggX10_readOrder_X10_takes0 : GoodIn wsX10_readOrder wsX10_takes0 := wd_c vW10_ok mvW10_195
set_option maxRecDepth 20000 in
theorem gX10_readOrder_X10_takes0 : GoodIn wsX10_readOrder (wsV RX10 199 RX10 yX10_takes0 wsX10_takes0) := goodIn_app (wd_l vW10_ok _ pvW10_161) ggX10_readOrder_X10_takes0
set_option maxRecDepth 20000 in
theorem ggX10_readOrder_X10_readSum : GoodIn wsX10_readOrder wsX10_readSum := wd_c vW10_ok mvW10_203
set_option maxRecDepth 20000 in
theorem gX10_readOrder_X10_readSum : GoodIn wsX10_readOrder (wsV RX10 208 RX10 yX10_readSum wsX10_readSum) := goodIn_app (wd_l vW10_ok _ pvW10_163) ggX10_readOrder_X10_readSum
set_option maxRecDepth 20000 in
theorem ggX10_readOrder_X10_must : GoodIn wsX10_readOrder wsX10_must := wd_c vW10_ok mvW10_215
set_option maxRecDepth 20000 in
theorem gX10_readOrder_X10_must : GoodIn wsX10_readOrder (wsV RX10 212 RX10 yX10_must wsX10_must) := goodIn_app (wd_l vW10_ok _ pvW10_164) ggX10_readOrder_X10_must
set_option maxRecDepth 20000 in
theorem ggX10_readOrder_X10_mustNumber : GoodIn wsX10_readOrder wsX10_mustNumber := wd_c vW10_ok mvW10_223
set_option maxRecDepth 20000 in
theorem gX10_readOrder_X10_mustNumber : GoodIn wsX10_readOrder (wsV RX10 218 RX10 yX10_mustNumber wsX10_mustNumber) := goodIn_app (wd_l vW10_ok _ pvW10_166) ggX10_readOrder_X10_mustNumber
set_option maxRecDepth 20000 in
theorem ggX10_readOrder_X10_readTest : GoodIn wsX10_readOrder wsX10_readTest := wd_c vW10_ok mvW10_231
set_option maxRecDepth 20000 in
theorem gX10_readOrder_X10_readTest : GoodIn wsX10_readOrder (wsV RX10 215 RX10 yX10_readTest wsX10_readTest) := goodIn_app (wd_l vW10_ok _ pvW10_165) ggX10_readOrder_X10_readTest
theorem da9_dX10_readOrder_0 : (decode cX10_readOrder 0 = .ok (.aload_n 0, 1)) ∧ (decode cX10_readOrder 1 = .ok (.bipush 22, 2)) ∧ (decode cX10_readOrder 3 = .ok (.invokevirtual 199, 3)) ∧ (decode cX10_readOrder 6 = .ok (.ifCond .ne 21, 3)) ∧ (decode cX10_readOrder 9 = .ok (.aload_n 0, 1)) ∧ (decode cX10_readOrder 10 = .ok (.bipush 23, 2)) ∧ (decode cX10_readOrder 12 = .ok (.invokevirtual 199, 3)) ∧ (decode cX10_readOrder 15 = .ok (.ifCond .ne 12, 3)) ∧ (decode cX10_readOrder 18 = .ok (.aload_n 0, 1)) ∧ (decode cX10_readOrder 19 = .ok (.bipush 24, 2)) ∧ (decode cX10_readOrder 21 = .ok (.invokevirtual 199, 3)) ∧ (decode cX10_readOrder 24 = .ok (.ifCond .eq 11, 3)) ∧ (decode cX10_readOrder 27 = .ok (.aload_n 0, 1)) ∧ (decode cX10_readOrder 28 = .ok (.iconst 0, 1)) ∧ (decode cX10_readOrder 29 = .ok (.invokevirtual 208, 3)) ∧ (decode cX10_readOrder 32 = .ok (.goto 9, 3)) := by decide +kernel
theorem dX10_readOrder_0 : decode cX10_readOrder 0 = .ok (.aload_n 0, 1) := da9_dX10_readOrder_0.1
theorem dX10_readOrder_1 : decode cX10_readOrder 1 = .ok (.bipush 22, 2) := da9_dX10_readOrder_0.2.1
theorem dX10_readOrder_3 : decode cX10_readOrder 3 = .ok (.invokevirtual 199, 3) := da9_dX10_readOrder_0.2.2.1
theorem dX10_readOrder_6 : decode cX10_readOrder 6 = .ok (.ifCond .ne 21, 3) := da9_dX10_readOrder_0.2.2.2.1
theorem dX10_readOrder_9 : decode cX10_readOrder 9 = .ok (.aload_n 0, 1) := da9_dX10_readOrder_0.2.2.2.2.1
theorem dX10_readOrder_10 : decode cX10_readOrder 10 = .ok (.bipush 23, 2) := da9_dX10_readOrder_0.2.2.2.2.2.1
theorem dX10_readOrder_12 : decode cX10_readOrder 12 = .ok (.invokevirtual 199, 3) := da9_dX10_readOrder_0.2.2.2.2.2.2.1
theorem dX10_readOrder_15 : decode cX10_readOrder 15 = .ok (.ifCond .ne 12, 3) := da9_dX10_readOrder_0.2.2.2.2.2.2.2.1
theorem dX10_readOrder_18 : decode cX10_readOrder 18 = .ok (.aload_n 0, 1) := da9_dX10_readOrder_0.2.2.2.2.2.2.2.2.1
theorem dX10_readOrder_19 : decode cX10_readOrder 19 = .ok (.bipush 24, 2) := da9_dX10_readOrder_0.2.2.2.2.2.2.2.2.2.1
theorem dX10_readOrder_21 : decode cX10_readOrder 21 = .ok (.invokevirtual 199, 3) := da9_dX10_readOrder_0.2.2.2.2.2.2.2.2.2.2.1
theorem dX10_readOrder_24 : decode cX10_readOrder 24 = .ok (.ifCond .eq 11, 3) := da9_dX10_readOrder_0.2.2.2.2.2.2.2.2.2.2.2.1
theorem dX10_readOrder_27 : decode cX10_readOrder 27 = .ok (.aload_n 0, 1) := da9_dX10_readOrder_0.2.2.2.2.2.2.2.2.2.2.2.2.1
theorem dX10_readOrder_28 : decode cX10_readOrder 28 = .ok (.iconst 0, 1) := da9_dX10_readOrder_0.2.2.2.2.2.2.2.2.2.2.2.2.2.1
theorem dX10_readOrder_29 : decode cX10_readOrder 29 = .ok (.invokevirtual 208, 3) := da9_dX10_readOrder_0.2.2.2.2.2.2.2.2.2.2.2.2.2.2.1
theorem dX10_readOrder_32 : decode cX10_readOrder 32 = .ok (.goto 9, 3) := da9_dX10_readOrder_0.2.2.2.2.2.2.2.2.2.2.2.2.2.2.2
theorem da9_dX10_readOrder_35 : (decode cX10_readOrder 35 = .ok (.aload_n 0, 1)) ∧ (decode cX10_readOrder 36 = .ok (.bipush 25, 2)) ∧ (decode cX10_readOrder 38 = .ok (.invokevirtual 212, 3)) ∧ (decode cX10_readOrder 41 = .ok (.aload_n 0, 1)) ∧ (decode cX10_readOrder 42 = .ok (.bipush 26, 2)) ∧ (decode cX10_readOrder 44 = .ok (.invokevirtual 199, 3)) ∧ (decode cX10_readOrder 47 = .ok (.ifCond .eq 10, 3)) ∧ (decode cX10_readOrder 50 = .ok (.aload_n 0, 1)) ∧ (decode cX10_readOrder 51 = .ok (.iconst 1, 1)) ∧ (decode cX10_readOrder 52 = .ok (.bipush 20, 2)) ∧ (decode cX10_readOrder 54 = .ok (.invokevirtual 218, 3)) ∧ (decode cX10_readOrder 57 = .ok (.aload_n 0, 1)) ∧ (decode cX10_readOrder 58 = .ok (.iconst 4, 1)) ∧ (decode cX10_readOrder 59 = .ok (.invokevirtual 199, 3)) ∧ (decode cX10_readOrder 62 = .ok (.ifCond .eq 8, 3)) ∧ (decode cX10_readOrder 65 = .ok (.aload_n 0, 1)) := by decide +kernel
theorem dX10_readOrder_35 : decode cX10_readOrder 35 = .ok (.aload_n 0, 1) := da9_dX10_readOrder_35.1
theorem dX10_readOrder_36 : decode cX10_readOrder 36 = .ok (.bipush 25, 2) := da9_dX10_readOrder_35.2.1
theorem dX10_readOrder_38 : decode cX10_readOrder 38 = .ok (.invokevirtual 212, 3) := da9_dX10_readOrder_35.2.2.1
theorem dX10_readOrder_41 : decode cX10_readOrder 41 = .ok (.aload_n 0, 1) := da9_dX10_readOrder_35.2.2.2.1
theorem dX10_readOrder_42 : decode cX10_readOrder 42 = .ok (.bipush 26, 2) := da9_dX10_readOrder_35.2.2.2.2.1
theorem dX10_readOrder_44 : decode cX10_readOrder 44 = .ok (.invokevirtual 199, 3) := da9_dX10_readOrder_35.2.2.2.2.2.1
theorem dX10_readOrder_47 : decode cX10_readOrder 47 = .ok (.ifCond .eq 10, 3) := da9_dX10_readOrder_35.2.2.2.2.2.2.1
theorem dX10_readOrder_50 : decode cX10_readOrder 50 = .ok (.aload_n 0, 1) := da9_dX10_readOrder_35.2.2.2.2.2.2.2.1
theorem dX10_readOrder_51 : decode cX10_readOrder 51 = .ok (.iconst 1, 1) := da9_dX10_readOrder_35.2.2.2.2.2.2.2.2.1
theorem dX10_readOrder_52 : decode cX10_readOrder 52 = .ok (.bipush 20, 2) := da9_dX10_readOrder_35.2.2.2.2.2.2.2.2.2.1
theorem dX10_readOrder_54 : decode cX10_readOrder 54 = .ok (.invokevirtual 218, 3) := da9_dX10_readOrder_35.2.2.2.2.2.2.2.2.2.2.1
theorem dX10_readOrder_57 : decode cX10_readOrder 57 = .ok (.aload_n 0, 1) := da9_dX10_readOrder_35.2.2.2.2.2.2.2.2.2.2.2.1
theorem dX10_readOrder_58 : decode cX10_readOrder 58 = .ok (.iconst 4, 1) := da9_dX10_readOrder_35.2.2.2.2.2.2.2.2.2.2.2.2.1
theorem dX10_readOrder_59 : decode cX10_readOrder 59 = .ok (.invokevirtual 199, 3) := da9_dX10_readOrder_35.2.2.2.2.2.2.2.2.2.2.2.2.2.1
theorem dX10_readOrder_62 : decode cX10_readOrder 62 = .ok (.ifCond .eq 8, 3) := da9_dX10_readOrder_35.2.2.2.2.2.2.2.2.2.2.2.2.2.2.1
theorem dX10_readOrder_65 : decode cX10_readOrder 65 = .ok (.aload_n 0, 1) := da9_dX10_readOrder_35.2.2.2.2.2.2.2.2.2.2.2.2.2.2.2
theorem da9_dX10_readOrder_66 : (decode cX10_readOrder 66 = .ok (.iconst 0, 1)) ∧ (decode cX10_readOrder 67 = .ok (.invokevirtual 215, 3)) ∧ (decode cX10_readOrder 70 = .ok (.return_, 1)) := by decide +kernel
theorem dX10_readOrder_66 : decode cX10_readOrder 66 = .ok (.iconst 0, 1) := da9_dX10_readOrder_66.1
theorem dX10_readOrder_67 : decode cX10_readOrder 67 = .ok (.invokevirtual 215, 3) := da9_dX10_readOrder_66.2.1
theorem dX10_readOrder_70 : decode cX10_readOrder 70 = .ok (.return_, 1) := da9_dX10_readOrder_66.2.2
set_option maxRecDepth 20000 in
theorem ggX10_readOne_X10_readOrder : GoodIn wsX10_readOne wsX10_readOrder := wd_c vW10_ok mvW10_191
set_option maxRecDepth 20000 in
theorem gX10_readOne_X10_readOrder : GoodIn wsX10_readOne (wsV RX10 225 RX10 yX10_readOrder wsX10_readOrder) := goodIn_app (wd_l vW10_ok _ pvW10_167) ggX10_readOne_X10_readOrder
set_option maxRecDepth 20000 in
theorem ggX10_readOne_X10_readClause : GoodIn wsX10_readOne wsX10_readClause := wd_c vW10_ok mvW10_243
set_option maxRecDepth 20000 in
theorem gX10_readOne_X10_readClause : GoodIn wsX10_readOne (wsV RX10 228 RX10 yX10_readClause wsX10_readClause) := goodIn_app (wd_l vW10_ok _ pvW10_168) ggX10_readOne_X10_readClause
theorem da9_dX10_readOne_0 : (decode cX10_readOne 0 = .ok (.aload_n 0, 1)) ∧ (decode cX10_readOne 1 = .ok (.getfield 221, 3)) ∧ (decode cX10_readOne 4 = .ok (.ifCond .eq 10, 3)) ∧ (decode cX10_readOne 7 = .ok (.aload_n 0, 1)) ∧ (decode cX10_readOne 8 = .ok (.invokevirtual 225, 3)) ∧ (decode cX10_readOne 11 = .ok (.goto 7, 3)) ∧ (decode cX10_readOne 14 = .ok (.aload_n 0, 1)) ∧ (decode cX10_readOne 15 = .ok (.invokevirtual 228, 3)) ∧ (decode cX10_readOne 18 = .ok (.return_, 1)) := by decide +kernel
theorem dX10_readOne_0 : decode cX10_readOne 0 = .ok (.aload_n 0, 1) := da9_dX10_readOne_0.1
theorem dX10_readOne_1 : decode cX10_readOne 1 = .ok (.getfield 221, 3) := da9_dX10_readOne_0.2.1
theorem dX10_readOne_4 : decode cX10_readOne 4 = .ok (.ifCond .eq 10, 3) := da9_dX10_readOne_0.2.2.1
theorem dX10_readOne_7 : decode cX10_readOne 7 = .ok (.aload_n 0, 1) := da9_dX10_readOne_0.2.2.2.1
theorem dX10_readOne_8 : decode cX10_readOne 8 = .ok (.invokevirtual 225, 3) := da9_dX10_readOne_0.2.2.2.2.1
theorem dX10_readOne_11 : decode cX10_readOne 11 = .ok (.goto 7, 3) := da9_dX10_readOne_0.2.2.2.2.2.1
theorem dX10_readOne_14 : decode cX10_readOne 14 = .ok (.aload_n 0, 1) := da9_dX10_readOne_0.2.2.2.2.2.2.1
theorem dX10_readOne_15 : decode cX10_readOne 15 = .ok (.invokevirtual 228, 3) := da9_dX10_readOne_0.2.2.2.2.2.2.2.1
theorem dX10_readOne_18 : decode cX10_readOne 18 = .ok (.return_, 1) := da9_dX10_readOne_0.2.2.2.2.2.2.2.2
set_option maxRecDepth 20000 in
theorem ggX10_reads_X10_splits : GoodIn wsX10_reads wsX10_splits := wd_c vW10_ok mvW10_168
set_option maxRecDepth 20000 in
theorem gX10_reads_X10_splits : GoodIn wsX10_reads (wsV RX10 256 RX10 yX10_splits wsX10_splits) := goodIn_app (wd_l vW10_ok _ pvW10_175) ggX10_reads_X10_splits
set_option maxRecDepth 20000 in
theorem ggX10_reads_X10_readOne : GoodIn wsX10_reads wsX10_readOne := wd_c vW10_ok mvW10_187
set_option maxRecDepth 20000 in
theorem gX10_reads_X10_readOne : GoodIn wsX10_reads (wsV RX10 259 RX10 yX10_readOne wsX10_readOne) := goodIn_app (wd_l vW10_ok _ pvW10_176) ggX10_reads_X10_readOne
set_option maxRecDepth 20000 in
theorem ggX10_reads_X10_sign : GoodIn wsX10_reads wsX10_sign := wd_c vW10_ok mvW10_81
set_option maxRecDepth 20000 in
theorem gX10_reads_X10_sign : GoodIn wsX10_reads (va_wsS RX10 237 yX10_sign wsX10_sign) := goodIn_app (wd_l vW10_ok _ pvW10_171) ggX10_reads_X10_sign
set_option maxRecDepth 20000 in
theorem ggX10_reads_X10_takes0 : GoodIn wsX10_reads wsX10_takes0 := wd_c vW10_ok mvW10_195
set_option maxRecDepth 20000 in
theorem gX10_reads_X10_takes0 : GoodIn wsX10_reads (wsV RX10 199 RX10 yX10_takes0 wsX10_takes0) := goodIn_app (wd_l vW10_ok _ pvW10_161) ggX10_reads_X10_takes0
set_option maxRecDepth 20000 in
theorem ggX10_reads_X10_faults : GoodIn wsX10_reads wsX10_faults := wd_c vW10_ok mvW10_211
set_option maxRecDepth 20000 in
theorem gX10_reads_X10_faults : GoodIn wsX10_reads (wsV RX10 202 RX10 yX10_faults wsX10_faults) := goodIn_app (wd_l vW10_ok _ pvW10_162) ggX10_reads_X10_faults
set_option maxRecDepth 20000 in
theorem ggX10_reads_X10_fine : GoodIn wsX10_reads wsX10_fine := wd_c vW10_ok mvW10_199
set_option maxRecDepth 20000 in
theorem gX10_reads_X10_fine : GoodIn wsX10_reads (wsV RX10 192 RX10 yX10_fine wsX10_fine) := goodIn_app (wd_l vW10_ok _ pvW10_160) ggX10_reads_X10_fine
theorem da9_dX10_reads_0 : (decode cX10_reads 0 = .ok (.aload_n 0, 1)) ∧ (decode cX10_reads 1 = .ok (.aload_n 0, 1)) ∧ (decode cX10_reads 2 = .ok (.getfield 169, 3)) ∧ (decode cX10_reads 5 = .ok (.invokevirtual 256, 3)) ∧ (decode cX10_reads 8 = .ok (.aload_n 0, 1)) ∧ (decode cX10_reads 9 = .ok (.iconst 0, 1)) ∧ (decode cX10_reads 10 = .ok (.putfield 169, 3)) ∧ (decode cX10_reads 13 = .ok (.aload_n 0, 1)) ∧ (decode cX10_reads 14 = .ok (.iconst 0, 1)) ∧ (decode cX10_reads 15 = .ok (.putfield 196, 3)) ∧ (decode cX10_reads 18 = .ok (.aload_n 0, 1)) ∧ (decode cX10_reads 19 = .ok (.iconst 0, 1)) ∧ (decode cX10_reads 20 = .ok (.putfield 205, 3)) ∧ (decode cX10_reads 23 = .ok (.aload_n 0, 1)) ∧ (decode cX10_reads 24 = .ok (.iconst (-1), 1)) ∧ (decode cX10_reads 25 = .ok (.putfield 189, 3)) := by decide +kernel
theorem dX10_reads_0 : decode cX10_reads 0 = .ok (.aload_n 0, 1) := da9_dX10_reads_0.1
theorem dX10_reads_1 : decode cX10_reads 1 = .ok (.aload_n 0, 1) := da9_dX10_reads_0.2.1
theorem dX10_reads_2 : decode cX10_reads 2 = .ok (.getfield 169, 3) := da9_dX10_reads_0.2.2.1
theorem dX10_reads_5 : decode cX10_reads 5 = .ok (.invokevirtual 256, 3) := da9_dX10_reads_0.2.2.2.1
theorem dX10_reads_8 : decode cX10_reads 8 = .ok (.aload_n 0, 1) := da9_dX10_reads_0.2.2.2.2.1
theorem dX10_reads_9 : decode cX10_reads 9 = .ok (.iconst 0, 1) := da9_dX10_reads_0.2.2.2.2.2.1
theorem dX10_reads_10 : decode cX10_reads 10 = .ok (.putfield 169, 3) := da9_dX10_reads_0.2.2.2.2.2.2.1
theorem dX10_reads_13 : decode cX10_reads 13 = .ok (.aload_n 0, 1) := da9_dX10_reads_0.2.2.2.2.2.2.2.1
theorem dX10_reads_14 : decode cX10_reads 14 = .ok (.iconst 0, 1) := da9_dX10_reads_0.2.2.2.2.2.2.2.2.1
theorem dX10_reads_15 : decode cX10_reads 15 = .ok (.putfield 196, 3) := da9_dX10_reads_0.2.2.2.2.2.2.2.2.2.1
theorem dX10_reads_18 : decode cX10_reads 18 = .ok (.aload_n 0, 1) := da9_dX10_reads_0.2.2.2.2.2.2.2.2.2.2.1
theorem dX10_reads_19 : decode cX10_reads 19 = .ok (.iconst 0, 1) := da9_dX10_reads_0.2.2.2.2.2.2.2.2.2.2.2.1
theorem dX10_reads_20 : decode cX10_reads 20 = .ok (.putfield 205, 3) := da9_dX10_reads_0.2.2.2.2.2.2.2.2.2.2.2.2.1
theorem dX10_reads_23 : decode cX10_reads 23 = .ok (.aload_n 0, 1) := da9_dX10_reads_0.2.2.2.2.2.2.2.2.2.2.2.2.2.1
theorem dX10_reads_24 : decode cX10_reads 24 = .ok (.iconst (-1), 1) := da9_dX10_reads_0.2.2.2.2.2.2.2.2.2.2.2.2.2.2.1
theorem dX10_reads_25 : decode cX10_reads 25 = .ok (.putfield 189, 3) := da9_dX10_reads_0.2.2.2.2.2.2.2.2.2.2.2.2.2.2.2
theorem da9_dX10_reads_28 : (decode cX10_reads 28 = .ok (.aload_n 0, 1)) ∧ (decode cX10_reads 29 = .ok (.invokevirtual 259, 3)) ∧ (decode cX10_reads 32 = .ok (.iconst 1, 1)) ∧ (decode cX10_reads 33 = .ok (.istore_n 1, 1)) ∧ (decode cX10_reads 34 = .ok (.aload_n 0, 1)) ∧ (decode cX10_reads 35 = .ok (.bipush 59, 2)) ∧ (decode cX10_reads 37 = .ok (.invokestatic 237, 3)) ∧ (decode cX10_reads 40 = .ok (.invokevirtual 199, 3)) ∧ (decode cX10_reads 43 = .ok (.ifCond .eq 30, 3)) ∧ (decode cX10_reads 46 = .ok (.iload_n 1, 1)) ∧ (decode cX10_reads 47 = .ok (.bipush 12, 2)) ∧ (decode cX10_reads 49 = .ok (.if_icmp .ne 7, 3)) ∧ (decode cX10_reads 52 = .ok (.aload_n 0, 1)) ∧ (decode cX10_reads 53 = .ok (.invokevirtual 202, 3)) ∧ (decode cX10_reads 56 = .ok (.aload_n 0, 1)) ∧ (decode cX10_reads 57 = .ok (.invokevirtual 192, 3)) := by decide +kernel
theorem dX10_reads_28 : decode cX10_reads 28 = .ok (.aload_n 0, 1) := da9_dX10_reads_28.1
theorem dX10_reads_29 : decode cX10_reads 29 = .ok (.invokevirtual 259, 3) := da9_dX10_reads_28.2.1
theorem dX10_reads_32 : decode cX10_reads 32 = .ok (.iconst 1, 1) := da9_dX10_reads_28.2.2.1
theorem dX10_reads_33 : decode cX10_reads 33 = .ok (.istore_n 1, 1) := da9_dX10_reads_28.2.2.2.1
theorem dX10_reads_34 : decode cX10_reads 34 = .ok (.aload_n 0, 1) := da9_dX10_reads_28.2.2.2.2.1
theorem dX10_reads_35 : decode cX10_reads 35 = .ok (.bipush 59, 2) := da9_dX10_reads_28.2.2.2.2.2.1
theorem dX10_reads_37 : decode cX10_reads 37 = .ok (.invokestatic 237, 3) := da9_dX10_reads_28.2.2.2.2.2.2.1
theorem dX10_reads_40 : decode cX10_reads 40 = .ok (.invokevirtual 199, 3) := da9_dX10_reads_28.2.2.2.2.2.2.2.1
theorem dX10_reads_43 : decode cX10_reads 43 = .ok (.ifCond .eq 30, 3) := da9_dX10_reads_28.2.2.2.2.2.2.2.2.1
theorem dX10_reads_46 : decode cX10_reads 46 = .ok (.iload_n 1, 1) := da9_dX10_reads_28.2.2.2.2.2.2.2.2.2.1
theorem dX10_reads_47 : decode cX10_reads 47 = .ok (.bipush 12, 2) := da9_dX10_reads_28.2.2.2.2.2.2.2.2.2.2.1
theorem dX10_reads_49 : decode cX10_reads 49 = .ok (.if_icmp .ne 7, 3) := da9_dX10_reads_28.2.2.2.2.2.2.2.2.2.2.2.1
theorem dX10_reads_52 : decode cX10_reads 52 = .ok (.aload_n 0, 1) := da9_dX10_reads_28.2.2.2.2.2.2.2.2.2.2.2.2.1
theorem dX10_reads_53 : decode cX10_reads 53 = .ok (.invokevirtual 202, 3) := da9_dX10_reads_28.2.2.2.2.2.2.2.2.2.2.2.2.2.1
theorem dX10_reads_56 : decode cX10_reads 56 = .ok (.aload_n 0, 1) := da9_dX10_reads_28.2.2.2.2.2.2.2.2.2.2.2.2.2.2.1
theorem dX10_reads_57 : decode cX10_reads 57 = .ok (.invokevirtual 192, 3) := da9_dX10_reads_28.2.2.2.2.2.2.2.2.2.2.2.2.2.2.2
theorem da9_dX10_reads_60 : (decode cX10_reads 60 = .ok (.ifCond .eq 7, 3)) ∧ (decode cX10_reads 63 = .ok (.aload_n 0, 1)) ∧ (decode cX10_reads 64 = .ok (.invokevirtual 259, 3)) ∧ (decode cX10_reads 67 = .ok (.iinc 1 1, 3)) ∧ (decode cX10_reads 70 = .ok (.goto (-36), 3)) ∧ (decode cX10_reads 73 = .ok (.aload_n 0, 1)) ∧ (decode cX10_reads 74 = .ok (.invokevirtual 192, 3)) ∧ (decode cX10_reads 77 = .ok (.ifCond .eq 18, 3)) ∧ (decode cX10_reads 80 = .ok (.aload_n 0, 1)) ∧ (decode cX10_reads 81 = .ok (.getfield 196, 3)) ∧ (decode cX10_reads 84 = .ok (.aload_n 0, 1)) ∧ (decode cX10_reads 85 = .ok (.getfield 175, 3)) ∧ (decode cX10_reads 88 = .ok (.if_icmp .ge 7, 3)) ∧ (decode cX10_reads 91 = .ok (.aload_n 0, 1)) ∧ (decode cX10_reads 92 = .ok (.invokevirtual 202, 3)) ∧ (decode cX10_reads 95 = .ok (.aload_n 0, 1)) := by decide +kernel
theorem dX10_reads_60 : decode cX10_reads 60 = .ok (.ifCond .eq 7, 3) := da9_dX10_reads_60.1
theorem dX10_reads_63 : decode cX10_reads 63 = .ok (.aload_n 0, 1) := da9_dX10_reads_60.2.1
theorem dX10_reads_64 : decode cX10_reads 64 = .ok (.invokevirtual 259, 3) := da9_dX10_reads_60.2.2.1
theorem dX10_reads_67 : decode cX10_reads 67 = .ok (.iinc 1 1, 3) := da9_dX10_reads_60.2.2.2.1
theorem dX10_reads_70 : decode cX10_reads 70 = .ok (.goto (-36), 3) := da9_dX10_reads_60.2.2.2.2.1
theorem dX10_reads_73 : decode cX10_reads 73 = .ok (.aload_n 0, 1) := da9_dX10_reads_60.2.2.2.2.2.1
theorem dX10_reads_74 : decode cX10_reads 74 = .ok (.invokevirtual 192, 3) := da9_dX10_reads_60.2.2.2.2.2.2.1
theorem dX10_reads_77 : decode cX10_reads 77 = .ok (.ifCond .eq 18, 3) := da9_dX10_reads_60.2.2.2.2.2.2.2.1
theorem dX10_reads_80 : decode cX10_reads 80 = .ok (.aload_n 0, 1) := da9_dX10_reads_60.2.2.2.2.2.2.2.2.1
theorem dX10_reads_81 : decode cX10_reads 81 = .ok (.getfield 196, 3) := da9_dX10_reads_60.2.2.2.2.2.2.2.2.2.1
theorem dX10_reads_84 : decode cX10_reads 84 = .ok (.aload_n 0, 1) := da9_dX10_reads_60.2.2.2.2.2.2.2.2.2.2.1
theorem dX10_reads_85 : decode cX10_reads 85 = .ok (.getfield 175, 3) := da9_dX10_reads_60.2.2.2.2.2.2.2.2.2.2.2.1
theorem dX10_reads_88 : decode cX10_reads 88 = .ok (.if_icmp .ge 7, 3) := da9_dX10_reads_60.2.2.2.2.2.2.2.2.2.2.2.2.1
theorem dX10_reads_91 : decode cX10_reads 91 = .ok (.aload_n 0, 1) := da9_dX10_reads_60.2.2.2.2.2.2.2.2.2.2.2.2.2.1
theorem dX10_reads_92 : decode cX10_reads 92 = .ok (.invokevirtual 202, 3) := da9_dX10_reads_60.2.2.2.2.2.2.2.2.2.2.2.2.2.2.1
theorem dX10_reads_95 : decode cX10_reads 95 = .ok (.aload_n 0, 1) := da9_dX10_reads_60.2.2.2.2.2.2.2.2.2.2.2.2.2.2.2
theorem da9_dX10_reads_96 : (decode cX10_reads 96 = .ok (.aload_n 0, 1)) ∧ (decode cX10_reads 97 = .ok (.getfield 189, 3)) ∧ (decode cX10_reads 100 = .ok (.putfield 51, 3)) ∧ (decode cX10_reads 103 = .ok (.aload_n 0, 1)) ∧ (decode cX10_reads 104 = .ok (.invokevirtual 192, 3)) ∧ (decode cX10_reads 107 = .ok (.ireturn, 1)) := by decide +kernel
theorem dX10_reads_96 : decode cX10_reads 96 = .ok (.aload_n 0, 1) := da9_dX10_reads_96.1
theorem dX10_reads_97 : decode cX10_reads 97 = .ok (.getfield 189, 3) := da9_dX10_reads_96.2.1
theorem dX10_reads_100 : decode cX10_reads 100 = .ok (.putfield 51, 3) := da9_dX10_reads_96.2.2.1
theorem dX10_reads_103 : decode cX10_reads 103 = .ok (.aload_n 0, 1) := da9_dX10_reads_96.2.2.2.1
theorem dX10_reads_104 : decode cX10_reads 104 = .ok (.invokevirtual 192, 3) := da9_dX10_reads_96.2.2.2.2.1
theorem dX10_reads_107 : decode cX10_reads 107 = .ok (.ireturn, 1) := da9_dX10_reads_96.2.2.2.2.2
set_option maxRecDepth 20000 in
theorem ggX10_readsAs_X10_reads : GoodIn wsX10_readsAs wsX10_reads := wd_c vW10_ok mvW10_159
set_option maxRecDepth 20000 in
theorem gX10_readsAs_X10_reads : GoodIn wsX10_readsAs (wsV RX10 262 RX10 yX10_reads wsX10_reads) := goodIn_app (wd_l vW10_ok _ pvW10_177) ggX10_readsAs_X10_reads
theorem da9_dX10_readsAs_0 : (decode cX10_readsAs 0 = .ok (.aload_n 0, 1)) ∧ (decode cX10_readsAs 1 = .ok (.iload_n 1, 1)) ∧ (decode cX10_readsAs 2 = .ok (.putfield 221, 3)) ∧ (decode cX10_readsAs 5 = .ok (.aload_n 0, 1)) ∧ (decode cX10_readsAs 6 = .ok (.iload_n 1, 1)) ∧ (decode cX10_readsAs 7 = .ok (.ifCond .eq 8, 3)) ∧ (decode cX10_readsAs 10 = .ok (.bipush 15, 2)) ∧ (decode cX10_readsAs 12 = .ok (.goto 5, 3)) ∧ (decode cX10_readsAs 15 = .ok (.bipush 8, 2)) ∧ (decode cX10_readsAs 17 = .ok (.putfield 247, 3)) ∧ (decode cX10_readsAs 20 = .ok (.aload_n 0, 1)) ∧ (decode cX10_readsAs 21 = .ok (.iload_n 1, 1)) ∧ (decode cX10_readsAs 22 = .ok (.ifCond .eq 8, 3)) ∧ (decode cX10_readsAs 25 = .ok (.bipush 21, 2)) ∧ (decode cX10_readsAs 27 = .ok (.goto 5, 3)) ∧ (decode cX10_readsAs 30 = .ok (.bipush 16, 2)) := by decide +kernel
theorem dX10_readsAs_0 : decode cX10_readsAs 0 = .ok (.aload_n 0, 1) := da9_dX10_readsAs_0.1
theorem dX10_readsAs_1 : decode cX10_readsAs 1 = .ok (.iload_n 1, 1) := da9_dX10_readsAs_0.2.1
theorem dX10_readsAs_2 : decode cX10_readsAs 2 = .ok (.putfield 221, 3) := da9_dX10_readsAs_0.2.2.1
theorem dX10_readsAs_5 : decode cX10_readsAs 5 = .ok (.aload_n 0, 1) := da9_dX10_readsAs_0.2.2.2.1
theorem dX10_readsAs_6 : decode cX10_readsAs 6 = .ok (.iload_n 1, 1) := da9_dX10_readsAs_0.2.2.2.2.1
theorem dX10_readsAs_7 : decode cX10_readsAs 7 = .ok (.ifCond .eq 8, 3) := da9_dX10_readsAs_0.2.2.2.2.2.1
theorem dX10_readsAs_10 : decode cX10_readsAs 10 = .ok (.bipush 15, 2) := da9_dX10_readsAs_0.2.2.2.2.2.2.1
theorem dX10_readsAs_12 : decode cX10_readsAs 12 = .ok (.goto 5, 3) := da9_dX10_readsAs_0.2.2.2.2.2.2.2.1
theorem dX10_readsAs_15 : decode cX10_readsAs 15 = .ok (.bipush 8, 2) := da9_dX10_readsAs_0.2.2.2.2.2.2.2.2.1
theorem dX10_readsAs_17 : decode cX10_readsAs 17 = .ok (.putfield 247, 3) := da9_dX10_readsAs_0.2.2.2.2.2.2.2.2.2.1
theorem dX10_readsAs_20 : decode cX10_readsAs 20 = .ok (.aload_n 0, 1) := da9_dX10_readsAs_0.2.2.2.2.2.2.2.2.2.2.1
theorem dX10_readsAs_21 : decode cX10_readsAs 21 = .ok (.iload_n 1, 1) := da9_dX10_readsAs_0.2.2.2.2.2.2.2.2.2.2.2.1
theorem dX10_readsAs_22 : decode cX10_readsAs 22 = .ok (.ifCond .eq 8, 3) := da9_dX10_readsAs_0.2.2.2.2.2.2.2.2.2.2.2.2.1
theorem dX10_readsAs_25 : decode cX10_readsAs 25 = .ok (.bipush 21, 2) := da9_dX10_readsAs_0.2.2.2.2.2.2.2.2.2.2.2.2.2.1
theorem dX10_readsAs_27 : decode cX10_readsAs 27 = .ok (.goto 5, 3) := da9_dX10_readsAs_0.2.2.2.2.2.2.2.2.2.2.2.2.2.2.1
theorem dX10_readsAs_30 : decode cX10_readsAs 30 = .ok (.bipush 16, 2) := da9_dX10_readsAs_0.2.2.2.2.2.2.2.2.2.2.2.2.2.2.2
theorem da9_dX10_readsAs_32 : (decode cX10_readsAs 32 = .ok (.putfield 250, 3)) ∧ (decode cX10_readsAs 35 = .ok (.aload_n 0, 1)) ∧ (decode cX10_readsAs 36 = .ok (.invokevirtual 262, 3)) ∧ (decode cX10_readsAs 39 = .ok (.ireturn, 1)) := by decide +kernel
theorem dX10_readsAs_32 : decode cX10_readsAs 32 = .ok (.putfield 250, 3) := da9_dX10_readsAs_32.1
theorem dX10_readsAs_35 : decode cX10_readsAs 35 = .ok (.aload_n 0, 1) := da9_dX10_readsAs_32.2.1
theorem dX10_readsAs_36 : decode cX10_readsAs 36 = .ok (.invokevirtual 262, 3) := da9_dX10_readsAs_32.2.2.1
theorem dX10_readsAs_39 : decode cX10_readsAs 39 = .ok (.ireturn, 1) := da9_dX10_readsAs_32.2.2.2
theorem da9_dX10_lays_0 : (decode cX10_lays 0 = .ok (.aload_n 0, 1)) ∧ (decode cX10_lays 1 = .ok (.getfield 28, 3)) ∧ (decode cX10_lays 4 = .ok (.bipush 33, 2)) ∧ (decode cX10_lays 6 = .ok (.iload_n 1, 1)) ∧ (decode cX10_lays 7 = .ok (.iadd, 1)) ∧ (decode cX10_lays 8 = .ok (.aload_n 0, 1)) ∧ (decode cX10_lays 9 = .ok (.getfield 175, 3)) ∧ (decode cX10_lays 12 = .ok (.iastore, 1)) ∧ (decode cX10_lays 13 = .ok (.iconst 0, 1)) ∧ (decode cX10_lays 14 = .ok (.istore_n 2, 1)) ∧ (decode cX10_lays 15 = .ok (.iload_n 2, 1)) ∧ (decode cX10_lays 16 = .ok (.aload_n 0, 1)) ∧ (decode cX10_lays 17 = .ok (.getfield 175, 3)) ∧ (decode cX10_lays 20 = .ok (.if_icmp .ge 52, 3)) ∧ (decode cX10_lays 23 = .ok (.aload_n 0, 1)) ∧ (decode cX10_lays 24 = .ok (.getfield 28, 3)) := by decide +kernel
theorem dX10_lays_0 : decode cX10_lays 0 = .ok (.aload_n 0, 1) := da9_dX10_lays_0.1
theorem dX10_lays_1 : decode cX10_lays 1 = .ok (.getfield 28, 3) := da9_dX10_lays_0.2.1
theorem dX10_lays_4 : decode cX10_lays 4 = .ok (.bipush 33, 2) := da9_dX10_lays_0.2.2.1
theorem dX10_lays_6 : decode cX10_lays 6 = .ok (.iload_n 1, 1) := da9_dX10_lays_0.2.2.2.1
theorem dX10_lays_7 : decode cX10_lays 7 = .ok (.iadd, 1) := da9_dX10_lays_0.2.2.2.2.1
theorem dX10_lays_8 : decode cX10_lays 8 = .ok (.aload_n 0, 1) := da9_dX10_lays_0.2.2.2.2.2.1
theorem dX10_lays_9 : decode cX10_lays 9 = .ok (.getfield 175, 3) := da9_dX10_lays_0.2.2.2.2.2.2.1
theorem dX10_lays_12 : decode cX10_lays 12 = .ok (.iastore, 1) := da9_dX10_lays_0.2.2.2.2.2.2.2.1
theorem dX10_lays_13 : decode cX10_lays 13 = .ok (.iconst 0, 1) := da9_dX10_lays_0.2.2.2.2.2.2.2.2.1
theorem dX10_lays_14 : decode cX10_lays 14 = .ok (.istore_n 2, 1) := da9_dX10_lays_0.2.2.2.2.2.2.2.2.2.1
theorem dX10_lays_15 : decode cX10_lays 15 = .ok (.iload_n 2, 1) := da9_dX10_lays_0.2.2.2.2.2.2.2.2.2.2.1
theorem dX10_lays_16 : decode cX10_lays 16 = .ok (.aload_n 0, 1) := da9_dX10_lays_0.2.2.2.2.2.2.2.2.2.2.2.1
theorem dX10_lays_17 : decode cX10_lays 17 = .ok (.getfield 175, 3) := da9_dX10_lays_0.2.2.2.2.2.2.2.2.2.2.2.2.1
theorem dX10_lays_20 : decode cX10_lays 20 = .ok (.if_icmp .ge 52, 3) := da9_dX10_lays_0.2.2.2.2.2.2.2.2.2.2.2.2.2.1
theorem dX10_lays_23 : decode cX10_lays 23 = .ok (.aload_n 0, 1) := da9_dX10_lays_0.2.2.2.2.2.2.2.2.2.2.2.2.2.2.1
theorem dX10_lays_24 : decode cX10_lays 24 = .ok (.getfield 28, 3) := da9_dX10_lays_0.2.2.2.2.2.2.2.2.2.2.2.2.2.2.2
theorem da9_dX10_lays_27 : (decode cX10_lays 27 = .ok (.bipush 40, 2)) ∧ (decode cX10_lays 29 = .ok (.sipush 400, 3)) ∧ (decode cX10_lays 32 = .ok (.iload_n 1, 1)) ∧ (decode cX10_lays 33 = .ok (.imul, 1)) ∧ (decode cX10_lays 34 = .ok (.iadd, 1)) ∧ (decode cX10_lays 35 = .ok (.iload_n 2, 1)) ∧ (decode cX10_lays 36 = .ok (.iadd, 1)) ∧ (decode cX10_lays 37 = .ok (.aload_n 0, 1)) ∧ (decode cX10_lays 38 = .ok (.getfield 54, 3)) ∧ (decode cX10_lays 41 = .ok (.iload_n 2, 1)) ∧ (decode cX10_lays 42 = .ok (.iaload, 1)) ∧ (decode cX10_lays 43 = .ok (.iastore, 1)) ∧ (decode cX10_lays 44 = .ok (.aload_n 0, 1)) ∧ (decode cX10_lays 45 = .ok (.getfield 28, 3)) ∧ (decode cX10_lays 48 = .ok (.sipush 2840, 3)) ∧ (decode cX10_lays 51 = .ok (.sipush 400, 3)) := by decide +kernel
theorem dX10_lays_27 : decode cX10_lays 27 = .ok (.bipush 40, 2) := da9_dX10_lays_27.1
theorem dX10_lays_29 : decode cX10_lays 29 = .ok (.sipush 400, 3) := da9_dX10_lays_27.2.1
theorem dX10_lays_32 : decode cX10_lays 32 = .ok (.iload_n 1, 1) := da9_dX10_lays_27.2.2.1
theorem dX10_lays_33 : decode cX10_lays 33 = .ok (.imul, 1) := da9_dX10_lays_27.2.2.2.1
theorem dX10_lays_34 : decode cX10_lays 34 = .ok (.iadd, 1) := da9_dX10_lays_27.2.2.2.2.1
theorem dX10_lays_35 : decode cX10_lays 35 = .ok (.iload_n 2, 1) := da9_dX10_lays_27.2.2.2.2.2.1
theorem dX10_lays_36 : decode cX10_lays 36 = .ok (.iadd, 1) := da9_dX10_lays_27.2.2.2.2.2.2.1
theorem dX10_lays_37 : decode cX10_lays 37 = .ok (.aload_n 0, 1) := da9_dX10_lays_27.2.2.2.2.2.2.2.1
theorem dX10_lays_38 : decode cX10_lays 38 = .ok (.getfield 54, 3) := da9_dX10_lays_27.2.2.2.2.2.2.2.2.1
theorem dX10_lays_41 : decode cX10_lays 41 = .ok (.iload_n 2, 1) := da9_dX10_lays_27.2.2.2.2.2.2.2.2.2.1
theorem dX10_lays_42 : decode cX10_lays 42 = .ok (.iaload, 1) := da9_dX10_lays_27.2.2.2.2.2.2.2.2.2.2.1
theorem dX10_lays_43 : decode cX10_lays 43 = .ok (.iastore, 1) := da9_dX10_lays_27.2.2.2.2.2.2.2.2.2.2.2.1
theorem dX10_lays_44 : decode cX10_lays 44 = .ok (.aload_n 0, 1) := da9_dX10_lays_27.2.2.2.2.2.2.2.2.2.2.2.2.1
theorem dX10_lays_45 : decode cX10_lays 45 = .ok (.getfield 28, 3) := da9_dX10_lays_27.2.2.2.2.2.2.2.2.2.2.2.2.2.1
theorem dX10_lays_48 : decode cX10_lays 48 = .ok (.sipush 2840, 3) := da9_dX10_lays_27.2.2.2.2.2.2.2.2.2.2.2.2.2.2.1
theorem dX10_lays_51 : decode cX10_lays 51 = .ok (.sipush 400, 3) := da9_dX10_lays_27.2.2.2.2.2.2.2.2.2.2.2.2.2.2.2
theorem da9_dX10_lays_54 : (decode cX10_lays 54 = .ok (.iload_n 1, 1)) ∧ (decode cX10_lays 55 = .ok (.imul, 1)) ∧ (decode cX10_lays 56 = .ok (.iadd, 1)) ∧ (decode cX10_lays 57 = .ok (.iload_n 2, 1)) ∧ (decode cX10_lays 58 = .ok (.iadd, 1)) ∧ (decode cX10_lays 59 = .ok (.aload_n 0, 1)) ∧ (decode cX10_lays 60 = .ok (.getfield 57, 3)) ∧ (decode cX10_lays 63 = .ok (.iload_n 2, 1)) ∧ (decode cX10_lays 64 = .ok (.iaload, 1)) ∧ (decode cX10_lays 65 = .ok (.iastore, 1)) ∧ (decode cX10_lays 66 = .ok (.iinc 2 1, 3)) ∧ (decode cX10_lays 69 = .ok (.goto (-54), 3)) ∧ (decode cX10_lays 72 = .ok (.return_, 1)) := by decide +kernel
theorem dX10_lays_54 : decode cX10_lays 54 = .ok (.iload_n 1, 1) := da9_dX10_lays_54.1
theorem dX10_lays_55 : decode cX10_lays 55 = .ok (.imul, 1) := da9_dX10_lays_54.2.1
theorem dX10_lays_56 : decode cX10_lays 56 = .ok (.iadd, 1) := da9_dX10_lays_54.2.2.1
theorem dX10_lays_57 : decode cX10_lays 57 = .ok (.iload_n 2, 1) := da9_dX10_lays_54.2.2.2.1
theorem dX10_lays_58 : decode cX10_lays 58 = .ok (.iadd, 1) := da9_dX10_lays_54.2.2.2.2.1
theorem dX10_lays_59 : decode cX10_lays 59 = .ok (.aload_n 0, 1) := da9_dX10_lays_54.2.2.2.2.2.1
theorem dX10_lays_60 : decode cX10_lays 60 = .ok (.getfield 57, 3) := da9_dX10_lays_54.2.2.2.2.2.2.1
theorem dX10_lays_63 : decode cX10_lays 63 = .ok (.iload_n 2, 1) := da9_dX10_lays_54.2.2.2.2.2.2.2.1
theorem dX10_lays_64 : decode cX10_lays 64 = .ok (.iaload, 1) := da9_dX10_lays_54.2.2.2.2.2.2.2.2.1
theorem dX10_lays_65 : decode cX10_lays 65 = .ok (.iastore, 1) := da9_dX10_lays_54.2.2.2.2.2.2.2.2.2.1
theorem dX10_lays_66 : decode cX10_lays 66 = .ok (.iinc 2 1, 3) := da9_dX10_lays_54.2.2.2.2.2.2.2.2.2.2.1
theorem dX10_lays_69 : decode cX10_lays 69 = .ok (.goto (-54), 3) := da9_dX10_lays_54.2.2.2.2.2.2.2.2.2.2.2.1
theorem dX10_lays_72 : decode cX10_lays 72 = .ok (.return_, 1) := da9_dX10_lays_54.2.2.2.2.2.2.2.2.2.2.2.2
set_option maxRecDepth 20000 in
theorem ggX10_law_X10_refuses : GoodIn wsX10_law wsX10_refuses := wd_c vW10_ok mvW10_13
set_option maxRecDepth 20000 in
theorem gX10_law_X10_refuses : GoodIn wsX10_law (wsV RX10 119 RX10 yX10_refuses wsX10_refuses) := goodIn_app (wd_l vW10_ok _ pvW10_142) ggX10_law_X10_refuses
set_option maxRecDepth 20000 in
theorem ggX10_law_X10_readsAs : GoodIn wsX10_law wsX10_readsAs := wd_c vW10_ok mvW10_152
set_option maxRecDepth 20000 in
theorem gX10_law_X10_readsAs : GoodIn wsX10_law (wsV RX10 265 RX10 yX10_readsAs wsX10_readsAs) := goodIn_app (wd_l vW10_ok _ pvW10_178) ggX10_law_X10_readsAs
set_option maxRecDepth 20000 in
theorem ggX10_law_X10_lays : GoodIn wsX10_law wsX10_lays := wd_c vW10_ok mvW10_247
set_option maxRecDepth 20000 in
theorem gX10_law_X10_lays : GoodIn wsX10_law (wsV RX10 269 RX10 yX10_lays wsX10_lays) := goodIn_app (wd_l vW10_ok _ pvW10_179) ggX10_law_X10_lays
set_option maxRecDepth 20000 in
theorem ggX10_law_X10_good : GoodIn wsX10_law wsX10_good := wd_c vW10_ok mvW10_37
set_option maxRecDepth 20000 in
theorem gX10_law_X10_good : GoodIn wsX10_law (wsV RX10 14 RX10 yX10_good wsX10_good) := goodIn_app (wd_l vW10_ok _ pvW10_140) ggX10_law_X10_good
theorem da9_dX10_law_0 : (decode cX10_law 0 = .ok (.aload_n 0, 1)) ∧ (decode cX10_law 1 = .ok (.getfield 28, 3)) ∧ (decode cX10_law 4 = .ok (.bipush 31, 2)) ∧ (decode cX10_law 6 = .ok (.iaload, 1)) ∧ (decode cX10_law 7 = .ok (.bipush 6, 2)) ∧ (decode cX10_law 9 = .ok (.if_icmp .ne 15, 3)) ∧ (decode cX10_law 12 = .ok (.aload_n 0, 1)) ∧ (decode cX10_law 13 = .ok (.iconst 0, 1)) ∧ (decode cX10_law 14 = .ok (.putfield 169, 3)) ∧ (decode cX10_law 17 = .ok (.aload_n 0, 1)) ∧ (decode cX10_law 18 = .ok (.bipush (-5), 2)) ∧ (decode cX10_law 20 = .ok (.invokevirtual 119, 3)) ∧ (decode cX10_law 23 = .ok (.ireturn, 1)) ∧ (decode cX10_law 24 = .ok (.aload_n 0, 1)) ∧ (decode cX10_law 25 = .ok (.iconst 0, 1)) ∧ (decode cX10_law 26 = .ok (.invokevirtual 265, 3)) := by decide +kernel
theorem dX10_law_0 : decode cX10_law 0 = .ok (.aload_n 0, 1) := da9_dX10_law_0.1
theorem dX10_law_1 : decode cX10_law 1 = .ok (.getfield 28, 3) := da9_dX10_law_0.2.1
theorem dX10_law_4 : decode cX10_law 4 = .ok (.bipush 31, 2) := da9_dX10_law_0.2.2.1
theorem dX10_law_6 : decode cX10_law 6 = .ok (.iaload, 1) := da9_dX10_law_0.2.2.2.1
theorem dX10_law_7 : decode cX10_law 7 = .ok (.bipush 6, 2) := da9_dX10_law_0.2.2.2.2.1
theorem dX10_law_9 : decode cX10_law 9 = .ok (.if_icmp .ne 15, 3) := da9_dX10_law_0.2.2.2.2.2.1
theorem dX10_law_12 : decode cX10_law 12 = .ok (.aload_n 0, 1) := da9_dX10_law_0.2.2.2.2.2.2.1
theorem dX10_law_13 : decode cX10_law 13 = .ok (.iconst 0, 1) := da9_dX10_law_0.2.2.2.2.2.2.2.1
theorem dX10_law_14 : decode cX10_law 14 = .ok (.putfield 169, 3) := da9_dX10_law_0.2.2.2.2.2.2.2.2.1
theorem dX10_law_17 : decode cX10_law 17 = .ok (.aload_n 0, 1) := da9_dX10_law_0.2.2.2.2.2.2.2.2.2.1
theorem dX10_law_18 : decode cX10_law 18 = .ok (.bipush (-5), 2) := da9_dX10_law_0.2.2.2.2.2.2.2.2.2.2.1
theorem dX10_law_20 : decode cX10_law 20 = .ok (.invokevirtual 119, 3) := da9_dX10_law_0.2.2.2.2.2.2.2.2.2.2.2.1
theorem dX10_law_23 : decode cX10_law 23 = .ok (.ireturn, 1) := da9_dX10_law_0.2.2.2.2.2.2.2.2.2.2.2.2.1
theorem dX10_law_24 : decode cX10_law 24 = .ok (.aload_n 0, 1) := da9_dX10_law_0.2.2.2.2.2.2.2.2.2.2.2.2.2.1
theorem dX10_law_25 : decode cX10_law 25 = .ok (.iconst 0, 1) := da9_dX10_law_0.2.2.2.2.2.2.2.2.2.2.2.2.2.2.1
theorem dX10_law_26 : decode cX10_law 26 = .ok (.invokevirtual 265, 3) := da9_dX10_law_0.2.2.2.2.2.2.2.2.2.2.2.2.2.2.2
theorem da9_dX10_law_29 : (decode cX10_law 29 = .ok (.ifCond .ne 10, 3)) ∧ (decode cX10_law 32 = .ok (.aload_n 0, 1)) ∧ (decode cX10_law 33 = .ok (.bipush (-6), 2)) ∧ (decode cX10_law 35 = .ok (.invokevirtual 119, 3)) ∧ (decode cX10_law 38 = .ok (.ireturn, 1)) ∧ (decode cX10_law 39 = .ok (.aload_n 0, 1)) ∧ (decode cX10_law 40 = .ok (.aload_n 0, 1)) ∧ (decode cX10_law 41 = .ok (.getfield 28, 3)) ∧ (decode cX10_law 44 = .ok (.bipush 31, 2)) ∧ (decode cX10_law 46 = .ok (.iaload, 1)) ∧ (decode cX10_law 47 = .ok (.invokevirtual 269, 3)) ∧ (decode cX10_law 50 = .ok (.aload_n 0, 1)) ∧ (decode cX10_law 51 = .ok (.getfield 28, 3)) ∧ (decode cX10_law 54 = .ok (.bipush 31, 2)) ∧ (decode cX10_law 56 = .ok (.dup2, 1)) ∧ (decode cX10_law 57 = .ok (.iaload, 1)) := by decide +kernel
theorem dX10_law_29 : decode cX10_law 29 = .ok (.ifCond .ne 10, 3) := da9_dX10_law_29.1
theorem dX10_law_32 : decode cX10_law 32 = .ok (.aload_n 0, 1) := da9_dX10_law_29.2.1
theorem dX10_law_33 : decode cX10_law 33 = .ok (.bipush (-6), 2) := da9_dX10_law_29.2.2.1
theorem dX10_law_35 : decode cX10_law 35 = .ok (.invokevirtual 119, 3) := da9_dX10_law_29.2.2.2.1
theorem dX10_law_38 : decode cX10_law 38 = .ok (.ireturn, 1) := da9_dX10_law_29.2.2.2.2.1
theorem dX10_law_39 : decode cX10_law 39 = .ok (.aload_n 0, 1) := da9_dX10_law_29.2.2.2.2.2.1
theorem dX10_law_40 : decode cX10_law 40 = .ok (.aload_n 0, 1) := da9_dX10_law_29.2.2.2.2.2.2.1
theorem dX10_law_41 : decode cX10_law 41 = .ok (.getfield 28, 3) := da9_dX10_law_29.2.2.2.2.2.2.2.1
theorem dX10_law_44 : decode cX10_law 44 = .ok (.bipush 31, 2) := da9_dX10_law_29.2.2.2.2.2.2.2.2.1
theorem dX10_law_46 : decode cX10_law 46 = .ok (.iaload, 1) := da9_dX10_law_29.2.2.2.2.2.2.2.2.2.1
theorem dX10_law_47 : decode cX10_law 47 = .ok (.invokevirtual 269, 3) := da9_dX10_law_29.2.2.2.2.2.2.2.2.2.2.1
theorem dX10_law_50 : decode cX10_law 50 = .ok (.aload_n 0, 1) := da9_dX10_law_29.2.2.2.2.2.2.2.2.2.2.2.1
theorem dX10_law_51 : decode cX10_law 51 = .ok (.getfield 28, 3) := da9_dX10_law_29.2.2.2.2.2.2.2.2.2.2.2.2.1
theorem dX10_law_54 : decode cX10_law 54 = .ok (.bipush 31, 2) := da9_dX10_law_29.2.2.2.2.2.2.2.2.2.2.2.2.2.1
theorem dX10_law_56 : decode cX10_law 56 = .ok (.dup2, 1) := da9_dX10_law_29.2.2.2.2.2.2.2.2.2.2.2.2.2.2.1
theorem dX10_law_57 : decode cX10_law 57 = .ok (.iaload, 1) := da9_dX10_law_29.2.2.2.2.2.2.2.2.2.2.2.2.2.2.2
theorem da9_dX10_law_58 : (decode cX10_law 58 = .ok (.iconst 1, 1)) ∧ (decode cX10_law 59 = .ok (.iadd, 1)) ∧ (decode cX10_law 60 = .ok (.iastore, 1)) ∧ (decode cX10_law 61 = .ok (.aload_n 0, 1)) ∧ (decode cX10_law 62 = .ok (.aload_n 0, 1)) ∧ (decode cX10_law 63 = .ok (.getfield 28, 3)) ∧ (decode cX10_law 66 = .ok (.bipush 31, 2)) ∧ (decode cX10_law 68 = .ok (.iaload, 1)) ∧ (decode cX10_law 69 = .ok (.iconst 1, 1)) ∧ (decode cX10_law 70 = .ok (.isub, 1)) ∧ (decode cX10_law 71 = .ok (.invokevirtual 14, 3)) ∧ (decode cX10_law 74 = .ok (.ireturn, 1)) := by decide +kernel
theorem dX10_law_58 : decode cX10_law 58 = .ok (.iconst 1, 1) := da9_dX10_law_58.1
theorem dX10_law_59 : decode cX10_law 59 = .ok (.iadd, 1) := da9_dX10_law_58.2.1
theorem dX10_law_60 : decode cX10_law 60 = .ok (.iastore, 1) := da9_dX10_law_58.2.2.1
theorem dX10_law_61 : decode cX10_law 61 = .ok (.aload_n 0, 1) := da9_dX10_law_58.2.2.2.1
theorem dX10_law_62 : decode cX10_law 62 = .ok (.aload_n 0, 1) := da9_dX10_law_58.2.2.2.2.1
theorem dX10_law_63 : decode cX10_law 63 = .ok (.getfield 28, 3) := da9_dX10_law_58.2.2.2.2.2.1
theorem dX10_law_66 : decode cX10_law 66 = .ok (.bipush 31, 2) := da9_dX10_law_58.2.2.2.2.2.2.1
theorem dX10_law_68 : decode cX10_law 68 = .ok (.iaload, 1) := da9_dX10_law_58.2.2.2.2.2.2.2.1
theorem dX10_law_69 : decode cX10_law 69 = .ok (.iconst 1, 1) := da9_dX10_law_58.2.2.2.2.2.2.2.2.1
theorem dX10_law_70 : decode cX10_law 70 = .ok (.isub, 1) := da9_dX10_law_58.2.2.2.2.2.2.2.2.2.1
theorem dX10_law_71 : decode cX10_law 71 = .ok (.invokevirtual 14, 3) := da9_dX10_law_58.2.2.2.2.2.2.2.2.2.2.1
theorem dX10_law_74 : decode cX10_law 74 = .ok (.ireturn, 1) := da9_dX10_law_58.2.2.2.2.2.2.2.2.2.2.2
theorem da9_dX10_fault_0 : (decode cX10_fault 0 = .ok (.aload_n 0, 1)) ∧ (decode cX10_fault 1 = .ok (.getfield 51, 3)) ∧ (decode cX10_fault 4 = .ok (.ireturn, 1)) := by decide +kernel
theorem dX10_fault_0 : decode cX10_fault 0 = .ok (.aload_n 0, 1) := da9_dX10_fault_0.1
theorem dX10_fault_1 : decode cX10_fault 1 = .ok (.getfield 51, 3) := da9_dX10_fault_0.2.1
theorem dX10_fault_4 : decode cX10_fault 4 = .ok (.ireturn, 1) := da9_dX10_fault_0.2.2
set_option maxRecDepth 20000 in
theorem ggX10_isLaw_X10_lies : GoodIn wsX10_isLaw wsX10_lies := wd_c vW10_ok mvW10_6
set_option maxRecDepth 20000 in
theorem gX10_isLaw_X10_lies : GoodIn wsX10_isLaw (va_wsS RX10 18 yX10_lies wsX10_lies) := goodIn_app (wd_l vW10_ok _ pvW10_141) ggX10_isLaw_X10_lies
theorem da9_dX10_isLaw_0 : (decode cX10_isLaw 0 = .ok (.iload_n 1, 1)) ∧ (decode cX10_isLaw 1 = .ok (.iconst (-1), 1)) ∧ (decode cX10_isLaw 2 = .ok (.aload_n 0, 1)) ∧ (decode cX10_isLaw 3 = .ok (.getfield 28, 3)) ∧ (decode cX10_isLaw 6 = .ok (.bipush 31, 2)) ∧ (decode cX10_isLaw 8 = .ok (.iaload, 1)) ∧ (decode cX10_isLaw 9 = .ok (.iconst 1, 1)) ∧ (decode cX10_isLaw 10 = .ok (.isub, 1)) ∧ (decode cX10_isLaw 11 = .ok (.invokestatic 18, 3)) ∧ (decode cX10_isLaw 14 = .ok (.ireturn, 1)) := by decide +kernel
theorem dX10_isLaw_0 : decode cX10_isLaw 0 = .ok (.iload_n 1, 1) := da9_dX10_isLaw_0.1
theorem dX10_isLaw_1 : decode cX10_isLaw 1 = .ok (.iconst (-1), 1) := da9_dX10_isLaw_0.2.1
theorem dX10_isLaw_2 : decode cX10_isLaw 2 = .ok (.aload_n 0, 1) := da9_dX10_isLaw_0.2.2.1
theorem dX10_isLaw_3 : decode cX10_isLaw 3 = .ok (.getfield 28, 3) := da9_dX10_isLaw_0.2.2.2.1
theorem dX10_isLaw_6 : decode cX10_isLaw 6 = .ok (.bipush 31, 2) := da9_dX10_isLaw_0.2.2.2.2.1
theorem dX10_isLaw_8 : decode cX10_isLaw 8 = .ok (.iaload, 1) := da9_dX10_isLaw_0.2.2.2.2.2.1
theorem dX10_isLaw_9 : decode cX10_isLaw 9 = .ok (.iconst 1, 1) := da9_dX10_isLaw_0.2.2.2.2.2.2.1
theorem dX10_isLaw_10 : decode cX10_isLaw 10 = .ok (.isub, 1) := da9_dX10_isLaw_0.2.2.2.2.2.2.2.1
theorem dX10_isLaw_11 : decode cX10_isLaw 11 = .ok (.invokestatic 18, 3) := da9_dX10_isLaw_0.2.2.2.2.2.2.2.2.1
theorem dX10_isLaw_14 : decode cX10_isLaw 14 = .ok (.ireturn, 1) := da9_dX10_isLaw_0.2.2.2.2.2.2.2.2.2
set_option maxRecDepth 20000 in
theorem ggX10_force_X10_isLaw : GoodIn wsX10_force wsX10_isLaw := wd_c vW10_ok mvW10_325
set_option maxRecDepth 20000 in
theorem gX10_force_X10_isLaw : GoodIn wsX10_force (wsV RX10 272 RX10 yX10_isLaw wsX10_isLaw) := goodIn_app (wd_l vW10_ok _ pvW10_180) ggX10_force_X10_isLaw
set_option maxRecDepth 20000 in
theorem ggX10_force_X10_refuses : GoodIn wsX10_force wsX10_refuses := wd_c vW10_ok mvW10_13
set_option maxRecDepth 20000 in
theorem gX10_force_X10_refuses : GoodIn wsX10_force (wsV RX10 119 RX10 yX10_refuses wsX10_refuses) := goodIn_app (wd_l vW10_ok _ pvW10_142) ggX10_force_X10_refuses
set_option maxRecDepth 20000 in
theorem ggX10_force_X10_good : GoodIn wsX10_force wsX10_good := wd_c vW10_ok mvW10_37
set_option maxRecDepth 20000 in
theorem gX10_force_X10_good : GoodIn wsX10_force (wsV RX10 14 RX10 yX10_good wsX10_good) := goodIn_app (wd_l vW10_ok _ pvW10_140) ggX10_force_X10_good
theorem da9_dX10_force_0 : (decode cX10_force 0 = .ok (.aload_n 0, 1)) ∧ (decode cX10_force 1 = .ok (.iload_n 1, 1)) ∧ (decode cX10_force 2 = .ok (.invokevirtual 272, 3)) ∧ (decode cX10_force 5 = .ok (.ifCond .ne 10, 3)) ∧ (decode cX10_force 8 = .ok (.aload_n 0, 1)) ∧ (decode cX10_force 9 = .ok (.bipush (-2), 2)) ∧ (decode cX10_force 11 = .ok (.invokevirtual 119, 3)) ∧ (decode cX10_force 14 = .ok (.ireturn, 1)) ∧ (decode cX10_force 15 = .ok (.aload_n 0, 1)) ∧ (decode cX10_force 16 = .ok (.getfield 28, 3)) ∧ (decode cX10_force 19 = .ok (.bipush 32, 2)) ∧ (decode cX10_force 21 = .ok (.iaload, 1)) ∧ (decode cX10_force 22 = .ok (.istore_n 2, 1)) ∧ (decode cX10_force 23 = .ok (.aload_n 0, 1)) ∧ (decode cX10_force 24 = .ok (.getfield 28, 3)) ∧ (decode cX10_force 27 = .ok (.bipush 32, 2)) := by decide +kernel
theorem dX10_force_0 : decode cX10_force 0 = .ok (.aload_n 0, 1) := da9_dX10_force_0.1
theorem dX10_force_1 : decode cX10_force 1 = .ok (.iload_n 1, 1) := da9_dX10_force_0.2.1
theorem dX10_force_2 : decode cX10_force 2 = .ok (.invokevirtual 272, 3) := da9_dX10_force_0.2.2.1
theorem dX10_force_5 : decode cX10_force 5 = .ok (.ifCond .ne 10, 3) := da9_dX10_force_0.2.2.2.1
theorem dX10_force_8 : decode cX10_force 8 = .ok (.aload_n 0, 1) := da9_dX10_force_0.2.2.2.2.1
theorem dX10_force_9 : decode cX10_force 9 = .ok (.bipush (-2), 2) := da9_dX10_force_0.2.2.2.2.2.1
theorem dX10_force_11 : decode cX10_force 11 = .ok (.invokevirtual 119, 3) := da9_dX10_force_0.2.2.2.2.2.2.1
theorem dX10_force_14 : decode cX10_force 14 = .ok (.ireturn, 1) := da9_dX10_force_0.2.2.2.2.2.2.2.1
theorem dX10_force_15 : decode cX10_force 15 = .ok (.aload_n 0, 1) := da9_dX10_force_0.2.2.2.2.2.2.2.2.1
theorem dX10_force_16 : decode cX10_force 16 = .ok (.getfield 28, 3) := da9_dX10_force_0.2.2.2.2.2.2.2.2.2.1
theorem dX10_force_19 : decode cX10_force 19 = .ok (.bipush 32, 2) := da9_dX10_force_0.2.2.2.2.2.2.2.2.2.2.1
theorem dX10_force_21 : decode cX10_force 21 = .ok (.iaload, 1) := da9_dX10_force_0.2.2.2.2.2.2.2.2.2.2.2.1
theorem dX10_force_22 : decode cX10_force 22 = .ok (.istore_n 2, 1) := da9_dX10_force_0.2.2.2.2.2.2.2.2.2.2.2.2.1
theorem dX10_force_23 : decode cX10_force 23 = .ok (.aload_n 0, 1) := da9_dX10_force_0.2.2.2.2.2.2.2.2.2.2.2.2.2.1
theorem dX10_force_24 : decode cX10_force 24 = .ok (.getfield 28, 3) := da9_dX10_force_0.2.2.2.2.2.2.2.2.2.2.2.2.2.2.1
theorem dX10_force_27 : decode cX10_force 27 = .ok (.bipush 32, 2) := da9_dX10_force_0.2.2.2.2.2.2.2.2.2.2.2.2.2.2.2
theorem da9_dX10_force_29 : (decode cX10_force 29 = .ok (.iload_n 1, 1)) ∧ (decode cX10_force 30 = .ok (.iastore, 1)) ∧ (decode cX10_force 31 = .ok (.aload_n 0, 1)) ∧ (decode cX10_force 32 = .ok (.iload_n 2, 1)) ∧ (decode cX10_force 33 = .ok (.invokevirtual 14, 3)) ∧ (decode cX10_force 36 = .ok (.ireturn, 1)) := by decide +kernel
theorem dX10_force_29 : decode cX10_force 29 = .ok (.iload_n 1, 1) := da9_dX10_force_29.1
theorem dX10_force_30 : decode cX10_force 30 = .ok (.iastore, 1) := da9_dX10_force_29.2.1
theorem dX10_force_31 : decode cX10_force 31 = .ok (.aload_n 0, 1) := da9_dX10_force_29.2.2.1
theorem dX10_force_32 : decode cX10_force 32 = .ok (.iload_n 2, 1) := da9_dX10_force_29.2.2.2.1
theorem dX10_force_33 : decode cX10_force 33 = .ok (.invokevirtual 14, 3) := da9_dX10_force_29.2.2.2.2.1
theorem dX10_force_36 : decode cX10_force 36 = .ok (.ireturn, 1) := da9_dX10_force_29.2.2.2.2.2
set_option maxRecDepth 20000 in
theorem ggX10_canTurn_X10_size : GoodIn wsX10_canTurn wsX10_size := wd_c vW10_ok mvW10_24
set_option maxRecDepth 20000 in
theorem gX10_canTurn_X10_size : GoodIn wsX10_canTurn (wsV RX10 125 RX10 yX10_size wsX10_size) := goodIn_app (wd_l vW10_ok _ pvW10_144) ggX10_canTurn_X10_size
set_option maxRecDepth 20000 in
theorem ggX10_canTurn_X10_rankBelow : GoodIn wsX10_canTurn wsX10_rankBelow := wd_c vW10_ok mvW10_130
set_option maxRecDepth 20000 in
theorem gX10_canTurn_X10_rankBelow : GoodIn wsX10_canTurn (wsV RX10 149 RX10 yX10_rankBelow wsX10_rankBelow) := goodIn_app (wd_l vW10_ok _ pvW10_151) ggX10_canTurn_X10_rankBelow
set_option maxRecDepth 20000 in
theorem ggX10_canTurn_X10_setsTurn : GoodIn wsX10_canTurn wsX10_setsTurn := wd_c vW10_ok mvW10_134
set_option maxRecDepth 20000 in
theorem gX10_canTurn_X10_setsTurn : GoodIn wsX10_canTurn (wsV RX10 152 RX10 yX10_setsTurn wsX10_setsTurn) := goodIn_app (wd_l vW10_ok _ pvW10_152) ggX10_canTurn_X10_setsTurn
set_option maxRecDepth 20000 in
theorem ggX10_canTurn_X10_isNow : GoodIn wsX10_canTurn wsX10_isNow := wd_c vW10_ok mvW10_58
set_option maxRecDepth 20000 in
theorem gX10_canTurn_X10_isNow : GoodIn wsX10_canTurn (wsV RX10 159 RX10 yX10_isNow wsX10_isNow) := goodIn_app (wd_l vW10_ok _ pvW10_154) ggX10_canTurn_X10_isNow
theorem da9_dX10_canTurn_0 : (decode cX10_canTurn 0 = .ok (.iload_n 1, 1)) ∧ (decode cX10_canTurn 1 = .ok (.aload_n 0, 1)) ∧ (decode cX10_canTurn 2 = .ok (.invokevirtual 125, 3)) ∧ (decode cX10_canTurn 5 = .ok (.if_icmp .le 5, 3)) ∧ (decode cX10_canTurn 8 = .ok (.iconst 0, 1)) ∧ (decode cX10_canTurn 9 = .ok (.ireturn, 1)) ∧ (decode cX10_canTurn 10 = .ok (.aload_n 0, 1)) ∧ (decode cX10_canTurn 11 = .ok (.iload_n 1, 1)) ∧ (decode cX10_canTurn 12 = .ok (.aload_n 0, 1)) ∧ (decode cX10_canTurn 13 = .ok (.getfield 28, 3)) ∧ (decode cX10_canTurn 16 = .ok (.iconst 0, 1)) ∧ (decode cX10_canTurn 17 = .ok (.iaload, 1)) ∧ (decode cX10_canTurn 18 = .ok (.aload_n 0, 1)) ∧ (decode cX10_canTurn 19 = .ok (.iload_n 1, 1)) ∧ (decode cX10_canTurn 20 = .ok (.invokevirtual 149, 3)) ∧ (decode cX10_canTurn 23 = .ok (.aload_n 0, 1)) := by decide +kernel
theorem dX10_canTurn_0 : decode cX10_canTurn 0 = .ok (.iload_n 1, 1) := da9_dX10_canTurn_0.1
theorem dX10_canTurn_1 : decode cX10_canTurn 1 = .ok (.aload_n 0, 1) := da9_dX10_canTurn_0.2.1
theorem dX10_canTurn_2 : decode cX10_canTurn 2 = .ok (.invokevirtual 125, 3) := da9_dX10_canTurn_0.2.2.1
theorem dX10_canTurn_5 : decode cX10_canTurn 5 = .ok (.if_icmp .le 5, 3) := da9_dX10_canTurn_0.2.2.2.1
theorem dX10_canTurn_8 : decode cX10_canTurn 8 = .ok (.iconst 0, 1) := da9_dX10_canTurn_0.2.2.2.2.1
theorem dX10_canTurn_9 : decode cX10_canTurn 9 = .ok (.ireturn, 1) := da9_dX10_canTurn_0.2.2.2.2.2.1
theorem dX10_canTurn_10 : decode cX10_canTurn 10 = .ok (.aload_n 0, 1) := da9_dX10_canTurn_0.2.2.2.2.2.2.1
theorem dX10_canTurn_11 : decode cX10_canTurn 11 = .ok (.iload_n 1, 1) := da9_dX10_canTurn_0.2.2.2.2.2.2.2.1
theorem dX10_canTurn_12 : decode cX10_canTurn 12 = .ok (.aload_n 0, 1) := da9_dX10_canTurn_0.2.2.2.2.2.2.2.2.1
theorem dX10_canTurn_13 : decode cX10_canTurn 13 = .ok (.getfield 28, 3) := da9_dX10_canTurn_0.2.2.2.2.2.2.2.2.2.1
theorem dX10_canTurn_16 : decode cX10_canTurn 16 = .ok (.iconst 0, 1) := da9_dX10_canTurn_0.2.2.2.2.2.2.2.2.2.2.1
theorem dX10_canTurn_17 : decode cX10_canTurn 17 = .ok (.iaload, 1) := da9_dX10_canTurn_0.2.2.2.2.2.2.2.2.2.2.2.1
theorem dX10_canTurn_18 : decode cX10_canTurn 18 = .ok (.aload_n 0, 1) := da9_dX10_canTurn_0.2.2.2.2.2.2.2.2.2.2.2.2.1
theorem dX10_canTurn_19 : decode cX10_canTurn 19 = .ok (.iload_n 1, 1) := da9_dX10_canTurn_0.2.2.2.2.2.2.2.2.2.2.2.2.2.1
theorem dX10_canTurn_20 : decode cX10_canTurn 20 = .ok (.invokevirtual 149, 3) := da9_dX10_canTurn_0.2.2.2.2.2.2.2.2.2.2.2.2.2.2.1
theorem dX10_canTurn_23 : decode cX10_canTurn 23 = .ok (.aload_n 0, 1) := da9_dX10_canTurn_0.2.2.2.2.2.2.2.2.2.2.2.2.2.2.2
theorem da9_dX10_canTurn_24 : (decode cX10_canTurn 24 = .ok (.getfield 28, 3)) ∧ (decode cX10_canTurn 27 = .ok (.bipush 6, 2)) ∧ (decode cX10_canTurn 29 = .ok (.iaload, 1)) ∧ (decode cX10_canTurn 30 = .ok (.invokevirtual 152, 3)) ∧ (decode cX10_canTurn 33 = .ok (.aload_n 0, 1)) ∧ (decode cX10_canTurn 34 = .ok (.iconst 2, 1)) ∧ (decode cX10_canTurn 35 = .ok (.invokevirtual 159, 3)) ∧ (decode cX10_canTurn 38 = .ok (.ifCond .ne 7, 3)) ∧ (decode cX10_canTurn 41 = .ok (.iconst 1, 1)) ∧ (decode cX10_canTurn 42 = .ok (.goto 4, 3)) ∧ (decode cX10_canTurn 45 = .ok (.iconst 0, 1)) ∧ (decode cX10_canTurn 46 = .ok (.ireturn, 1)) := by decide +kernel
theorem dX10_canTurn_24 : decode cX10_canTurn 24 = .ok (.getfield 28, 3) := da9_dX10_canTurn_24.1
theorem dX10_canTurn_27 : decode cX10_canTurn 27 = .ok (.bipush 6, 2) := da9_dX10_canTurn_24.2.1
theorem dX10_canTurn_29 : decode cX10_canTurn 29 = .ok (.iaload, 1) := da9_dX10_canTurn_24.2.2.1
theorem dX10_canTurn_30 : decode cX10_canTurn 30 = .ok (.invokevirtual 152, 3) := da9_dX10_canTurn_24.2.2.2.1
theorem dX10_canTurn_33 : decode cX10_canTurn 33 = .ok (.aload_n 0, 1) := da9_dX10_canTurn_24.2.2.2.2.1
theorem dX10_canTurn_34 : decode cX10_canTurn 34 = .ok (.iconst 2, 1) := da9_dX10_canTurn_24.2.2.2.2.2.1
theorem dX10_canTurn_35 : decode cX10_canTurn 35 = .ok (.invokevirtual 159, 3) := da9_dX10_canTurn_24.2.2.2.2.2.2.1
theorem dX10_canTurn_38 : decode cX10_canTurn 38 = .ok (.ifCond .ne 7, 3) := da9_dX10_canTurn_24.2.2.2.2.2.2.2.1
theorem dX10_canTurn_41 : decode cX10_canTurn 41 = .ok (.iconst 1, 1) := da9_dX10_canTurn_24.2.2.2.2.2.2.2.2.1
theorem dX10_canTurn_42 : decode cX10_canTurn 42 = .ok (.goto 4, 3) := da9_dX10_canTurn_24.2.2.2.2.2.2.2.2.2.1
theorem dX10_canTurn_45 : decode cX10_canTurn 45 = .ok (.iconst 0, 1) := da9_dX10_canTurn_24.2.2.2.2.2.2.2.2.2.2.1
theorem dX10_canTurn_46 : decode cX10_canTurn 46 = .ok (.ireturn, 1) := da9_dX10_canTurn_24.2.2.2.2.2.2.2.2.2.2.2
theorem da9_dX10_exchanges_0 : (decode cX10_exchanges 0 = .ok (.aload_n 0, 1)) ∧ (decode cX10_exchanges 1 = .ok (.getfield 28, 3)) ∧ (decode cX10_exchanges 4 = .ok (.iconst 0, 1)) ∧ (decode cX10_exchanges 5 = .ok (.iload_n 1, 1)) ∧ (decode cX10_exchanges 6 = .ok (.iadd, 1)) ∧ (decode cX10_exchanges 7 = .ok (.iaload, 1)) ∧ (decode cX10_exchanges 8 = .ok (.istore_n 3, 1)) ∧ (decode cX10_exchanges 9 = .ok (.aload_n 0, 1)) ∧ (decode cX10_exchanges 10 = .ok (.getfield 28, 3)) ∧ (decode cX10_exchanges 13 = .ok (.bipush 6, 2)) ∧ (decode cX10_exchanges 15 = .ok (.iload_n 1, 1)) ∧ (decode cX10_exchanges 16 = .ok (.iadd, 1)) ∧ (decode cX10_exchanges 17 = .ok (.iaload, 1)) ∧ (decode cX10_exchanges 18 = .ok (.istore 4, 2)) ∧ (decode cX10_exchanges 20 = .ok (.aload_n 0, 1)) ∧ (decode cX10_exchanges 21 = .ok (.getfield 28, 3)) := by decide +kernel
theorem dX10_exchanges_0 : decode cX10_exchanges 0 = .ok (.aload_n 0, 1) := da9_dX10_exchanges_0.1
theorem dX10_exchanges_1 : decode cX10_exchanges 1 = .ok (.getfield 28, 3) := da9_dX10_exchanges_0.2.1
theorem dX10_exchanges_4 : decode cX10_exchanges 4 = .ok (.iconst 0, 1) := da9_dX10_exchanges_0.2.2.1
theorem dX10_exchanges_5 : decode cX10_exchanges 5 = .ok (.iload_n 1, 1) := da9_dX10_exchanges_0.2.2.2.1
theorem dX10_exchanges_6 : decode cX10_exchanges 6 = .ok (.iadd, 1) := da9_dX10_exchanges_0.2.2.2.2.1
theorem dX10_exchanges_7 : decode cX10_exchanges 7 = .ok (.iaload, 1) := da9_dX10_exchanges_0.2.2.2.2.2.1
theorem dX10_exchanges_8 : decode cX10_exchanges 8 = .ok (.istore_n 3, 1) := da9_dX10_exchanges_0.2.2.2.2.2.2.1
theorem dX10_exchanges_9 : decode cX10_exchanges 9 = .ok (.aload_n 0, 1) := da9_dX10_exchanges_0.2.2.2.2.2.2.2.1
theorem dX10_exchanges_10 : decode cX10_exchanges 10 = .ok (.getfield 28, 3) := da9_dX10_exchanges_0.2.2.2.2.2.2.2.2.1
theorem dX10_exchanges_13 : decode cX10_exchanges 13 = .ok (.bipush 6, 2) := da9_dX10_exchanges_0.2.2.2.2.2.2.2.2.2.1
theorem dX10_exchanges_15 : decode cX10_exchanges 15 = .ok (.iload_n 1, 1) := da9_dX10_exchanges_0.2.2.2.2.2.2.2.2.2.2.1
theorem dX10_exchanges_16 : decode cX10_exchanges 16 = .ok (.iadd, 1) := da9_dX10_exchanges_0.2.2.2.2.2.2.2.2.2.2.2.1
theorem dX10_exchanges_17 : decode cX10_exchanges 17 = .ok (.iaload, 1) := da9_dX10_exchanges_0.2.2.2.2.2.2.2.2.2.2.2.2.1
theorem dX10_exchanges_18 : decode cX10_exchanges 18 = .ok (.istore 4, 2) := da9_dX10_exchanges_0.2.2.2.2.2.2.2.2.2.2.2.2.2.1
theorem dX10_exchanges_20 : decode cX10_exchanges 20 = .ok (.aload_n 0, 1) := da9_dX10_exchanges_0.2.2.2.2.2.2.2.2.2.2.2.2.2.2.1
theorem dX10_exchanges_21 : decode cX10_exchanges 21 = .ok (.getfield 28, 3) := da9_dX10_exchanges_0.2.2.2.2.2.2.2.2.2.2.2.2.2.2.2
theorem da9_dX10_exchanges_24 : (decode cX10_exchanges 24 = .ok (.iconst 0, 1)) ∧ (decode cX10_exchanges 25 = .ok (.iload_n 1, 1)) ∧ (decode cX10_exchanges 26 = .ok (.iadd, 1)) ∧ (decode cX10_exchanges 27 = .ok (.aload_n 0, 1)) ∧ (decode cX10_exchanges 28 = .ok (.getfield 28, 3)) ∧ (decode cX10_exchanges 31 = .ok (.iconst 0, 1)) ∧ (decode cX10_exchanges 32 = .ok (.iload_n 2, 1)) ∧ (decode cX10_exchanges 33 = .ok (.iadd, 1)) ∧ (decode cX10_exchanges 34 = .ok (.iaload, 1)) ∧ (decode cX10_exchanges 35 = .ok (.iastore, 1)) ∧ (decode cX10_exchanges 36 = .ok (.aload_n 0, 1)) ∧ (decode cX10_exchanges 37 = .ok (.getfield 28, 3)) ∧ (decode cX10_exchanges 40 = .ok (.bipush 6, 2)) ∧ (decode cX10_exchanges 42 = .ok (.iload_n 1, 1)) ∧ (decode cX10_exchanges 43 = .ok (.iadd, 1)) ∧ (decode cX10_exchanges 44 = .ok (.aload_n 0, 1)) := by decide +kernel
theorem dX10_exchanges_24 : decode cX10_exchanges 24 = .ok (.iconst 0, 1) := da9_dX10_exchanges_24.1
theorem dX10_exchanges_25 : decode cX10_exchanges 25 = .ok (.iload_n 1, 1) := da9_dX10_exchanges_24.2.1
theorem dX10_exchanges_26 : decode cX10_exchanges 26 = .ok (.iadd, 1) := da9_dX10_exchanges_24.2.2.1
theorem dX10_exchanges_27 : decode cX10_exchanges 27 = .ok (.aload_n 0, 1) := da9_dX10_exchanges_24.2.2.2.1
theorem dX10_exchanges_28 : decode cX10_exchanges 28 = .ok (.getfield 28, 3) := da9_dX10_exchanges_24.2.2.2.2.1
theorem dX10_exchanges_31 : decode cX10_exchanges 31 = .ok (.iconst 0, 1) := da9_dX10_exchanges_24.2.2.2.2.2.1
theorem dX10_exchanges_32 : decode cX10_exchanges 32 = .ok (.iload_n 2, 1) := da9_dX10_exchanges_24.2.2.2.2.2.2.1
theorem dX10_exchanges_33 : decode cX10_exchanges 33 = .ok (.iadd, 1) := da9_dX10_exchanges_24.2.2.2.2.2.2.2.1
theorem dX10_exchanges_34 : decode cX10_exchanges 34 = .ok (.iaload, 1) := da9_dX10_exchanges_24.2.2.2.2.2.2.2.2.1
theorem dX10_exchanges_35 : decode cX10_exchanges 35 = .ok (.iastore, 1) := da9_dX10_exchanges_24.2.2.2.2.2.2.2.2.2.1
theorem dX10_exchanges_36 : decode cX10_exchanges 36 = .ok (.aload_n 0, 1) := da9_dX10_exchanges_24.2.2.2.2.2.2.2.2.2.2.1
theorem dX10_exchanges_37 : decode cX10_exchanges 37 = .ok (.getfield 28, 3) := da9_dX10_exchanges_24.2.2.2.2.2.2.2.2.2.2.2.1
theorem dX10_exchanges_40 : decode cX10_exchanges 40 = .ok (.bipush 6, 2) := da9_dX10_exchanges_24.2.2.2.2.2.2.2.2.2.2.2.2.1
theorem dX10_exchanges_42 : decode cX10_exchanges 42 = .ok (.iload_n 1, 1) := da9_dX10_exchanges_24.2.2.2.2.2.2.2.2.2.2.2.2.2.1
theorem dX10_exchanges_43 : decode cX10_exchanges 43 = .ok (.iadd, 1) := da9_dX10_exchanges_24.2.2.2.2.2.2.2.2.2.2.2.2.2.2.1
theorem dX10_exchanges_44 : decode cX10_exchanges 44 = .ok (.aload_n 0, 1) := da9_dX10_exchanges_24.2.2.2.2.2.2.2.2.2.2.2.2.2.2.2
theorem da9_dX10_exchanges_45 : (decode cX10_exchanges 45 = .ok (.getfield 28, 3)) ∧ (decode cX10_exchanges 48 = .ok (.bipush 6, 2)) ∧ (decode cX10_exchanges 50 = .ok (.iload_n 2, 1)) ∧ (decode cX10_exchanges 51 = .ok (.iadd, 1)) ∧ (decode cX10_exchanges 52 = .ok (.iaload, 1)) ∧ (decode cX10_exchanges 53 = .ok (.iastore, 1)) ∧ (decode cX10_exchanges 54 = .ok (.aload_n 0, 1)) ∧ (decode cX10_exchanges 55 = .ok (.getfield 28, 3)) ∧ (decode cX10_exchanges 58 = .ok (.iconst 0, 1)) ∧ (decode cX10_exchanges 59 = .ok (.iload_n 2, 1)) ∧ (decode cX10_exchanges 60 = .ok (.iadd, 1)) ∧ (decode cX10_exchanges 61 = .ok (.iload_n 3, 1)) ∧ (decode cX10_exchanges 62 = .ok (.iastore, 1)) ∧ (decode cX10_exchanges 63 = .ok (.aload_n 0, 1)) ∧ (decode cX10_exchanges 64 = .ok (.getfield 28, 3)) ∧ (decode cX10_exchanges 67 = .ok (.bipush 6, 2)) := by decide +kernel
theorem dX10_exchanges_45 : decode cX10_exchanges 45 = .ok (.getfield 28, 3) := da9_dX10_exchanges_45.1
theorem dX10_exchanges_48 : decode cX10_exchanges 48 = .ok (.bipush 6, 2) := da9_dX10_exchanges_45.2.1
theorem dX10_exchanges_50 : decode cX10_exchanges 50 = .ok (.iload_n 2, 1) := da9_dX10_exchanges_45.2.2.1
theorem dX10_exchanges_51 : decode cX10_exchanges 51 = .ok (.iadd, 1) := da9_dX10_exchanges_45.2.2.2.1
theorem dX10_exchanges_52 : decode cX10_exchanges 52 = .ok (.iaload, 1) := da9_dX10_exchanges_45.2.2.2.2.1
theorem dX10_exchanges_53 : decode cX10_exchanges 53 = .ok (.iastore, 1) := da9_dX10_exchanges_45.2.2.2.2.2.1
theorem dX10_exchanges_54 : decode cX10_exchanges 54 = .ok (.aload_n 0, 1) := da9_dX10_exchanges_45.2.2.2.2.2.2.1
theorem dX10_exchanges_55 : decode cX10_exchanges 55 = .ok (.getfield 28, 3) := da9_dX10_exchanges_45.2.2.2.2.2.2.2.1
theorem dX10_exchanges_58 : decode cX10_exchanges 58 = .ok (.iconst 0, 1) := da9_dX10_exchanges_45.2.2.2.2.2.2.2.2.1
theorem dX10_exchanges_59 : decode cX10_exchanges 59 = .ok (.iload_n 2, 1) := da9_dX10_exchanges_45.2.2.2.2.2.2.2.2.2.1
theorem dX10_exchanges_60 : decode cX10_exchanges 60 = .ok (.iadd, 1) := da9_dX10_exchanges_45.2.2.2.2.2.2.2.2.2.2.1
theorem dX10_exchanges_61 : decode cX10_exchanges 61 = .ok (.iload_n 3, 1) := da9_dX10_exchanges_45.2.2.2.2.2.2.2.2.2.2.2.1
theorem dX10_exchanges_62 : decode cX10_exchanges 62 = .ok (.iastore, 1) := da9_dX10_exchanges_45.2.2.2.2.2.2.2.2.2.2.2.2.1
theorem dX10_exchanges_63 : decode cX10_exchanges 63 = .ok (.aload_n 0, 1) := da9_dX10_exchanges_45.2.2.2.2.2.2.2.2.2.2.2.2.2.1
theorem dX10_exchanges_64 : decode cX10_exchanges 64 = .ok (.getfield 28, 3) := da9_dX10_exchanges_45.2.2.2.2.2.2.2.2.2.2.2.2.2.2.1
theorem dX10_exchanges_67 : decode cX10_exchanges 67 = .ok (.bipush 6, 2) := da9_dX10_exchanges_45.2.2.2.2.2.2.2.2.2.2.2.2.2.2.2
theorem da9_dX10_exchanges_69 : (decode cX10_exchanges 69 = .ok (.iload_n 2, 1)) ∧ (decode cX10_exchanges 70 = .ok (.iadd, 1)) ∧ (decode cX10_exchanges 71 = .ok (.iload 4, 2)) ∧ (decode cX10_exchanges 73 = .ok (.iastore, 1)) ∧ (decode cX10_exchanges 74 = .ok (.return_, 1)) := by decide +kernel
theorem dX10_exchanges_69 : decode cX10_exchanges 69 = .ok (.iload_n 2, 1) := da9_dX10_exchanges_69.1
theorem dX10_exchanges_70 : decode cX10_exchanges 70 = .ok (.iadd, 1) := da9_dX10_exchanges_69.2.1
theorem dX10_exchanges_71 : decode cX10_exchanges 71 = .ok (.iload 4, 2) := da9_dX10_exchanges_69.2.2.1
theorem dX10_exchanges_73 : decode cX10_exchanges 73 = .ok (.iastore, 1) := da9_dX10_exchanges_69.2.2.2.1
theorem dX10_exchanges_74 : decode cX10_exchanges 74 = .ok (.return_, 1) := da9_dX10_exchanges_69.2.2.2.2
set_option maxRecDepth 20000 in
theorem ggX10_turns_X10_rankBelow : GoodIn wsX10_turns wsX10_rankBelow := wd_c vW10_ok mvW10_130
set_option maxRecDepth 20000 in
theorem gX10_turns_X10_rankBelow : GoodIn wsX10_turns (wsV RX10 149 RX10 yX10_rankBelow wsX10_rankBelow) := goodIn_app (wd_l vW10_ok _ pvW10_151) ggX10_turns_X10_rankBelow
set_option maxRecDepth 20000 in
theorem ggX10_turns_X10_setsTurn : GoodIn wsX10_turns wsX10_setsTurn := wd_c vW10_ok mvW10_134
set_option maxRecDepth 20000 in
theorem gX10_turns_X10_setsTurn : GoodIn wsX10_turns (wsV RX10 152 RX10 yX10_setsTurn wsX10_setsTurn) := goodIn_app (wd_l vW10_ok _ pvW10_152) ggX10_turns_X10_setsTurn
set_option maxRecDepth 20000 in
theorem ggX10_turns_X10_paysNow : GoodIn wsX10_turns wsX10_paysNow := wd_c vW10_ok mvW10_138
set_option maxRecDepth 20000 in
theorem gX10_turns_X10_paysNow : GoodIn wsX10_turns (wsV RX10 156 RX10 yX10_paysNow wsX10_paysNow) := goodIn_app (wd_l vW10_ok _ pvW10_153) ggX10_turns_X10_paysNow
set_option maxRecDepth 20000 in
theorem ggX10_turns_X10_exchanges : GoodIn wsX10_turns wsX10_exchanges := wd_c vW10_ok mvW10_293
set_option maxRecDepth 20000 in
theorem gX10_turns_X10_exchanges : GoodIn wsX10_turns (wsV RX10 347 RX10 yX10_exchanges wsX10_exchanges) := goodIn_app (wd_l vW10_ok _ pvW10_196) ggX10_turns_X10_exchanges
set_option maxRecDepth 20000 in
theorem ggX10_turns_X10_lesser : GoodIn wsX10_turns wsX10_lesser := wd_c vW10_ok mvW10_317
set_option maxRecDepth 20000 in
theorem gX10_turns_X10_lesser : GoodIn wsX10_turns (va_wsS RX10 350 yX10_lesser wsX10_lesser) := goodIn_app (wd_l vW10_ok _ pvW10_197) ggX10_turns_X10_lesser
theorem da9_dX10_turns_0 : (decode cX10_turns 0 = .ok (.aload_n 0, 1)) ∧ (decode cX10_turns 1 = .ok (.iload_n 1, 1)) ∧ (decode cX10_turns 2 = .ok (.aload_n 0, 1)) ∧ (decode cX10_turns 3 = .ok (.getfield 28, 3)) ∧ (decode cX10_turns 6 = .ok (.iconst 0, 1)) ∧ (decode cX10_turns 7 = .ok (.iaload, 1)) ∧ (decode cX10_turns 8 = .ok (.aload_n 0, 1)) ∧ (decode cX10_turns 9 = .ok (.iload_n 1, 1)) ∧ (decode cX10_turns 10 = .ok (.invokevirtual 149, 3)) ∧ (decode cX10_turns 13 = .ok (.aload_n 0, 1)) ∧ (decode cX10_turns 14 = .ok (.getfield 28, 3)) ∧ (decode cX10_turns 17 = .ok (.bipush 6, 2)) ∧ (decode cX10_turns 19 = .ok (.iaload, 1)) ∧ (decode cX10_turns 20 = .ok (.invokevirtual 152, 3)) ∧ (decode cX10_turns 23 = .ok (.aload_n 0, 1)) ∧ (decode cX10_turns 24 = .ok (.invokevirtual 156, 3)) := by decide +kernel
theorem dX10_turns_0 : decode cX10_turns 0 = .ok (.aload_n 0, 1) := da9_dX10_turns_0.1
theorem dX10_turns_1 : decode cX10_turns 1 = .ok (.iload_n 1, 1) := da9_dX10_turns_0.2.1
theorem dX10_turns_2 : decode cX10_turns 2 = .ok (.aload_n 0, 1) := da9_dX10_turns_0.2.2.1
theorem dX10_turns_3 : decode cX10_turns 3 = .ok (.getfield 28, 3) := da9_dX10_turns_0.2.2.2.1
theorem dX10_turns_6 : decode cX10_turns 6 = .ok (.iconst 0, 1) := da9_dX10_turns_0.2.2.2.2.1
theorem dX10_turns_7 : decode cX10_turns 7 = .ok (.iaload, 1) := da9_dX10_turns_0.2.2.2.2.2.1
theorem dX10_turns_8 : decode cX10_turns 8 = .ok (.aload_n 0, 1) := da9_dX10_turns_0.2.2.2.2.2.2.1
theorem dX10_turns_9 : decode cX10_turns 9 = .ok (.iload_n 1, 1) := da9_dX10_turns_0.2.2.2.2.2.2.2.1
theorem dX10_turns_10 : decode cX10_turns 10 = .ok (.invokevirtual 149, 3) := da9_dX10_turns_0.2.2.2.2.2.2.2.2.1
theorem dX10_turns_13 : decode cX10_turns 13 = .ok (.aload_n 0, 1) := da9_dX10_turns_0.2.2.2.2.2.2.2.2.2.1
theorem dX10_turns_14 : decode cX10_turns 14 = .ok (.getfield 28, 3) := da9_dX10_turns_0.2.2.2.2.2.2.2.2.2.2.1
theorem dX10_turns_17 : decode cX10_turns 17 = .ok (.bipush 6, 2) := da9_dX10_turns_0.2.2.2.2.2.2.2.2.2.2.2.1
theorem dX10_turns_19 : decode cX10_turns 19 = .ok (.iaload, 1) := da9_dX10_turns_0.2.2.2.2.2.2.2.2.2.2.2.2.1
theorem dX10_turns_20 : decode cX10_turns 20 = .ok (.invokevirtual 152, 3) := da9_dX10_turns_0.2.2.2.2.2.2.2.2.2.2.2.2.2.1
theorem dX10_turns_23 : decode cX10_turns 23 = .ok (.aload_n 0, 1) := da9_dX10_turns_0.2.2.2.2.2.2.2.2.2.2.2.2.2.2.1
theorem dX10_turns_24 : decode cX10_turns 24 = .ok (.invokevirtual 156, 3) := da9_dX10_turns_0.2.2.2.2.2.2.2.2.2.2.2.2.2.2.2
theorem da9_dX10_turns_27 : (decode cX10_turns 27 = .ok (.istore_n 2, 1)) ∧ (decode cX10_turns 28 = .ok (.iconst 0, 1)) ∧ (decode cX10_turns 29 = .ok (.istore_n 3, 1)) ∧ (decode cX10_turns 30 = .ok (.iconst 2, 1)) ∧ (decode cX10_turns 31 = .ok (.iload_n 3, 1)) ∧ (decode cX10_turns 32 = .ok (.imul, 1)) ∧ (decode cX10_turns 33 = .ok (.iload_n 1, 1)) ∧ (decode cX10_turns 34 = .ok (.iconst 1, 1)) ∧ (decode cX10_turns 35 = .ok (.isub, 1)) ∧ (decode cX10_turns 36 = .ok (.if_icmp .ge 19, 3)) ∧ (decode cX10_turns 39 = .ok (.aload_n 0, 1)) ∧ (decode cX10_turns 40 = .ok (.iload_n 3, 1)) ∧ (decode cX10_turns 41 = .ok (.iload_n 1, 1)) ∧ (decode cX10_turns 42 = .ok (.iconst 1, 1)) ∧ (decode cX10_turns 43 = .ok (.isub, 1)) ∧ (decode cX10_turns 44 = .ok (.iload_n 3, 1)) := by decide +kernel
theorem dX10_turns_27 : decode cX10_turns 27 = .ok (.istore_n 2, 1) := da9_dX10_turns_27.1
theorem dX10_turns_28 : decode cX10_turns 28 = .ok (.iconst 0, 1) := da9_dX10_turns_27.2.1
theorem dX10_turns_29 : decode cX10_turns 29 = .ok (.istore_n 3, 1) := da9_dX10_turns_27.2.2.1
theorem dX10_turns_30 : decode cX10_turns 30 = .ok (.iconst 2, 1) := da9_dX10_turns_27.2.2.2.1
theorem dX10_turns_31 : decode cX10_turns 31 = .ok (.iload_n 3, 1) := da9_dX10_turns_27.2.2.2.2.1
theorem dX10_turns_32 : decode cX10_turns 32 = .ok (.imul, 1) := da9_dX10_turns_27.2.2.2.2.2.1
theorem dX10_turns_33 : decode cX10_turns 33 = .ok (.iload_n 1, 1) := da9_dX10_turns_27.2.2.2.2.2.2.1
theorem dX10_turns_34 : decode cX10_turns 34 = .ok (.iconst 1, 1) := da9_dX10_turns_27.2.2.2.2.2.2.2.1
theorem dX10_turns_35 : decode cX10_turns 35 = .ok (.isub, 1) := da9_dX10_turns_27.2.2.2.2.2.2.2.2.1
theorem dX10_turns_36 : decode cX10_turns 36 = .ok (.if_icmp .ge 19, 3) := da9_dX10_turns_27.2.2.2.2.2.2.2.2.2.1
theorem dX10_turns_39 : decode cX10_turns 39 = .ok (.aload_n 0, 1) := da9_dX10_turns_27.2.2.2.2.2.2.2.2.2.2.1
theorem dX10_turns_40 : decode cX10_turns 40 = .ok (.iload_n 3, 1) := da9_dX10_turns_27.2.2.2.2.2.2.2.2.2.2.2.1
theorem dX10_turns_41 : decode cX10_turns 41 = .ok (.iload_n 1, 1) := da9_dX10_turns_27.2.2.2.2.2.2.2.2.2.2.2.2.1
theorem dX10_turns_42 : decode cX10_turns 42 = .ok (.iconst 1, 1) := da9_dX10_turns_27.2.2.2.2.2.2.2.2.2.2.2.2.2.1
theorem dX10_turns_43 : decode cX10_turns 43 = .ok (.isub, 1) := da9_dX10_turns_27.2.2.2.2.2.2.2.2.2.2.2.2.2.2.1
theorem dX10_turns_44 : decode cX10_turns 44 = .ok (.iload_n 3, 1) := da9_dX10_turns_27.2.2.2.2.2.2.2.2.2.2.2.2.2.2.2
theorem da9_dX10_turns_45 : (decode cX10_turns 45 = .ok (.isub, 1)) ∧ (decode cX10_turns 46 = .ok (.invokevirtual 347, 3)) ∧ (decode cX10_turns 49 = .ok (.iinc 3 1, 3)) ∧ (decode cX10_turns 52 = .ok (.goto (-22), 3)) ∧ (decode cX10_turns 55 = .ok (.iconst 0, 1)) ∧ (decode cX10_turns 56 = .ok (.istore_n 3, 1)) ∧ (decode cX10_turns 57 = .ok (.iload_n 3, 1)) ∧ (decode cX10_turns 58 = .ok (.iload_n 1, 1)) ∧ (decode cX10_turns 59 = .ok (.if_icmp .ge 29, 3)) ∧ (decode cX10_turns 62 = .ok (.aload_n 0, 1)) ∧ (decode cX10_turns 63 = .ok (.getfield 28, 3)) ∧ (decode cX10_turns 66 = .ok (.bipush 6, 2)) ∧ (decode cX10_turns 68 = .ok (.iload_n 3, 1)) ∧ (decode cX10_turns 69 = .ok (.iadd, 1)) ∧ (decode cX10_turns 70 = .ok (.iconst 1, 1)) ∧ (decode cX10_turns 71 = .ok (.aload_n 0, 1)) := by decide +kernel
theorem dX10_turns_45 : decode cX10_turns 45 = .ok (.isub, 1) := da9_dX10_turns_45.1
theorem dX10_turns_46 : decode cX10_turns 46 = .ok (.invokevirtual 347, 3) := da9_dX10_turns_45.2.1
theorem dX10_turns_49 : decode cX10_turns 49 = .ok (.iinc 3 1, 3) := da9_dX10_turns_45.2.2.1
theorem dX10_turns_52 : decode cX10_turns 52 = .ok (.goto (-22), 3) := da9_dX10_turns_45.2.2.2.1
theorem dX10_turns_55 : decode cX10_turns 55 = .ok (.iconst 0, 1) := da9_dX10_turns_45.2.2.2.2.1
theorem dX10_turns_56 : decode cX10_turns 56 = .ok (.istore_n 3, 1) := da9_dX10_turns_45.2.2.2.2.2.1
theorem dX10_turns_57 : decode cX10_turns 57 = .ok (.iload_n 3, 1) := da9_dX10_turns_45.2.2.2.2.2.2.1
theorem dX10_turns_58 : decode cX10_turns 58 = .ok (.iload_n 1, 1) := da9_dX10_turns_45.2.2.2.2.2.2.2.1
theorem dX10_turns_59 : decode cX10_turns 59 = .ok (.if_icmp .ge 29, 3) := da9_dX10_turns_45.2.2.2.2.2.2.2.2.1
theorem dX10_turns_62 : decode cX10_turns 62 = .ok (.aload_n 0, 1) := da9_dX10_turns_45.2.2.2.2.2.2.2.2.2.1
theorem dX10_turns_63 : decode cX10_turns 63 = .ok (.getfield 28, 3) := da9_dX10_turns_45.2.2.2.2.2.2.2.2.2.2.1
theorem dX10_turns_66 : decode cX10_turns 66 = .ok (.bipush 6, 2) := da9_dX10_turns_45.2.2.2.2.2.2.2.2.2.2.2.1
theorem dX10_turns_68 : decode cX10_turns 68 = .ok (.iload_n 3, 1) := da9_dX10_turns_45.2.2.2.2.2.2.2.2.2.2.2.2.1
theorem dX10_turns_69 : decode cX10_turns 69 = .ok (.iadd, 1) := da9_dX10_turns_45.2.2.2.2.2.2.2.2.2.2.2.2.2.1
theorem dX10_turns_70 : decode cX10_turns 70 = .ok (.iconst 1, 1) := da9_dX10_turns_45.2.2.2.2.2.2.2.2.2.2.2.2.2.2.1
theorem dX10_turns_71 : decode cX10_turns 71 = .ok (.aload_n 0, 1) := da9_dX10_turns_45.2.2.2.2.2.2.2.2.2.2.2.2.2.2.2
theorem da9_dX10_turns_72 : (decode cX10_turns 72 = .ok (.getfield 28, 3)) ∧ (decode cX10_turns 75 = .ok (.bipush 6, 2)) ∧ (decode cX10_turns 77 = .ok (.iload_n 3, 1)) ∧ (decode cX10_turns 78 = .ok (.iadd, 1)) ∧ (decode cX10_turns 79 = .ok (.iaload, 1)) ∧ (decode cX10_turns 80 = .ok (.isub, 1)) ∧ (decode cX10_turns 81 = .ok (.iastore, 1)) ∧ (decode cX10_turns 82 = .ok (.iinc 3 1, 3)) ∧ (decode cX10_turns 85 = .ok (.goto (-28), 3)) ∧ (decode cX10_turns 88 = .ok (.aload_n 0, 1)) ∧ (decode cX10_turns 89 = .ok (.getfield 28, 3)) ∧ (decode cX10_turns 92 = .ok (.bipush 12, 2)) ∧ (decode cX10_turns 94 = .ok (.sipush 9999, 3)) ∧ (decode cX10_turns 97 = .ok (.aload_n 0, 1)) ∧ (decode cX10_turns 98 = .ok (.getfield 28, 3)) ∧ (decode cX10_turns 101 = .ok (.bipush 12, 2)) := by decide +kernel
theorem dX10_turns_72 : decode cX10_turns 72 = .ok (.getfield 28, 3) := da9_dX10_turns_72.1
theorem dX10_turns_75 : decode cX10_turns 75 = .ok (.bipush 6, 2) := da9_dX10_turns_72.2.1
theorem dX10_turns_77 : decode cX10_turns 77 = .ok (.iload_n 3, 1) := da9_dX10_turns_72.2.2.1
theorem dX10_turns_78 : decode cX10_turns 78 = .ok (.iadd, 1) := da9_dX10_turns_72.2.2.2.1
theorem dX10_turns_79 : decode cX10_turns 79 = .ok (.iaload, 1) := da9_dX10_turns_72.2.2.2.2.1
theorem dX10_turns_80 : decode cX10_turns 80 = .ok (.isub, 1) := da9_dX10_turns_72.2.2.2.2.2.1
theorem dX10_turns_81 : decode cX10_turns 81 = .ok (.iastore, 1) := da9_dX10_turns_72.2.2.2.2.2.2.1
theorem dX10_turns_82 : decode cX10_turns 82 = .ok (.iinc 3 1, 3) := da9_dX10_turns_72.2.2.2.2.2.2.2.1
theorem dX10_turns_85 : decode cX10_turns 85 = .ok (.goto (-28), 3) := da9_dX10_turns_72.2.2.2.2.2.2.2.2.1
theorem dX10_turns_88 : decode cX10_turns 88 = .ok (.aload_n 0, 1) := da9_dX10_turns_72.2.2.2.2.2.2.2.2.2.1
theorem dX10_turns_89 : decode cX10_turns 89 = .ok (.getfield 28, 3) := da9_dX10_turns_72.2.2.2.2.2.2.2.2.2.2.1
theorem dX10_turns_92 : decode cX10_turns 92 = .ok (.bipush 12, 2) := da9_dX10_turns_72.2.2.2.2.2.2.2.2.2.2.2.1
theorem dX10_turns_94 : decode cX10_turns 94 = .ok (.sipush 9999, 3) := da9_dX10_turns_72.2.2.2.2.2.2.2.2.2.2.2.2.1
theorem dX10_turns_97 : decode cX10_turns 97 = .ok (.aload_n 0, 1) := da9_dX10_turns_72.2.2.2.2.2.2.2.2.2.2.2.2.2.1
theorem dX10_turns_98 : decode cX10_turns 98 = .ok (.getfield 28, 3) := da9_dX10_turns_72.2.2.2.2.2.2.2.2.2.2.2.2.2.2.1
theorem dX10_turns_101 : decode cX10_turns 101 = .ok (.bipush 12, 2) := da9_dX10_turns_72.2.2.2.2.2.2.2.2.2.2.2.2.2.2.2
theorem da9_dX10_turns_103 : (decode cX10_turns 103 = .ok (.iaload, 1)) ∧ (decode cX10_turns 104 = .ok (.iload_n 2, 1)) ∧ (decode cX10_turns 105 = .ok (.iadd, 1)) ∧ (decode cX10_turns 106 = .ok (.invokestatic 350, 3)) ∧ (decode cX10_turns 109 = .ok (.iastore, 1)) ∧ (decode cX10_turns 110 = .ok (.iload_n 2, 1)) ∧ (decode cX10_turns 111 = .ok (.ireturn, 1)) := by decide +kernel
theorem dX10_turns_103 : decode cX10_turns 103 = .ok (.iaload, 1) := da9_dX10_turns_103.1
theorem dX10_turns_104 : decode cX10_turns 104 = .ok (.iload_n 2, 1) := da9_dX10_turns_103.2.1
theorem dX10_turns_105 : decode cX10_turns 105 = .ok (.iadd, 1) := da9_dX10_turns_103.2.2.1
theorem dX10_turns_106 : decode cX10_turns 106 = .ok (.invokestatic 350, 3) := da9_dX10_turns_103.2.2.2.1
theorem dX10_turns_109 : decode cX10_turns 109 = .ok (.iastore, 1) := da9_dX10_turns_103.2.2.2.2.1
theorem dX10_turns_110 : decode cX10_turns 110 = .ok (.iload_n 2, 1) := da9_dX10_turns_103.2.2.2.2.2.1
theorem dX10_turns_111 : decode cX10_turns 111 = .ok (.ireturn, 1) := da9_dX10_turns_103.2.2.2.2.2.2
end
section
theorem u9_wsX10_readOne_X10 : ∀ w ∈ u_ws RX10 TX10 56, w ∈ wsX10_readOne := fun w h => List.mem_cons_of_mem _ (vW10_wsX100 w h)
theorem f9_wsX10_readOne_127 : (Cond.fieldLink RX10 221 "TurnedFloorsModel" "isOrders" "Z") ∈ wsX10_readOne := List.mem_cons_of_mem _ mvW10_153
theorem u9_wsX10_reads_X10 : ∀ w ∈ u_ws RX10 TX10 56, w ∈ wsX10_reads := fun w h => List.mem_cons_of_mem _ (vW10_wsX100 w h)
theorem f9_wsX10_reads_129 : (Cond.fieldLink RX10 189 "TurnedFloorsModel" "bad" "I") ∈ wsX10_reads := List.mem_cons_of_mem _ mvW10_162
theorem f9_wsX10_reads_130 : (Cond.fieldLink RX10 51 "TurnedFloorsModel" "fault" "I") ∈ wsX10_reads := List.mem_cons_of_mem _ mvW10_164
theorem f9_wsX10_reads_131 : (Cond.fieldLink RX10 196 "TurnedFloorsModel" "token" "I") ∈ wsX10_reads := List.mem_cons_of_mem _ mvW10_160
theorem f9_wsX10_reads_132 : (Cond.fieldLink RX10 175 "TurnedFloorsModel" "tokens" "I") ∈ wsX10_reads := List.mem_cons_of_mem _ mvW10_163
theorem f9_wsX10_reads_133 : (Cond.fieldLink RX10 169 "TurnedFloorsModel" "taped" "I") ∈ wsX10_reads := List.mem_cons_of_mem _ mvW10_145
theorem f9_wsX10_reads_134 : (Cond.fieldLink RX10 205 "TurnedFloorsModel" "leaves" "I") ∈ wsX10_reads := List.mem_cons_of_mem _ mvW10_161
theorem u9_wsX10_readsAs_X10 : ∀ w ∈ u_ws RX10 TX10 56, w ∈ wsX10_readsAs := fun w h => List.mem_cons_of_mem _ (vW10_wsX100 w h)
theorem f9_wsX10_readsAs_136 : (Cond.fieldLink RX10 250 "TurnedFloorsModel" "lastWord" "I") ∈ wsX10_readsAs := List.mem_cons_of_mem _ mvW10_155
theorem f9_wsX10_readsAs_137 : (Cond.fieldLink RX10 247 "TurnedFloorsModel" "firstWord" "I") ∈ wsX10_readsAs := List.mem_cons_of_mem _ mvW10_154
theorem f9_wsX10_readsAs_138 : (Cond.fieldLink RX10 221 "TurnedFloorsModel" "isOrders" "Z") ∈ wsX10_readsAs := List.mem_cons_of_mem _ mvW10_153
theorem u9_wsX10_lays_X10 : ∀ w ∈ u_ws RX10 TX10 56, w ∈ wsX10_lays := fun w h => List.mem_cons_of_mem _ (vW10_wsX100 w h)
theorem f9_wsX10_lays_140 : (Cond.fieldLink RX10 175 "TurnedFloorsModel" "tokens" "I") ∈ wsX10_lays := List.mem_cons_of_mem _ mvW10_163
theorem f9_wsX10_lays_141 : (Cond.fieldLink RX10 28 "TurnedFloorsModel" "kept" "[I") ∈ wsX10_lays := List.mem_cons_of_mem _ mvW10_20
theorem f9_wsX10_lays_142 : (Cond.fieldLink RX10 54 "TurnedFloorsModel" "code" "[I") ∈ wsX10_lays := List.mem_cons_of_mem _ mvW10_171
theorem f9_wsX10_lays_143 : (Cond.fieldLink RX10 57 "TurnedFloorsModel" "value" "[I") ∈ wsX10_lays := List.mem_cons_of_mem _ mvW10_170
theorem u9_wsX10_law_X10 : ∀ w ∈ u_ws RX10 TX10 56, w ∈ wsX10_law := fun w h => List.mem_cons_of_mem _ (vW10_wsX100 w h)
theorem f9_wsX10_law_145 : (Cond.fieldLink RX10 28 "TurnedFloorsModel" "kept" "[I") ∈ wsX10_law := List.mem_cons_of_mem _ mvW10_20
theorem f9_wsX10_law_146 : (Cond.fieldLink RX10 169 "TurnedFloorsModel" "taped" "I") ∈ wsX10_law := List.mem_cons_of_mem _ mvW10_145
theorem u9_wsX10_fault_X10 : ∀ w ∈ u_ws RX10 TX10 56, w ∈ wsX10_fault := fun w h => List.mem_cons_of_mem _ (vW10_wsX100 w h)
theorem f9_wsX10_fault_148 : (Cond.fieldLink RX10 51 "TurnedFloorsModel" "fault" "I") ∈ wsX10_fault := List.mem_cons_of_mem _ mvW10_164
theorem u9_wsX10_isLaw_X10 : ∀ w ∈ u_ws RX10 TX10 56, w ∈ wsX10_isLaw := fun w h => List.mem_cons_of_mem _ (vW10_wsX100 w h)
theorem f9_wsX10_isLaw_150 : (Cond.fieldLink RX10 28 "TurnedFloorsModel" "kept" "[I") ∈ wsX10_isLaw := List.mem_cons_of_mem _ mvW10_20
theorem u9_wsX10_force_X10 : ∀ w ∈ u_ws RX10 TX10 56, w ∈ wsX10_force := fun w h => List.mem_cons_of_mem _ (vW10_wsX100 w h)
theorem f9_wsX10_force_152 : (Cond.fieldLink RX10 28 "TurnedFloorsModel" "kept" "[I") ∈ wsX10_force := List.mem_cons_of_mem _ mvW10_20
theorem u9_wsX10_canTurn_X10 : ∀ w ∈ u_ws RX10 TX10 56, w ∈ wsX10_canTurn := fun w h => List.mem_cons_of_mem _ (vW10_wsX100 w h)
theorem f9_wsX10_canTurn_154 : (Cond.fieldLink RX10 28 "TurnedFloorsModel" "kept" "[I") ∈ wsX10_canTurn := List.mem_cons_of_mem _ mvW10_20
theorem u9_wsX10_exchanges_X10 : ∀ w ∈ u_ws RX10 TX10 56, w ∈ wsX10_exchanges := fun w h => List.mem_cons_of_mem _ (vW10_wsX100 w h)
theorem f9_wsX10_exchanges_156 : (Cond.fieldLink RX10 28 "TurnedFloorsModel" "kept" "[I") ∈ wsX10_exchanges := List.mem_cons_of_mem _ mvW10_20
theorem u9_wsX10_turns_X10 : ∀ w ∈ u_ws RX10 TX10 56, w ∈ wsX10_turns := fun w h => List.mem_cons_of_mem _ (vW10_wsX100 w h)
theorem f9_wsX10_turns_158 : (Cond.fieldLink RX10 28 "TurnedFloorsModel" "kept" "[I") ∈ wsX10_turns := List.mem_cons_of_mem _ mvW10_20
set_option maxHeartbeats 4000000 in
set_option maxRecDepth 100000 in
theorem WX10_readOrder_70 {p : Program} {l : Launch} {e : Env} {s : State} {m : MethodId} {args : Array Value} {below : List Frame} {meth : Method} {c : Code} {D : va_G} {ty : Nat → ClassId} {eo : Nat → Nat} {A : Nat → Prop} {ad : Nat → Nat} {o2 : dS} (C : dc_C p s m args meth c cX10_readOrder none 1 RX10 wsX10_readOrder D ty eo A)   (q : dS)  (H : Heap) (locs : List Loc) (ls : Array Slot) (h : zX10_readOrder_70  q = some o2) (hP : va_P D vwCl (w10 ty ad q) H) (hD : va_D A (w10 ty ad q)) (hS : va_S A s.heap H locs) (hl : lv_has ls 1 []) : W p l e ({ frames := 75, cells := 0, slots := 0, locals := 1771 } : Room) s m args below meth c H locs 0 0 (MQ below (va_Qv (fun (u : va_W) => w10 ty ad o2 = u) (kz_B D ty A) A) args s 0 0 A) (F0 m 70 ls []) := by
  have C0 := C
  obtain ⟨hx, hb, hr, hts, hown, hlocks, hml, hK, hN, hE, hA⟩ := C
  unfold zX10_readOrder_70 at h
  cases h
  exact kz_vret hx hb hr hlocks hP hK hD hS dX10_readOrder_70 rfl
set_option maxHeartbeats 4000000 in
set_option maxRecDepth 100000 in
theorem WX10_readOrder_57 {p : Program} {l : Launch} {e : Env} {s : State} {m : MethodId} {args : Array Value} {below : List Frame} {meth : Method} {c : Code} {D : va_G} {ty : Nat → ClassId} {eo : Nat → Nat} {A : Nat → Prop} {ad : Nat → Nat} {o2 : dS} (C : dc_C p s m args meth c cX10_readOrder none 1 RX10 wsX10_readOrder D ty eo A)   (q : dS)  (H : Heap) (locs : List Loc) (ls : Array Slot) (h : zX10_readOrder_57  q = some o2) (hP : va_P D vwCl (w10 ty ad q) H) (hD : va_D A (w10 ty ad q)) (hS : va_S A s.heap H locs) (hl : lv_has ls 1 [(0, .ref (ad 0))]) : W p l e ({ frames := 75, cells := 0, slots := 0, locals := 1771 } : Room) s m args below meth c H locs 0 0 (MQ below (va_Qv (fun (u : va_W) => w10 ty ad o2 = u) (kz_B D ty A) A) args s 0 0 A) (F0 m 57 ls []) := by
  have C0 := C
  obtain ⟨hx, hb, hr, hts, hown, hlocks, hml, hK, hN, hE, hA⟩ := C
  unfold zX10_readOrder_57 at h
  refine lv_aload_n hx hb dX10_readOrder_57 rfl (lv_at hl 0 rfl) ?_
  refine lv_iconst (v := 4) hx hb dX10_readOrder_58 (by decide) ?_
  obtain ⟨r1, q3, h2, h⟩ := dB_some h
  refine dw_ki (va_runV (As := [.int 4]) (rest := []) ⟨hx, hb, hml, hown, hts⟩ (qX10_takes0 l D ty eo _ ad q 4 r1 q3 h2) (cwV 1 hts gX10_readOrder_X10_takes0 rfl rfl rfl hd_X10_takes0_v ⟨Nat.le_of_ble_eq_true rfl, Nat.le_of_ble_eq_true rfl⟩) (pv10_10_0 hK hN hE hP hD hS hA) rfl rfl hl.1 rfl (lv_room (Nat.le_of_ble_eq_true rfl)) dX10_readOrder_59 ⟨Nat.le_of_ble_eq_true rfl, Nat.le_of_ble_eq_true rfl⟩) hD hS hA (fun r9 u9 H locs hw hp hd hs => ?_)
  clear hP hD hS
  obtain ⟨rfl, rfl⟩ := hw
  have hP := hp; have hD := hd; have hS := hs; clear hp hd hs
  refine lv_if_eq (tgt := 70) hx hb dX10_readOrder_62 (by decide) (fun c9 => ?_) (fun c9 => ?_)
  · rw [if_pos c9] at h
    exact WX10_readOrder_70 C0  _ _ _ _ h hP hD hS (lv_sub hl [] rfl)
  · rw [if_neg c9] at h
    refine lv_aload_n hx hb dX10_readOrder_65 rfl (lv_at hl 0 rfl) ?_
    refine lv_iconst (v := 0) hx hb dX10_readOrder_66 (by decide) ?_
    obtain ⟨q6, h5, h⟩ := dV_some h
    refine dw_kv (va_runV (As := [.int 0]) (rest := []) ⟨hx, hb, hml, hown, hts⟩ (qX10_readTest l D ty eo _ ad 10 q3 0 q6 h5) (cwV 1 hts gX10_readOrder_X10_readTest rfl rfl rfl hd_X10_readTest_v ⟨Nat.le_of_ble_eq_true rfl, Nat.le_of_ble_eq_true rfl⟩) (pv10_10_0 hK hN hE hP hD hS hA) rfl rfl hl.1 rfl (lv_room (Nat.le_of_ble_eq_true rfl)) dX10_readOrder_67 ⟨Nat.le_of_ble_eq_true rfl, Nat.le_of_ble_eq_true rfl⟩) hD hS hA (fun u9 H locs hw hp hd hs => ?_)
    clear hP hD hS
    obtain rfl := hw
    have hP := hp; have hD := hd; have hS := hs; clear hp hd hs
    exact WX10_readOrder_70 C0  _ _ _ _ h hP hD hS (lv_sub hl [] rfl)
set_option maxHeartbeats 4000000 in
set_option maxRecDepth 100000 in
theorem WX10_readOrder_41 {p : Program} {l : Launch} {e : Env} {s : State} {m : MethodId} {args : Array Value} {below : List Frame} {meth : Method} {c : Code} {D : va_G} {ty : Nat → ClassId} {eo : Nat → Nat} {A : Nat → Prop} {ad : Nat → Nat} {o2 : dS} (C : dc_C p s m args meth c cX10_readOrder none 1 RX10 wsX10_readOrder D ty eo A)   (q : dS)  (H : Heap) (locs : List Loc) (ls : Array Slot) (h : zX10_readOrder_41  q = some o2) (hP : va_P D vwCl (w10 ty ad q) H) (hD : va_D A (w10 ty ad q)) (hS : va_S A s.heap H locs) (hl : lv_has ls 1 [(0, .ref (ad 0))]) : W p l e ({ frames := 75, cells := 0, slots := 0, locals := 1771 } : Room) s m args below meth c H locs 0 0 (MQ below (va_Qv (fun (u : va_W) => w10 ty ad o2 = u) (kz_B D ty A) A) args s 0 0 A) (F0 m 41 ls []) := by
  have C0 := C
  obtain ⟨hx, hb, hr, hts, hown, hlocks, hml, hK, hN, hE, hA⟩ := C
  unfold zX10_readOrder_41 at h
  refine lv_aload_n hx hb dX10_readOrder_41 rfl (lv_at hl 0 rfl) ?_
  refine lv_bipush (v := 26) hx hb dX10_readOrder_42 (by decide) ?_
  obtain ⟨r1, q3, h2, h⟩ := dB_some h
  refine dw_ki (va_runV (As := [.int 26]) (rest := []) ⟨hx, hb, hml, hown, hts⟩ (qX10_takes0 l D ty eo _ ad q 26 r1 q3 h2) (cwV 1 hts gX10_readOrder_X10_takes0 rfl rfl rfl hd_X10_takes0_v ⟨Nat.le_of_ble_eq_true rfl, Nat.le_of_ble_eq_true rfl⟩) (pv10_10_0 hK hN hE hP hD hS hA) rfl rfl hl.1 rfl (lv_room (Nat.le_of_ble_eq_true rfl)) dX10_readOrder_44 ⟨Nat.le_of_ble_eq_true rfl, Nat.le_of_ble_eq_true rfl⟩) hD hS hA (fun r9 u9 H locs hw hp hd hs => ?_)
  clear hP hD hS
  obtain ⟨rfl, rfl⟩ := hw
  have hP := hp; have hD := hd; have hS := hs; clear hp hd hs
  refine lv_if_eq (tgt := 57) hx hb dX10_readOrder_47 (by decide) (fun c9 => ?_) (fun c9 => ?_)
  · rw [if_pos c9] at h
    exact WX10_readOrder_57 C0  _ _ _ _ h hP hD hS (lv_sub hl [0] rfl)
  · rw [if_neg c9] at h
    refine lv_aload_n hx hb dX10_readOrder_50 rfl (lv_at hl 0 rfl) ?_
    refine lv_iconst (v := 1) hx hb dX10_readOrder_51 (by decide) ?_
    refine lv_bipush (v := 20) hx hb dX10_readOrder_52 (by decide) ?_
    obtain ⟨q6, h5, h⟩ := dV_some h
    refine dw_kv (va_runV (As := [.int 1, .int 20]) (rest := []) ⟨hx, hb, hml, hown, hts⟩ (qX10_mustNumber l D ty eo _ ad q3 1 20 q6 h5) (cwV 2 hts gX10_readOrder_X10_mustNumber rfl rfl rfl hd_X10_mustNumber_v ⟨Nat.le_of_ble_eq_true rfl, Nat.le_of_ble_eq_true rfl⟩) (pv10_10_0 hK hN hE hP hD hS hA) rfl rfl hl.1 rfl (lv_room (Nat.le_of_ble_eq_true rfl)) dX10_readOrder_54 ⟨Nat.le_of_ble_eq_true rfl, Nat.le_of_ble_eq_true rfl⟩) hD hS hA (fun u9 H locs hw hp hd hs => ?_)
    clear hP hD hS
    obtain rfl := hw
    have hP := hp; have hD := hd; have hS := hs; clear hp hd hs
    exact WX10_readOrder_57 C0  _ _ _ _ h hP hD hS (lv_sub hl [0] rfl)
set_option maxHeartbeats 4000000 in
set_option maxRecDepth 100000 in
theorem WX10_readOrder_27 {p : Program} {l : Launch} {e : Env} {s : State} {m : MethodId} {args : Array Value} {below : List Frame} {meth : Method} {c : Code} {D : va_G} {ty : Nat → ClassId} {eo : Nat → Nat} {A : Nat → Prop} {ad : Nat → Nat} {o2 : dS} (C : dc_C p s m args meth c cX10_readOrder none 1 RX10 wsX10_readOrder D ty eo A)   (q : dS)  (H : Heap) (locs : List Loc) (ls : Array Slot) (h : zX10_readOrder_27  q = some o2) (hP : va_P D vwCl (w10 ty ad q) H) (hD : va_D A (w10 ty ad q)) (hS : va_S A s.heap H locs) (hl : lv_has ls 1 [(0, .ref (ad 0))]) : W p l e ({ frames := 75, cells := 0, slots := 0, locals := 1771 } : Room) s m args below meth c H locs 0 0 (MQ below (va_Qv (fun (u : va_W) => w10 ty ad o2 = u) (kz_B D ty A) A) args s 0 0 A) (F0 m 27 ls []) := by
  have C0 := C
  obtain ⟨hx, hb, hr, hts, hown, hlocks, hml, hK, hN, hE, hA⟩ := C
  unfold zX10_readOrder_27 at h
  refine lv_aload_n hx hb dX10_readOrder_27 rfl (lv_at hl 0 rfl) ?_
  refine lv_iconst (v := 0) hx hb dX10_readOrder_28 (by decide) ?_
  obtain ⟨q3, h2, h⟩ := dV_some h
  refine dw_kv (va_runV (As := [.int 0]) (rest := []) ⟨hx, hb, hml, hown, hts⟩ (qX10_readSum l D ty eo _ ad 10 q 0 q3 h2) (cwV 1 hts gX10_readOrder_X10_readSum rfl rfl rfl hd_X10_readSum_v ⟨Nat.le_of_ble_eq_true rfl, Nat.le_of_ble_eq_true rfl⟩) (pv10_10_0 hK hN hE hP hD hS hA) rfl rfl hl.1 rfl (lv_room (Nat.le_of_ble_eq_true rfl)) dX10_readOrder_29 ⟨Nat.le_of_ble_eq_true rfl, Nat.le_of_ble_eq_true rfl⟩) hD hS hA (fun u9 H locs hw hp hd hs => ?_)
  clear hP hD hS
  obtain rfl := hw
  have hP := hp; have hD := hd; have hS := hs; clear hp hd hs
  refine lv_goto (tgt := 41) hx hb dX10_readOrder_32 (by decide) ?_
  exact WX10_readOrder_41 C0  _ _ _ _ h hP hD hS (lv_sub hl [0] rfl)
set_option maxHeartbeats 4000000 in
set_option maxRecDepth 100000 in
theorem qX10_readOrder (l : Launch) (D : va_G) (ty : Nat → ClassId) (eo : Nat → Nat) (sz : Nat) (ad : Nat → Nat) (q : dS)  (o2 : dS) (h : zX10_readOrder q = some o2) : Met l yX10_readOrder wsX10_readOrder ({ frames := 75, cells := 0, slots := 0, locals := 1771 } : Room) (va_Pc [.ref (ad 0)] (kz_pre D ty eo (w10 ty ad q) sz)) (va_Qv (fun (u : va_W) => w10 ty ad o2 = u) (kz_B D ty (va_A (w10 ty ad q) sz)) (va_A (w10 ty ad q) sz)) 0 0 (va_A (w10 ty ad q) sz) := by
  refine Met.ofW (cc := cX10_readOrder) (maxL := 1) (ret := none) (by decide) rfl ?_
  intro p e s m args below meth c s₁ B hml hv
  obtain ⟨rfl, hsz, hP, hK, hD0, hN, hE⟩ := hv
  have hx := B.exec
  have hb := B.bytes
  have hr := B.returns
  have hts := atoms_spec (ws := wsX10_readOrder) B.pre
  have hown : s.vm.findClass RX10 = some m.cls := findClass_of_methodNamed B.named
  have hlocks := B.notSynchronized
  subst hsz
  have hD := hD0.self (sz := s.heap.size)
  generalize hAe : va_A (w10 ty ad q) s.heap.size = A at hD hE ⊢
  have hA : ∀ q : Nat, s.heap.size ≤ q → A q := fun q h => by rw [← hAe]; exact Or.inr h
  clear hAe
  have hS : va_S A s.heap s.heap [] := va_S.rf
  have hl := lv_entry ([.ref (ad 0)]) (n := 1) (Nat.le_of_ble_eq_true rfl)
  rw [lg_entry_eq]
  generalize (lg_sl ([.ref (ad 0)]) ++ List.replicate (1 - (lg_sl ([.ref (ad 0)])).length) Slot.unset).toArray = ls at hl ⊢
  have hl : lv_has ls 1 [(0, .ref (ad 0))] := hl
  have C : dc_C p s m _ meth c cX10_readOrder none 1 RX10 wsX10_readOrder D ty eo A := ⟨hx, hb, hr, hts, hown, hlocks, hml, hK, hN, hE, hA⟩
  unfold zX10_readOrder at h
  refine lv_aload_n hx hb dX10_readOrder_0 rfl (lv_at hl 0 rfl) ?_
  refine lv_bipush (v := 22) hx hb dX10_readOrder_1 (by decide) ?_
  obtain ⟨r1, q3, h2, h⟩ := dB_some h
  refine dw_ki (va_runV (As := [.int 22]) (rest := []) ⟨hx, hb, hml, hown, hts⟩ (qX10_takes0 l D ty eo _ ad q 22 r1 q3 h2) (cwV 1 hts gX10_readOrder_X10_takes0 rfl rfl rfl hd_X10_takes0_v ⟨Nat.le_of_ble_eq_true rfl, Nat.le_of_ble_eq_true rfl⟩) (pv10_10_0 hK hN hE hP hD hS hA) rfl rfl hl.1 rfl (lv_room (Nat.le_of_ble_eq_true rfl)) dX10_readOrder_3 ⟨Nat.le_of_ble_eq_true rfl, Nat.le_of_ble_eq_true rfl⟩) hD hS hA (fun r9 u9 H locs hw hp hd hs => ?_)
  clear hP hD hS
  obtain ⟨rfl, rfl⟩ := hw
  have hP := hp; have hD := hd; have hS := hs; clear hp hd hs
  refine lv_if_ne (tgt := 27) hx hb dX10_readOrder_6 (by decide) (fun c9 => ?_) (fun c9 => ?_)
  · rw [if_neg c9] at h
    exact WX10_readOrder_27 C  _ _ _ _ h hP hD hS (lv_sub hl [0] rfl)
  · rw [if_pos c9] at h
    refine lv_aload_n hx hb dX10_readOrder_9 rfl (lv_at hl 0 rfl) ?_
    refine lv_bipush (v := 23) hx hb dX10_readOrder_10 (by decide) ?_
    obtain ⟨r4, q6, h5, h⟩ := dB_some h
    refine dw_ki (va_runV (As := [.int 23]) (rest := []) ⟨hx, hb, hml, hown, hts⟩ (qX10_takes0 l D ty eo _ ad q3 23 r4 q6 h5) (cwV 1 hts gX10_readOrder_X10_takes0 rfl rfl rfl hd_X10_takes0_v ⟨Nat.le_of_ble_eq_true rfl, Nat.le_of_ble_eq_true rfl⟩) (pv10_10_0 hK hN hE hP hD hS hA) rfl rfl hl.1 rfl (lv_room (Nat.le_of_ble_eq_true rfl)) dX10_readOrder_12 ⟨Nat.le_of_ble_eq_true rfl, Nat.le_of_ble_eq_true rfl⟩) hD hS hA (fun r9 u9 H locs hw hp hd hs => ?_)
    clear hP hD hS
    obtain ⟨rfl, rfl⟩ := hw
    have hP := hp; have hD := hd; have hS := hs; clear hp hd hs
    refine lv_if_ne (tgt := 27) hx hb dX10_readOrder_15 (by decide) (fun c9 => ?_) (fun c9 => ?_)
    · rw [if_neg c9] at h
      exact WX10_readOrder_27 C  _ _ _ _ h hP hD hS (lv_sub hl [0] rfl)
    · rw [if_pos c9] at h
      refine lv_aload_n hx hb dX10_readOrder_18 rfl (lv_at hl 0 rfl) ?_
      refine lv_bipush (v := 24) hx hb dX10_readOrder_19 (by decide) ?_
      obtain ⟨r7, q9, h8, h⟩ := dB_some h
      refine dw_ki (va_runV (As := [.int 24]) (rest := []) ⟨hx, hb, hml, hown, hts⟩ (qX10_takes0 l D ty eo _ ad q6 24 r7 q9 h8) (cwV 1 hts gX10_readOrder_X10_takes0 rfl rfl rfl hd_X10_takes0_v ⟨Nat.le_of_ble_eq_true rfl, Nat.le_of_ble_eq_true rfl⟩) (pv10_10_0 hK hN hE hP hD hS hA) rfl rfl hl.1 rfl (lv_room (Nat.le_of_ble_eq_true rfl)) dX10_readOrder_21 ⟨Nat.le_of_ble_eq_true rfl, Nat.le_of_ble_eq_true rfl⟩) hD hS hA (fun r9 u9 H locs hw hp hd hs => ?_)
      clear hP hD hS
      obtain ⟨rfl, rfl⟩ := hw
      have hP := hp; have hD := hd; have hS := hs; clear hp hd hs
      refine lv_if_eq (tgt := 35) hx hb dX10_readOrder_24 (by decide) (fun c9 => ?_) (fun c9 => ?_)
      · rw [if_pos c9] at h
        refine lv_aload_n hx hb dX10_readOrder_35 rfl (lv_at hl 0 rfl) ?_
        refine lv_bipush (v := 25) hx hb dX10_readOrder_36 (by decide) ?_
        obtain ⟨q12, h11, h⟩ := dV_some h
        refine dw_kv (va_runV (As := [.int 25]) (rest := []) ⟨hx, hb, hml, hown, hts⟩ (qX10_must l D ty eo _ ad q9 25 q12 h11) (cwV 1 hts gX10_readOrder_X10_must rfl rfl rfl hd_X10_must_v ⟨Nat.le_of_ble_eq_true rfl, Nat.le_of_ble_eq_true rfl⟩) (pv10_10_0 hK hN hE hP hD hS hA) rfl rfl hl.1 rfl (lv_room (Nat.le_of_ble_eq_true rfl)) dX10_readOrder_38 ⟨Nat.le_of_ble_eq_true rfl, Nat.le_of_ble_eq_true rfl⟩) hD hS hA (fun u9 H locs hw hp hd hs => ?_)
        clear hP hD hS
        obtain rfl := hw
        have hP := hp; have hD := hd; have hS := hs; clear hp hd hs
        exact WX10_readOrder_41 C  _ _ _ _ h hP hD hS (lv_sub hl [0] rfl)
      · rw [if_neg c9] at h
        exact WX10_readOrder_27 C  _ _ _ _ h hP hD hS (lv_sub hl [0] rfl)

set_option maxHeartbeats 4000000 in
set_option maxRecDepth 100000 in
theorem WX10_readOne_18 {p : Program} {l : Launch} {e : Env} {s : State} {m : MethodId} {args : Array Value} {below : List Frame} {meth : Method} {c : Code} {D : va_G} {ty : Nat → ClassId} {eo : Nat → Nat} {A : Nat → Prop} {ad : Nat → Nat} {o2 : dS} (C : dc_C p s m args meth c cX10_readOne none 1 RX10 wsX10_readOne D ty eo A)   (q : dS)  (H : Heap) (locs : List Loc) (ls : Array Slot) (h : zX10_readOne_18  q = some o2) (hP : va_P D vwCl (w10 ty ad q) H) (hD : va_D A (w10 ty ad q)) (hS : va_S A s.heap H locs) (hl : lv_has ls 1 []) : W p l e ({ frames := 76, cells := 0, slots := 0, locals := 1791 } : Room) s m args below meth c H locs 0 0 (MQ below (va_Qv (fun (u : va_W) => w10 ty ad o2 = u) (kz_B D ty A) A) args s 0 0 A) (F0 m 18 ls []) := by
  have C0 := C
  obtain ⟨hx, hb, hr, hts, hown, hlocks, hml, hK, hN, hE, hA⟩ := C
  unfold zX10_readOne_18 at h
  cases h
  exact kz_vret hx hb hr hlocks hP hK hD hS dX10_readOne_18 rfl
set_option maxHeartbeats 4000000 in
set_option maxRecDepth 100000 in
theorem qX10_readOne (l : Launch) (D : va_G) (ty : Nat → ClassId) (eo : Nat → Nat) (sz : Nat) (ad : Nat → Nat) (q : dS)  (o2 : dS) (h : zX10_readOne q = some o2) : Met l yX10_readOne wsX10_readOne ({ frames := 76, cells := 0, slots := 0, locals := 1791 } : Room) (va_Pc [.ref (ad 0)] (kz_pre D ty eo (w10 ty ad q) sz)) (va_Qv (fun (u : va_W) => w10 ty ad o2 = u) (kz_B D ty (va_A (w10 ty ad q) sz)) (va_A (w10 ty ad q) sz)) 0 0 (va_A (w10 ty ad q) sz) := by
  refine Met.ofW (cc := cX10_readOne) (maxL := 1) (ret := none) (by decide) rfl ?_
  intro p e s m args below meth c s₁ B hml hv
  obtain ⟨rfl, hsz, hP, hK, hD0, hN, hE⟩ := hv
  have hx := B.exec
  have hb := B.bytes
  have hr := B.returns
  have hts := atoms_spec (ws := wsX10_readOne) B.pre
  have hown : s.vm.findClass RX10 = some m.cls := findClass_of_methodNamed B.named
  have hlocks := B.notSynchronized
  subst hsz
  have hD := hD0.self (sz := s.heap.size)
  generalize hAe : va_A (w10 ty ad q) s.heap.size = A at hD hE ⊢
  have hA : ∀ q : Nat, s.heap.size ≤ q → A q := fun q h => by rw [← hAe]; exact Or.inr h
  clear hAe
  have hS : va_S A s.heap s.heap [] := va_S.rf
  have hl := lv_entry ([.ref (ad 0)]) (n := 1) (Nat.le_of_ble_eq_true rfl)
  rw [lg_entry_eq]
  generalize (lg_sl ([.ref (ad 0)]) ++ List.replicate (1 - (lg_sl ([.ref (ad 0)])).length) Slot.unset).toArray = ls at hl ⊢
  have hl : lv_has ls 1 [(0, .ref (ad 0))] := hl
  have C : dc_C p s m _ meth c cX10_readOne none 1 RX10 wsX10_readOne D ty eo A := ⟨hx, hb, hr, hts, hown, hlocks, hml, hK, hN, hE, hA⟩
  unfold zX10_readOne at h
  refine lv_aload_n hx hb dX10_readOne_0 rfl (lv_at hl 0 rfl) ?_
  refine va_get (D := D) (ci := 10) (v := .int (q.1 0 10)) (C := RX10) (T := TX10) (N := 56) hx hb hts u9_wsX10_readOne_X10 hown hK hP 0 rfl rfl 10 (by decide) (hts (.fieldLink RX10 221 "TurnedFloorsModel" "isOrders" "Z") f9_wsX10_readOne_127) (fun _ h9 => h9) rfl dX10_readOne_1 ?_
  refine lv_if_eq (tgt := 14) hx hb dX10_readOne_4 (by decide) (fun c9 => ?_) (fun c9 => ?_)
  · rw [if_pos c9] at h
    refine lv_aload_n hx hb dX10_readOne_14 rfl (lv_at hl 0 rfl) ?_
    obtain ⟨q3, h2, h⟩ := dV_some h
    refine dw_kv (va_runV (As := []) (rest := []) ⟨hx, hb, hml, hown, hts⟩ (qX10_readClause l D ty eo _ ad q  q3 h2) (cwV 0 hts gX10_readOne_X10_readClause rfl rfl rfl hd_X10_readClause_v ⟨Nat.le_of_ble_eq_true rfl, Nat.le_of_ble_eq_true rfl⟩) (pv10_10_0 hK hN hE hP hD hS hA) rfl rfl hl.1 rfl (lv_room (Nat.le_of_ble_eq_true rfl)) dX10_readOne_15 ⟨Nat.le_of_ble_eq_true rfl, Nat.le_of_ble_eq_true rfl⟩) hD hS hA (fun u9 H locs hw hp hd hs => ?_)
    clear hP hD hS
    obtain rfl := hw
    have hP := hp; have hD := hd; have hS := hs; clear hp hd hs
    exact WX10_readOne_18 C  _ _ _ _ h hP hD hS (lv_sub hl [] rfl)
  · rw [if_neg c9] at h
    refine lv_aload_n hx hb dX10_readOne_7 rfl (lv_at hl 0 rfl) ?_
    obtain ⟨q6, h5, h⟩ := dV_some h
    refine dw_kv (va_runV (As := []) (rest := []) ⟨hx, hb, hml, hown, hts⟩ (qX10_readOrder l D ty eo _ ad q  q6 h5) (cwV 0 hts gX10_readOne_X10_readOrder rfl rfl rfl hd_X10_readOrder_v ⟨Nat.le_of_ble_eq_true rfl, Nat.le_of_ble_eq_true rfl⟩) (pv10_10_0 hK hN hE hP hD hS hA) rfl rfl hl.1 rfl (lv_room (Nat.le_of_ble_eq_true rfl)) dX10_readOne_8 ⟨Nat.le_of_ble_eq_true rfl, Nat.le_of_ble_eq_true rfl⟩) hD hS hA (fun u9 H locs hw hp hd hs => ?_)
    clear hP hD hS
    obtain rfl := hw
    have hP := hp; have hD := hd; have hS := hs; clear hp hd hs
    refine lv_goto (tgt := 18) hx hb dX10_readOne_11 (by decide) ?_
    exact WX10_readOne_18 C  _ _ _ _ h hP hD hS (lv_sub hl [] rfl)

set_option maxHeartbeats 4000000 in
set_option maxRecDepth 100000 in
theorem WX10_reads_95 {p : Program} {l : Launch} {e : Env} {s : State} {m : MethodId} {args : Array Value} {below : List Frame} {meth : Method} {c : Code} {D : va_G} {ty : Nat → ClassId} {eo : Nat → Nat} {A : Nat → Prop} {ad : Nat → Nat} {o1 : Int32} {o2 : dS} (C : dc_C p s m args meth c cX10_reads (some .boolean) 2 RX10 wsX10_reads D ty eo A)   (q : dS)  (H : Heap) (locs : List Loc) (ls : Array Slot) (h : zX10_reads_95  q = some (o1, o2)) (hP : va_P D vwCl (w10 ty ad q) H) (hD : va_D A (w10 ty ad q)) (hS : va_S A s.heap H locs) (hl : lv_has ls 2 [(0, .ref (ad 0))]) : W p l e ({ frames := 77, cells := 0, slots := 0, locals := 1811 } : Room) s m args below meth c H locs 0 0 (MQ below (va_Qi (fun (r : Int32) (u : va_W) => o1 = r ∧ w10 ty ad o2 = u) (kz_B D ty A) A) args s 0 0 A) (F0 m 95 ls []) := by
  have C0 := C
  obtain ⟨hx, hb, hr, hts, hown, hlocks, hml, hK, hN, hE, hA⟩ := C
  unfold zX10_reads_95 at h
  refine lv_aload_n hx hb dX10_reads_95 rfl (lv_at hl 0 rfl) ?_
  refine lv_aload_n hx hb dX10_reads_96 rfl (lv_at hl 0 rfl) ?_
  refine va_get (D := D) (ci := 10) (v := .int (q.1 0 21)) (C := RX10) (T := TX10) (N := 56) hx hb hts u9_wsX10_reads_X10 hown hK hP 0 rfl rfl 21 (by decide) (hts (.fieldLink RX10 189 "TurnedFloorsModel" "bad" "I") f9_wsX10_reads_129) (fun _ h9 => h9) rfl dX10_reads_97 ?_
  refine va_put (D := D) (ci := 10) (v := .int (q.1 0 21)) (ty := .int) (C := RX10) (T := TX10) (N := 56) hx hb hts u9_wsX10_reads_X10 tyX10 tyX10_ok nmX10 hown hK hP hD hS 0 rfl rfl 14 (by decide) (hts (.fieldLink RX10 51 "TurnedFloorsModel" "fault" "I") f9_wsX10_reads_130) (fun _ h9 => h9) rfl (by decide +kernel) rfl rfl (Nat.le_of_ble_eq_true rfl) dX10_reads_100 (fun H locs hp hd hs => ?_)
  obtain ⟨q1, eq1, h⟩ := dL_some h
  refine kz_re (w2 := w10 ty ad q1) hp hd hs (by rw [← eq1]; exact w10_f14 ty ad q (q.1 0 21)) ?_
  clear hp hd hs hP hD hS
  intro hP hD hS
  refine lv_aload_n hx hb dX10_reads_103 rfl (lv_at hl 0 rfl) ?_
  obtain ⟨r2, q4, h3, h⟩ := dB_some h
  refine dw_ki (va_runV (As := []) (rest := []) ⟨hx, hb, hml, hown, hts⟩ (qX10_fine l D ty eo _ ad q1  r2 q4 h3) (cwV 0 hts gX10_reads_X10_fine rfl rfl rfl hd_X10_fine_v ⟨Nat.le_of_ble_eq_true rfl, Nat.le_of_ble_eq_true rfl⟩) (pv10_10_0 hK hN hE hP hD hS hA) rfl rfl hl.1 rfl (lv_room (Nat.le_of_ble_eq_true rfl)) dX10_reads_104 ⟨Nat.le_of_ble_eq_true rfl, Nat.le_of_ble_eq_true rfl⟩) hD hS hA (fun r9 u9 H locs hw hp hd hs => ?_)
  clear hP hD hS
  obtain ⟨rfl, rfl⟩ := hw
  have hP := hp; have hD := hd; have hS := hs; clear hp hd hs
  obtain ⟨g5, h⟩ := dG_some h
  cases h
  exact kz_zret hx hb hr hlocks (dbl_nar g5) hP hK hD hS dX10_reads_107 ⟨rfl, rfl⟩
set_option maxHeartbeats 4000000 in
set_option maxRecDepth 100000 in
theorem WX10_reads_67 {p : Program} {l : Launch} {e : Env} {s : State} {m : MethodId} {args : Array Value} {below : List Frame} {meth : Method} {c : Code} {D : va_G} {ty : Nat → ClassId} {eo : Nat → Nat} {A : Nat → Prop} {ad : Nat → Nat} {o1 : Int32} {o2 : dS} (C : dc_C p s m args meth c cX10_reads (some .boolean) 2 RX10 wsX10_reads D ty eo A) {k34 : dS → Int32 → Option (Int32 × dS)} (hk34 : ∀ (q : dS) (x1 : Int32) (H : Heap) (locs : List Loc) (ls : Array Slot), k34 q x1 = some (o1, o2) → va_P D vwCl (w10 ty ad q) H → va_D A (w10 ty ad q) → va_S A s.heap H locs → lv_has ls 2 [(0, .ref (ad 0)), (1, .int x1)] → W p l e ({ frames := 77, cells := 0, slots := 0, locals := 1811 } : Room) s m args below meth c H locs 0 0 (MQ below (va_Qi (fun (r : Int32) (u : va_W) => o1 = r ∧ w10 ty ad o2 = u) (kz_B D ty A) A) args s 0 0 A) (F0 m 34 ls [])) (q : dS) (x1 : Int32) (H : Heap) (locs : List Loc) (ls : Array Slot) (h : zX10_reads_67 k34 q x1 = some (o1, o2)) (hP : va_P D vwCl (w10 ty ad q) H) (hD : va_D A (w10 ty ad q)) (hS : va_S A s.heap H locs) (hl : lv_has ls 2 [(0, .ref (ad 0)), (1, .int x1)]) : W p l e ({ frames := 77, cells := 0, slots := 0, locals := 1811 } : Room) s m args below meth c H locs 0 0 (MQ below (va_Qi (fun (r : Int32) (u : va_W) => o1 = r ∧ w10 ty ad o2 = u) (kz_B D ty A) A) args s 0 0 A) (F0 m 67 ls []) := by
  have C0 := C
  obtain ⟨hx, hb, hr, hts, hown, hlocks, hml, hK, hN, hE, hA⟩ := C
  unfold zX10_reads_67 at h
  refine lv_iinc (v := x1 + 1) (lv' := [(1, .int (x1 + 1)), (0, .ref (ad 0))]) hx hb dX10_reads_67 hl (k := 1) rfl rfl (by decide) rfl (fun ls hl => ?_)
  refine lv_goto (tgt := 34) hx hb dX10_reads_70 (by decide) ?_
  exact hk34 _ _ _ _ _ h hP hD hS (lv_sub hl [1, 0] rfl)
set_option maxHeartbeats 4000000 in
set_option maxRecDepth 100000 in
theorem WX10_reads_56 {p : Program} {l : Launch} {e : Env} {s : State} {m : MethodId} {args : Array Value} {below : List Frame} {meth : Method} {c : Code} {D : va_G} {ty : Nat → ClassId} {eo : Nat → Nat} {A : Nat → Prop} {ad : Nat → Nat} {o1 : Int32} {o2 : dS} (C : dc_C p s m args meth c cX10_reads (some .boolean) 2 RX10 wsX10_reads D ty eo A) {k34 : dS → Int32 → Option (Int32 × dS)} (hk34 : ∀ (q : dS) (x1 : Int32) (H : Heap) (locs : List Loc) (ls : Array Slot), k34 q x1 = some (o1, o2) → va_P D vwCl (w10 ty ad q) H → va_D A (w10 ty ad q) → va_S A s.heap H locs → lv_has ls 2 [(0, .ref (ad 0)), (1, .int x1)] → W p l e ({ frames := 77, cells := 0, slots := 0, locals := 1811 } : Room) s m args below meth c H locs 0 0 (MQ below (va_Qi (fun (r : Int32) (u : va_W) => o1 = r ∧ w10 ty ad o2 = u) (kz_B D ty A) A) args s 0 0 A) (F0 m 34 ls [])) (q : dS) (x1 : Int32) (H : Heap) (locs : List Loc) (ls : Array Slot) (h : zX10_reads_56 k34 q x1 = some (o1, o2)) (hP : va_P D vwCl (w10 ty ad q) H) (hD : va_D A (w10 ty ad q)) (hS : va_S A s.heap H locs) (hl : lv_has ls 2 [(0, .ref (ad 0)), (1, .int x1)]) : W p l e ({ frames := 77, cells := 0, slots := 0, locals := 1811 } : Room) s m args below meth c H locs 0 0 (MQ below (va_Qi (fun (r : Int32) (u : va_W) => o1 = r ∧ w10 ty ad o2 = u) (kz_B D ty A) A) args s 0 0 A) (F0 m 56 ls []) := by
  have C0 := C
  obtain ⟨hx, hb, hr, hts, hown, hlocks, hml, hK, hN, hE, hA⟩ := C
  unfold zX10_reads_56 at h
  refine lv_aload_n hx hb dX10_reads_56 rfl (lv_at hl 0 rfl) ?_
  obtain ⟨r1, q3, h2, h⟩ := dB_some h
  refine dw_ki (va_runV (As := []) (rest := []) ⟨hx, hb, hml, hown, hts⟩ (qX10_fine l D ty eo _ ad q  r1 q3 h2) (cwV 0 hts gX10_reads_X10_fine rfl rfl rfl hd_X10_fine_v ⟨Nat.le_of_ble_eq_true rfl, Nat.le_of_ble_eq_true rfl⟩) (pv10_10_0 hK hN hE hP hD hS hA) rfl rfl hl.1 rfl (lv_room (Nat.le_of_ble_eq_true rfl)) dX10_reads_57 ⟨Nat.le_of_ble_eq_true rfl, Nat.le_of_ble_eq_true rfl⟩) hD hS hA (fun r9 u9 H locs hw hp hd hs => ?_)
  clear hP hD hS
  obtain ⟨rfl, rfl⟩ := hw
  have hP := hp; have hD := hd; have hS := hs; clear hp hd hs
  refine lv_if_eq (tgt := 67) hx hb dX10_reads_60 (by decide) (fun c9 => ?_) (fun c9 => ?_)
  · rw [if_pos c9] at h
    exact WX10_reads_67 C0 hk34 _ _ _ _ _ h hP hD hS (lv_sub hl [0, 1] rfl)
  · rw [if_neg c9] at h
    refine lv_aload_n hx hb dX10_reads_63 rfl (lv_at hl 0 rfl) ?_
    obtain ⟨q6, h5, h⟩ := dV_some h
    refine dw_kv (va_runV (As := []) (rest := []) ⟨hx, hb, hml, hown, hts⟩ (qX10_readOne l D ty eo _ ad q3  q6 h5) (cwV 0 hts gX10_reads_X10_readOne rfl rfl rfl hd_X10_readOne_v ⟨Nat.le_of_ble_eq_true rfl, Nat.le_of_ble_eq_true rfl⟩) (pv10_10_0 hK hN hE hP hD hS hA) rfl rfl hl.1 rfl (lv_room (Nat.le_of_ble_eq_true rfl)) dX10_reads_64 ⟨Nat.le_of_ble_eq_true rfl, Nat.le_of_ble_eq_true rfl⟩) hD hS hA (fun u9 H locs hw hp hd hs => ?_)
    clear hP hD hS
    obtain rfl := hw
    have hP := hp; have hD := hd; have hS := hs; clear hp hd hs
    exact WX10_reads_67 C0 hk34 _ _ _ _ _ h hP hD hS (lv_sub hl [0, 1] rfl)
set_option maxHeartbeats 4000000 in
set_option maxRecDepth 100000 in
theorem WX10_reads_34b {p : Program} {l : Launch} {e : Env} {s : State} {m : MethodId} {args : Array Value} {below : List Frame} {meth : Method} {c : Code} {D : va_G} {ty : Nat → ClassId} {eo : Nat → Nat} {A : Nat → Prop} {ad : Nat → Nat} {o1 : Int32} {o2 : dS} (C : dc_C p s m args meth c cX10_reads (some .boolean) 2 RX10 wsX10_reads D ty eo A) {k34 : dS → Int32 → Option (Int32 × dS)} (hk34 : ∀ (q : dS) (x1 : Int32) (H : Heap) (locs : List Loc) (ls : Array Slot), k34 q x1 = some (o1, o2) → va_P D vwCl (w10 ty ad q) H → va_D A (w10 ty ad q) → va_S A s.heap H locs → lv_has ls 2 [(0, .ref (ad 0)), (1, .int x1)] → W p l e ({ frames := 77, cells := 0, slots := 0, locals := 1811 } : Room) s m args below meth c H locs 0 0 (MQ below (va_Qi (fun (r : Int32) (u : va_W) => o1 = r ∧ w10 ty ad o2 = u) (kz_B D ty A) A) args s 0 0 A) (F0 m 34 ls [])) (q : dS) (x1 : Int32) (H : Heap) (locs : List Loc) (ls : Array Slot) (h : zX10_reads_34b k34 q x1 = some (o1, o2)) (hP : va_P D vwCl (w10 ty ad q) H) (hD : va_D A (w10 ty ad q)) (hS : va_S A s.heap H locs) (hl : lv_has ls 2 [(0, .ref (ad 0)), (1, .int x1)]) : W p l e ({ frames := 77, cells := 0, slots := 0, locals := 1811 } : Room) s m args below meth c H locs 0 0 (MQ below (va_Qi (fun (r : Int32) (u : va_W) => o1 = r ∧ w10 ty ad o2 = u) (kz_B D ty A) A) args s 0 0 A) (F0 m 34 ls []) := by
  have C0 := C
  obtain ⟨hx, hb, hr, hts, hown, hlocks, hml, hK, hN, hE, hA⟩ := C
  unfold zX10_reads_34b at h
  refine lv_aload_n hx hb dX10_reads_34 rfl (lv_at hl 0 rfl) ?_
  refine lv_bipush (v := 59) hx hb dX10_reads_35 (by decide) ?_
  obtain ⟨r1, h2, h⟩ := dV_some h
  refine dw_ks (va_runS (As := [.int 59]) (rest := [.ref (ad 0)]) ⟨hx, hb, hml, hown, hts⟩ (qX10_sign l D ty eo _ 59 _ h2) (va_cwS 1 hts gX10_reads_X10_sign rfl rfl rfl hd_X10_sign ⟨Nat.le_of_ble_eq_true rfl, Nat.le_of_ble_eq_true rfl⟩) (pvS_0 hK hN hE hP hD hS hA) rfl rfl hl.1 rfl (lv_room (Nat.le_of_ble_eq_true rfl)) dX10_reads_37 ⟨Nat.le_of_ble_eq_true rfl, Nat.le_of_ble_eq_true rfl⟩) hP hD hS hA (fun _ _ h9 => h9.2.symm) (fun r9 u9 H locs hw hp hd hs => ?_)
  obtain ⟨rfl, -⟩ := hw
  clear hP hD hS
  have hP := hp; have hD := hd; have hS := hs; clear hp hd hs
  obtain ⟨r3, q5, h4, h⟩ := dB_some h
  refine dw_ki (va_runV (As := [.int r1]) (rest := []) ⟨hx, hb, hml, hown, hts⟩ (qX10_takes0 l D ty eo _ ad q r1 r3 q5 h4) (cwV 1 hts gX10_reads_X10_takes0 rfl rfl rfl hd_X10_takes0_v ⟨Nat.le_of_ble_eq_true rfl, Nat.le_of_ble_eq_true rfl⟩) (pv10_10_0 hK hN hE hP hD hS hA) rfl rfl hl.1 rfl (lv_room (Nat.le_of_ble_eq_true rfl)) dX10_reads_40 ⟨Nat.le_of_ble_eq_true rfl, Nat.le_of_ble_eq_true rfl⟩) hD hS hA (fun r9 u9 H locs hw hp hd hs => ?_)
  clear hP hD hS
  obtain ⟨rfl, rfl⟩ := hw
  have hP := hp; have hD := hd; have hS := hs; clear hp hd hs
  refine lv_if_eq (tgt := 73) hx hb dX10_reads_43 (by decide) (fun c9 => ?_) (fun c9 => ?_)
  · rw [if_pos c9] at h
    refine lv_aload_n hx hb dX10_reads_73 rfl (lv_at hl 0 rfl) ?_
    obtain ⟨r6, q8, h7, h⟩ := dB_some h
    refine dw_ki (va_runV (As := []) (rest := []) ⟨hx, hb, hml, hown, hts⟩ (qX10_fine l D ty eo _ ad q5  r6 q8 h7) (cwV 0 hts gX10_reads_X10_fine rfl rfl rfl hd_X10_fine_v ⟨Nat.le_of_ble_eq_true rfl, Nat.le_of_ble_eq_true rfl⟩) (pv10_10_0 hK hN hE hP hD hS hA) rfl rfl hl.1 rfl (lv_room (Nat.le_of_ble_eq_true rfl)) dX10_reads_74 ⟨Nat.le_of_ble_eq_true rfl, Nat.le_of_ble_eq_true rfl⟩) hD hS hA (fun r9 u9 H locs hw hp hd hs => ?_)
    clear hP hD hS
    obtain ⟨rfl, rfl⟩ := hw
    have hP := hp; have hD := hd; have hS := hs; clear hp hd hs
    refine lv_if_eq (tgt := 95) hx hb dX10_reads_77 (by decide) (fun c9 => ?_) (fun c9 => ?_)
    · rw [if_pos c9] at h
      exact WX10_reads_95 C0  _ _ _ _ h hP hD hS (lv_sub hl [0] rfl)
    · rw [if_neg c9] at h
      refine lv_aload_n hx hb dX10_reads_80 rfl (lv_at hl 0 rfl) ?_
      refine va_get (D := D) (ci := 10) (v := .int (q8.1 0 19)) (C := RX10) (T := TX10) (N := 56) hx hb hts u9_wsX10_reads_X10 hown hK hP 0 rfl rfl 19 (by decide) (hts (.fieldLink RX10 196 "TurnedFloorsModel" "token" "I") f9_wsX10_reads_131) (fun _ h9 => h9) rfl dX10_reads_81 ?_
      refine lv_aload_n hx hb dX10_reads_84 rfl (lv_at hl 0 rfl) ?_
      refine va_get (D := D) (ci := 10) (v := .int (q8.1 0 18)) (C := RX10) (T := TX10) (N := 56) hx hb hts u9_wsX10_reads_X10 hown hK hP 0 rfl rfl 18 (by decide) (hts (.fieldLink RX10 175 "TurnedFloorsModel" "tokens" "I") f9_wsX10_reads_132) (fun _ h9 => h9) rfl dX10_reads_85 ?_
      refine lv_icmp_ge (tgt := 95) hx hb dX10_reads_88 (by decide) (fun c9 => ?_) (fun c9 => ?_)
      · rw [if_pos c9] at h
        exact WX10_reads_95 C0  _ _ _ _ h hP hD hS (lv_sub hl [0] rfl)
      · rw [if_neg c9] at h
        refine lv_aload_n hx hb dX10_reads_91 rfl (lv_at hl 0 rfl) ?_
        obtain ⟨q11, h10, h⟩ := dV_some h
        refine dw_kv (va_runV (As := []) (rest := []) ⟨hx, hb, hml, hown, hts⟩ (qX10_faults l D ty eo _ ad q8  q11 h10) (cwV 0 hts gX10_reads_X10_faults rfl rfl rfl hd_X10_faults_v ⟨Nat.le_of_ble_eq_true rfl, Nat.le_of_ble_eq_true rfl⟩) (pv10_10_0 hK hN hE hP hD hS hA) rfl rfl hl.1 rfl (lv_room (Nat.le_of_ble_eq_true rfl)) dX10_reads_92 ⟨Nat.le_of_ble_eq_true rfl, Nat.le_of_ble_eq_true rfl⟩) hD hS hA (fun u9 H locs hw hp hd hs => ?_)
        clear hP hD hS
        obtain rfl := hw
        have hP := hp; have hD := hd; have hS := hs; clear hp hd hs
        exact WX10_reads_95 C0  _ _ _ _ h hP hD hS (lv_sub hl [0] rfl)
  · rw [if_neg c9] at h
    refine lv_iload_n hx hb dX10_reads_46 rfl (lv_at hl 1 rfl) ?_
    refine lv_bipush (v := 12) hx hb dX10_reads_47 (by decide) ?_
    refine lv_icmp_ne (tgt := 56) hx hb dX10_reads_49 (by decide) (fun c9 => ?_) (fun c9 => ?_)
    · rw [if_neg c9] at h
      exact WX10_reads_56 C0 hk34 _ _ _ _ _ h hP hD hS (lv_sub hl [0, 1] rfl)
    · rw [if_pos c9] at h
      refine lv_aload_n hx hb dX10_reads_52 rfl (lv_at hl 0 rfl) ?_
      obtain ⟨q14, h13, h⟩ := dV_some h
      refine dw_kv (va_runV (As := []) (rest := []) ⟨hx, hb, hml, hown, hts⟩ (qX10_faults l D ty eo _ ad q5  q14 h13) (cwV 0 hts gX10_reads_X10_faults rfl rfl rfl hd_X10_faults_v ⟨Nat.le_of_ble_eq_true rfl, Nat.le_of_ble_eq_true rfl⟩) (pv10_10_0 hK hN hE hP hD hS hA) rfl rfl hl.1 rfl (lv_room (Nat.le_of_ble_eq_true rfl)) dX10_reads_53 ⟨Nat.le_of_ble_eq_true rfl, Nat.le_of_ble_eq_true rfl⟩) hD hS hA (fun u9 H locs hw hp hd hs => ?_)
      clear hP hD hS
      obtain rfl := hw
      have hP := hp; have hD := hd; have hS := hs; clear hp hd hs
      exact WX10_reads_56 C0 hk34 _ _ _ _ _ h hP hD hS (lv_sub hl [0, 1] rfl)
set_option maxHeartbeats 4000000 in
set_option maxRecDepth 100000 in
theorem WX10_reads_34 {p : Program} {l : Launch} {e : Env} {s : State} {m : MethodId} {args : Array Value} {below : List Frame} {meth : Method} {c : Code} {D : va_G} {ty : Nat → ClassId} {eo : Nat → Nat} {A : Nat → Prop} {ad : Nat → Nat} {o1 : Int32} {o2 : dS} (C : dc_C p s m args meth c cX10_reads (some .boolean) 2 RX10 wsX10_reads D ty eo A)   (n : Nat) (q : dS) (x1 : Int32) (H : Heap) (locs : List Loc) (ls : Array Slot) (h : zX10_reads_34  n q x1 = some (o1, o2)) (hP : va_P D vwCl (w10 ty ad q) H) (hD : va_D A (w10 ty ad q)) (hS : va_S A s.heap H locs) (hl : lv_has ls 2 [(0, .ref (ad 0)), (1, .int x1)]) : W p l e ({ frames := 77, cells := 0, slots := 0, locals := 1811 } : Room) s m args below meth c H locs 0 0 (MQ below (va_Qi (fun (r : Int32) (u : va_W) => o1 = r ∧ w10 ty ad o2 = u) (kz_B D ty A) A) args s 0 0 A) (F0 m 34 ls []) := by
  exact dFix_W (F := fun k (a : dS × Int32) => zX10_reads_34b  (fun q x1 => k (q, x1)) a.1 a.2) (o := (o1, o2)) (P := fun (a : dS × Int32) H locs ls => va_P D vwCl (w10 ty ad a.1) H ∧ va_D A (w10 ty ad a.1) ∧ va_S A s.heap H locs ∧ lv_has ls 2 [(0, .ref (ad 0)), (1, .int a.2)]) (G := fun H locs ls => W p l e ({ frames := 77, cells := 0, slots := 0, locals := 1811 } : Room) s m args below meth c H locs 0 0 (MQ below (va_Qi (fun (r : Int32) (u : va_W) => o1 = r ∧ w10 ty ad o2 = u) (kz_B D ty A) A) args s 0 0 A) (F0 m 34 ls []))
    (fun k hk a H locs ls h hp => WX10_reads_34b C  (fun q x1 H locs ls h h1 h2 h3 h4 => hk (q, x1) H locs ls h ⟨h1, h2, h3, h4⟩) a.1 a.2 H locs ls h hp.1 hp.2.1 hp.2.2.1 hp.2.2.2) n (q, x1) H locs ls h ⟨hP, hD, hS, hl⟩
set_option maxHeartbeats 4000000 in
set_option maxRecDepth 100000 in
theorem qX10_reads (l : Launch) (D : va_G) (ty : Nat → ClassId) (eo : Nat → Nat) (sz : Nat) (ad : Nat → Nat) (q : dS)  (o1 : Int32) (o2 : dS) (h : zX10_reads q = some (o1, o2)) : Met l yX10_reads wsX10_reads ({ frames := 77, cells := 0, slots := 0, locals := 1811 } : Room) (va_Pc [.ref (ad 0)] (kz_pre D ty eo (w10 ty ad q) sz)) (va_Qi (fun (r : Int32) (u : va_W) => o1 = r ∧ w10 ty ad o2 = u) (kz_B D ty (va_A (w10 ty ad q) sz)) (va_A (w10 ty ad q) sz)) 0 0 (va_A (w10 ty ad q) sz) := by
  refine Met.ofW (cc := cX10_reads) (maxL := 2) (ret := (some .boolean)) (by decide) rfl ?_
  intro p e s m args below meth c s₁ B hml hv
  obtain ⟨rfl, hsz, hP, hK, hD0, hN, hE⟩ := hv
  have hx := B.exec
  have hb := B.bytes
  have hr := B.returns
  have hts := atoms_spec (ws := wsX10_reads) B.pre
  have hown : s.vm.findClass RX10 = some m.cls := findClass_of_methodNamed B.named
  have hlocks := B.notSynchronized
  subst hsz
  have hD := hD0.self (sz := s.heap.size)
  generalize hAe : va_A (w10 ty ad q) s.heap.size = A at hD hE ⊢
  have hA : ∀ q : Nat, s.heap.size ≤ q → A q := fun q h => by rw [← hAe]; exact Or.inr h
  clear hAe
  have hS : va_S A s.heap s.heap [] := va_S.rf
  have hl := lv_entry ([.ref (ad 0)]) (n := 2) (Nat.le_of_ble_eq_true rfl)
  rw [lg_entry_eq]
  generalize (lg_sl ([.ref (ad 0)]) ++ List.replicate (2 - (lg_sl ([.ref (ad 0)])).length) Slot.unset).toArray = ls at hl ⊢
  have hl : lv_has ls 2 [(0, .ref (ad 0))] := hl
  have C : dc_C p s m _ meth c cX10_reads (some .boolean) 2 RX10 wsX10_reads D ty eo A := ⟨hx, hb, hr, hts, hown, hlocks, hml, hK, hN, hE, hA⟩
  unfold zX10_reads at h
  refine lv_aload_n hx hb dX10_reads_0 rfl (lv_at hl 0 rfl) ?_
  refine lv_aload_n hx hb dX10_reads_1 rfl (lv_at hl 0 rfl) ?_
  refine va_get (D := D) (ci := 10) (v := .int (q.1 0 13)) (C := RX10) (T := TX10) (N := 56) hx hb hts u9_wsX10_reads_X10 hown hK hP 0 rfl rfl 13 (by decide) (hts (.fieldLink RX10 169 "TurnedFloorsModel" "taped" "I") f9_wsX10_reads_133) (fun _ h9 => h9) rfl dX10_reads_2 ?_
  obtain ⟨q3, h2, h⟩ := dV_some h
  refine dw_kv (va_runV (As := [.int (q.1 0 13)]) (rest := []) ⟨hx, hb, hml, hown, hts⟩ (qX10_splits l D ty eo _ ad q (q.1 0 13) q3 h2) (cwV 1 hts gX10_reads_X10_splits rfl rfl rfl hd_X10_splits_v ⟨Nat.le_of_ble_eq_true rfl, Nat.le_of_ble_eq_true rfl⟩) (pv10_10_0 hK hN hE hP hD hS hA) rfl rfl hl.1 rfl (lv_room (Nat.le_of_ble_eq_true rfl)) dX10_reads_5 ⟨Nat.le_of_ble_eq_true rfl, Nat.le_of_ble_eq_true rfl⟩) hD hS hA (fun u9 H locs hw hp hd hs => ?_)
  clear hP hD hS
  obtain rfl := hw
  have hP := hp; have hD := hd; have hS := hs; clear hp hd hs
  refine lv_aload_n hx hb dX10_reads_8 rfl (lv_at hl 0 rfl) ?_
  refine lv_iconst (v := 0) hx hb dX10_reads_9 (by decide) ?_
  refine va_put (D := D) (ci := 10) (v := .int 0) (ty := .int) (C := RX10) (T := TX10) (N := 56) hx hb hts u9_wsX10_reads_X10 tyX10 tyX10_ok nmX10 hown hK hP hD hS 0 rfl rfl 13 (by decide) (hts (.fieldLink RX10 169 "TurnedFloorsModel" "taped" "I") f9_wsX10_reads_133) (fun _ h9 => h9) rfl (by decide +kernel) rfl rfl (Nat.le_of_ble_eq_true rfl) dX10_reads_10 (fun H locs hp hd hs => ?_)
  obtain ⟨q4, eq4, h⟩ := dL_some h
  refine kz_re (w2 := w10 ty ad q4) hp hd hs (by rw [← eq4]; exact w10_f13 ty ad q3 0) ?_
  clear hp hd hs hP hD hS
  intro hP hD hS
  refine lv_aload_n hx hb dX10_reads_13 rfl (lv_at hl 0 rfl) ?_
  refine lv_iconst (v := 0) hx hb dX10_reads_14 (by decide) ?_
  refine va_put (D := D) (ci := 10) (v := .int 0) (ty := .int) (C := RX10) (T := TX10) (N := 56) hx hb hts u9_wsX10_reads_X10 tyX10 tyX10_ok nmX10 hown hK hP hD hS 0 rfl rfl 19 (by decide) (hts (.fieldLink RX10 196 "TurnedFloorsModel" "token" "I") f9_wsX10_reads_131) (fun _ h9 => h9) rfl (by decide +kernel) rfl rfl (Nat.le_of_ble_eq_true rfl) dX10_reads_15 (fun H locs hp hd hs => ?_)
  obtain ⟨q5, eq5, h⟩ := dL_some h
  refine kz_re (w2 := w10 ty ad q5) hp hd hs (by rw [← eq5]; exact w10_f19 ty ad q4 0) ?_
  clear hp hd hs hP hD hS
  intro hP hD hS
  refine lv_aload_n hx hb dX10_reads_18 rfl (lv_at hl 0 rfl) ?_
  refine lv_iconst (v := 0) hx hb dX10_reads_19 (by decide) ?_
  refine va_put (D := D) (ci := 10) (v := .int 0) (ty := .int) (C := RX10) (T := TX10) (N := 56) hx hb hts u9_wsX10_reads_X10 tyX10 tyX10_ok nmX10 hown hK hP hD hS 0 rfl rfl 20 (by decide) (hts (.fieldLink RX10 205 "TurnedFloorsModel" "leaves" "I") f9_wsX10_reads_134) (fun _ h9 => h9) rfl (by decide +kernel) rfl rfl (Nat.le_of_ble_eq_true rfl) dX10_reads_20 (fun H locs hp hd hs => ?_)
  obtain ⟨q6, eq6, h⟩ := dL_some h
  refine kz_re (w2 := w10 ty ad q6) hp hd hs (by rw [← eq6]; exact w10_f20 ty ad q5 0) ?_
  clear hp hd hs hP hD hS
  intro hP hD hS
  refine lv_aload_n hx hb dX10_reads_23 rfl (lv_at hl 0 rfl) ?_
  refine lv_iconst (v := (-1)) hx hb dX10_reads_24 (by decide) ?_
  refine va_put (D := D) (ci := 10) (v := .int (-1)) (ty := .int) (C := RX10) (T := TX10) (N := 56) hx hb hts u9_wsX10_reads_X10 tyX10 tyX10_ok nmX10 hown hK hP hD hS 0 rfl rfl 21 (by decide) (hts (.fieldLink RX10 189 "TurnedFloorsModel" "bad" "I") f9_wsX10_reads_129) (fun _ h9 => h9) rfl (by decide +kernel) rfl rfl (Nat.le_of_ble_eq_true rfl) dX10_reads_25 (fun H locs hp hd hs => ?_)
  obtain ⟨q7, eq7, h⟩ := dL_some h
  refine kz_re (w2 := w10 ty ad q7) hp hd hs (by rw [← eq7]; exact w10_f21 ty ad q6 (-1)) ?_
  clear hp hd hs hP hD hS
  intro hP hD hS
  refine lv_aload_n hx hb dX10_reads_28 rfl (lv_at hl 0 rfl) ?_
  obtain ⟨q10, h9, h⟩ := dV_some h
  refine dw_kv (va_runV (As := []) (rest := []) ⟨hx, hb, hml, hown, hts⟩ (qX10_readOne l D ty eo _ ad q7  q10 h9) (cwV 0 hts gX10_reads_X10_readOne rfl rfl rfl hd_X10_readOne_v ⟨Nat.le_of_ble_eq_true rfl, Nat.le_of_ble_eq_true rfl⟩) (pv10_10_0 hK hN hE hP hD hS hA) rfl rfl hl.1 rfl (lv_room (Nat.le_of_ble_eq_true rfl)) dX10_reads_29 ⟨Nat.le_of_ble_eq_true rfl, Nat.le_of_ble_eq_true rfl⟩) hD hS hA (fun u9 H locs hw hp hd hs => ?_)
  clear hP hD hS
  obtain rfl := hw
  have hP := hp; have hD := hd; have hS := hs; clear hp hd hs
  refine lv_iconst (v := 1) hx hb dX10_reads_32 (by decide) ?_
  refine lv_istore_n (lv' := [(1, .int 1), (0, .ref (ad 0))]) hx hb dX10_reads_33 rfl hl (by decide) rfl (fun ls hl => ?_)
  exact WX10_reads_34 C  _ _ _ _ _ _ h hP hD hS (lv_sub hl [1, 0] rfl)

set_option maxHeartbeats 4000000 in
set_option maxRecDepth 100000 in
theorem WX10_readsAs_32 {p : Program} {l : Launch} {e : Env} {s : State} {m : MethodId} {args : Array Value} {below : List Frame} {meth : Method} {c : Code} {D : va_G} {ty : Nat → ClassId} {eo : Nat → Nat} {A : Nat → Prop} {ad : Nat → Nat} {o1 : Int32} {o2 : dS} (C : dc_C p s m args meth c cX10_readsAs (some .boolean) 2 RX10 wsX10_readsAs D ty eo A)   (q : dS) (y0 : Int32) (H : Heap) (locs : List Loc) (ls : Array Slot) (h : zX10_readsAs_32  q y0 = some (o1, o2)) (hP : va_P D vwCl (w10 ty ad q) H) (hD : va_D A (w10 ty ad q)) (hS : va_S A s.heap H locs) (hl : lv_has ls 2 [(0, .ref (ad 0))]) : W p l e ({ frames := 78, cells := 0, slots := 0, locals := 1832 } : Room) s m args below meth c H locs 0 0 (MQ below (va_Qi (fun (r : Int32) (u : va_W) => o1 = r ∧ w10 ty ad o2 = u) (kz_B D ty A) A) args s 0 0 A) (F0 m 32 ls [.int y0, .ref (ad 0)]) := by
  have C0 := C
  obtain ⟨hx, hb, hr, hts, hown, hlocks, hml, hK, hN, hE, hA⟩ := C
  unfold zX10_readsAs_32 at h
  refine va_put (D := D) (ci := 10) (v := .int y0) (ty := .int) (C := RX10) (T := TX10) (N := 56) hx hb hts u9_wsX10_readsAs_X10 tyX10 tyX10_ok nmX10 hown hK hP hD hS 0 rfl rfl 9 (by decide) (hts (.fieldLink RX10 250 "TurnedFloorsModel" "lastWord" "I") f9_wsX10_readsAs_136) (fun _ h9 => h9) rfl (by decide +kernel) rfl rfl (Nat.le_of_ble_eq_true rfl) dX10_readsAs_32 (fun H locs hp hd hs => ?_)
  obtain ⟨q1, eq1, h⟩ := dL_some h
  refine kz_re (w2 := w10 ty ad q1) hp hd hs (by rw [← eq1]; exact w10_f9 ty ad q y0) ?_
  clear hp hd hs hP hD hS
  intro hP hD hS
  refine lv_aload_n hx hb dX10_readsAs_35 rfl (lv_at hl 0 rfl) ?_
  obtain ⟨r2, q4, h3, h⟩ := dB_some h
  refine dw_ki (va_runV (As := []) (rest := []) ⟨hx, hb, hml, hown, hts⟩ (qX10_reads l D ty eo _ ad q1  r2 q4 h3) (cwV 0 hts gX10_readsAs_X10_reads rfl rfl rfl hd_X10_reads_v ⟨Nat.le_of_ble_eq_true rfl, Nat.le_of_ble_eq_true rfl⟩) (pv10_10_0 hK hN hE hP hD hS hA) rfl rfl hl.1 rfl (lv_room (Nat.le_of_ble_eq_true rfl)) dX10_readsAs_36 ⟨Nat.le_of_ble_eq_true rfl, Nat.le_of_ble_eq_true rfl⟩) hD hS hA (fun r9 u9 H locs hw hp hd hs => ?_)
  clear hP hD hS
  obtain ⟨rfl, rfl⟩ := hw
  have hP := hp; have hD := hd; have hS := hs; clear hp hd hs
  obtain ⟨g5, h⟩ := dG_some h
  cases h
  exact kz_zret hx hb hr hlocks (dbl_nar g5) hP hK hD hS dX10_readsAs_39 ⟨rfl, rfl⟩
set_option maxHeartbeats 4000000 in
set_option maxRecDepth 100000 in
theorem WX10_readsAs_17 {p : Program} {l : Launch} {e : Env} {s : State} {m : MethodId} {args : Array Value} {below : List Frame} {meth : Method} {c : Code} {D : va_G} {ty : Nat → ClassId} {eo : Nat → Nat} {A : Nat → Prop} {ad : Nat → Nat} {o1 : Int32} {o2 : dS} (C : dc_C p s m args meth c cX10_readsAs (some .boolean) 2 RX10 wsX10_readsAs D ty eo A)   (q : dS) (x1 : Int32) (y0 : Int32) (H : Heap) (locs : List Loc) (ls : Array Slot) (h : zX10_readsAs_17  q x1 y0 = some (o1, o2)) (hP : va_P D vwCl (w10 ty ad q) H) (hD : va_D A (w10 ty ad q)) (hS : va_S A s.heap H locs) (hl : lv_has ls 2 [(0, .ref (ad 0)), (1, .int x1)]) : W p l e ({ frames := 78, cells := 0, slots := 0, locals := 1832 } : Room) s m args below meth c H locs 0 0 (MQ below (va_Qi (fun (r : Int32) (u : va_W) => o1 = r ∧ w10 ty ad o2 = u) (kz_B D ty A) A) args s 0 0 A) (F0 m 17 ls [.int y0, .ref (ad 0)]) := by
  have C0 := C
  obtain ⟨hx, hb, hr, hts, hown, hlocks, hml, hK, hN, hE, hA⟩ := C
  unfold zX10_readsAs_17 at h
  refine va_put (D := D) (ci := 10) (v := .int y0) (ty := .int) (C := RX10) (T := TX10) (N := 56) hx hb hts u9_wsX10_readsAs_X10 tyX10 tyX10_ok nmX10 hown hK hP hD hS 0 rfl rfl 8 (by decide) (hts (.fieldLink RX10 247 "TurnedFloorsModel" "firstWord" "I") f9_wsX10_readsAs_137) (fun _ h9 => h9) rfl (by decide +kernel) rfl rfl (Nat.le_of_ble_eq_true rfl) dX10_readsAs_17 (fun H locs hp hd hs => ?_)
  obtain ⟨q1, eq1, h⟩ := dL_some h
  refine kz_re (w2 := w10 ty ad q1) hp hd hs (by rw [← eq1]; exact w10_f8 ty ad q y0) ?_
  clear hp hd hs hP hD hS
  intro hP hD hS
  refine lv_aload_n hx hb dX10_readsAs_20 rfl (lv_at hl 0 rfl) ?_
  refine lv_iload_n hx hb dX10_readsAs_21 rfl (lv_at hl 1 rfl) ?_
  refine lv_if_eq (tgt := 30) hx hb dX10_readsAs_22 (by decide) (fun c9 => ?_) (fun c9 => ?_)
  · rw [if_pos c9] at h
    refine lv_bipush (v := 16) hx hb dX10_readsAs_30 (by decide) ?_
    exact WX10_readsAs_32 C0  _ _ _ _ _ h hP hD hS (lv_sub hl [0] rfl)
  · rw [if_neg c9] at h
    refine lv_bipush (v := 21) hx hb dX10_readsAs_25 (by decide) ?_
    refine lv_goto (tgt := 32) hx hb dX10_readsAs_27 (by decide) ?_
    exact WX10_readsAs_32 C0  _ _ _ _ _ h hP hD hS (lv_sub hl [0] rfl)
set_option maxHeartbeats 4000000 in
set_option maxRecDepth 100000 in
theorem qX10_readsAs (l : Launch) (D : va_G) (ty : Nat → ClassId) (eo : Nat → Nat) (sz : Nat) (ad : Nat → Nat) (q : dS) (p1 : Int32) (o1 : Int32) (o2 : dS) (h : zX10_readsAs q p1 = some (o1, o2)) : Met l yX10_readsAs wsX10_readsAs ({ frames := 78, cells := 0, slots := 0, locals := 1832 } : Room) (va_Pc [.ref (ad 0), .int p1] (kz_pre D ty eo (w10 ty ad q) sz)) (va_Qi (fun (r : Int32) (u : va_W) => o1 = r ∧ w10 ty ad o2 = u) (kz_B D ty (va_A (w10 ty ad q) sz)) (va_A (w10 ty ad q) sz)) 0 0 (va_A (w10 ty ad q) sz) := by
  refine Met.ofW (cc := cX10_readsAs) (maxL := 2) (ret := (some .boolean)) (by decide) rfl ?_
  intro p e s m args below meth c s₁ B hml hv
  obtain ⟨rfl, hsz, hP, hK, hD0, hN, hE⟩ := hv
  have hx := B.exec
  have hb := B.bytes
  have hr := B.returns
  have hts := atoms_spec (ws := wsX10_readsAs) B.pre
  have hown : s.vm.findClass RX10 = some m.cls := findClass_of_methodNamed B.named
  have hlocks := B.notSynchronized
  subst hsz
  have hD := hD0.self (sz := s.heap.size)
  generalize hAe : va_A (w10 ty ad q) s.heap.size = A at hD hE ⊢
  have hA : ∀ q : Nat, s.heap.size ≤ q → A q := fun q h => by rw [← hAe]; exact Or.inr h
  clear hAe
  have hS : va_S A s.heap s.heap [] := va_S.rf
  have hl := lv_entry ([.ref (ad 0), .int p1]) (n := 2) (Nat.le_of_ble_eq_true rfl)
  rw [lg_entry_eq]
  generalize (lg_sl ([.ref (ad 0), .int p1]) ++ List.replicate (2 - (lg_sl ([.ref (ad 0), .int p1])).length) Slot.unset).toArray = ls at hl ⊢
  have hl : lv_has ls 2 [(0, .ref (ad 0)), (1, .int p1)] := hl
  have C : dc_C p s m _ meth c cX10_readsAs (some .boolean) 2 RX10 wsX10_readsAs D ty eo A := ⟨hx, hb, hr, hts, hown, hlocks, hml, hK, hN, hE, hA⟩
  unfold zX10_readsAs at h
  refine lv_aload_n hx hb dX10_readsAs_0 rfl (lv_at hl 0 rfl) ?_
  refine lv_iload_n hx hb dX10_readsAs_1 rfl (lv_at hl 1 rfl) ?_
  obtain ⟨g1, h⟩ := dG_some h
  refine va_put (D := D) (ci := 10) (v := .int p1) (ty := .boolean) (C := RX10) (T := TX10) (N := 56) hx hb hts u9_wsX10_readsAs_X10 tyX10 tyX10_ok nmX10 hown hK hP hD hS 0 rfl rfl 10 (by decide) (hts (.fieldLink RX10 221 "TurnedFloorsModel" "isOrders" "Z") f9_wsX10_readsAs_138) (fun _ h9 => h9) rfl (by decide +kernel) (dbl_nar g1) (dbl_fit g1) (Nat.le_of_ble_eq_true rfl) dX10_readsAs_2 (fun H locs hp hd hs => ?_)
  obtain ⟨q2, eq2, h⟩ := dL_some h
  refine kz_re (w2 := w10 ty ad q2) hp hd hs (by rw [← eq2]; exact w10_f10 ty ad q p1) ?_
  clear hp hd hs hP hD hS
  intro hP hD hS
  refine lv_aload_n hx hb dX10_readsAs_5 rfl (lv_at hl 0 rfl) ?_
  refine lv_iload_n hx hb dX10_readsAs_6 rfl (lv_at hl 1 rfl) ?_
  refine lv_if_eq (tgt := 15) hx hb dX10_readsAs_7 (by decide) (fun c9 => ?_) (fun c9 => ?_)
  · rw [if_pos c9] at h
    refine lv_bipush (v := 8) hx hb dX10_readsAs_15 (by decide) ?_
    exact WX10_readsAs_17 C  _ _ _ _ _ _ h hP hD hS (lv_sub hl [0, 1] rfl)
  · rw [if_neg c9] at h
    refine lv_bipush (v := 15) hx hb dX10_readsAs_10 (by decide) ?_
    refine lv_goto (tgt := 17) hx hb dX10_readsAs_12 (by decide) ?_
    exact WX10_readsAs_17 C  _ _ _ _ _ _ h hP hD hS (lv_sub hl [0, 1] rfl)

set_option maxHeartbeats 4000000 in
set_option maxRecDepth 100000 in
theorem WX10_lays_15b {p : Program} {l : Launch} {e : Env} {s : State} {m : MethodId} {args : Array Value} {below : List Frame} {meth : Method} {c : Code} {D : va_G} {ty : Nat → ClassId} {eo : Nat → Nat} {A : Nat → Prop} {ad : Nat → Nat} {o2 : dS} (C : dc_C p s m args meth c cX10_lays none 3 RX10 wsX10_lays D ty eo A) {k15 : dS → Int32 → Int32 → Option (dS)} (hk15 : ∀ (q : dS) (x1 : Int32) (x2 : Int32) (H : Heap) (locs : List Loc) (ls : Array Slot), k15 q x1 x2 = some o2 → va_P D vwCl (w10 ty ad q) H → va_D A (w10 ty ad q) → va_S A s.heap H locs → lv_has ls 3 [(0, .ref (ad 0)), (1, .int x1), (2, .int x2)] → W p l e ({ frames := 0, cells := 0, slots := 0, locals := 0 } : Room) s m args below meth c H locs 0 0 (MQ below (va_Qv (fun (u : va_W) => w10 ty ad o2 = u) (kz_B D ty A) A) args s 0 0 A) (F0 m 15 ls [])) (q : dS) (x1 : Int32) (x2 : Int32) (H : Heap) (locs : List Loc) (ls : Array Slot) (h : zX10_lays_15b k15 q x1 x2 = some o2) (hP : va_P D vwCl (w10 ty ad q) H) (hD : va_D A (w10 ty ad q)) (hS : va_S A s.heap H locs) (hl : lv_has ls 3 [(0, .ref (ad 0)), (1, .int x1), (2, .int x2)]) : W p l e ({ frames := 0, cells := 0, slots := 0, locals := 0 } : Room) s m args below meth c H locs 0 0 (MQ below (va_Qv (fun (u : va_W) => w10 ty ad o2 = u) (kz_B D ty A) A) args s 0 0 A) (F0 m 15 ls []) := by
  have C0 := C
  obtain ⟨hx, hb, hr, hts, hown, hlocks, hml, hK, hN, hE, hA⟩ := C
  unfold zX10_lays_15b at h
  refine lv_iload_n hx hb dX10_lays_15 rfl (lv_at hl 2 rfl) ?_
  refine lv_aload_n hx hb dX10_lays_16 rfl (lv_at hl 0 rfl) ?_
  refine va_get (D := D) (ci := 10) (v := .int (q.1 0 18)) (C := RX10) (T := TX10) (N := 56) hx hb hts u9_wsX10_lays_X10 hown hK hP 0 rfl rfl 18 (by decide) (hts (.fieldLink RX10 175 "TurnedFloorsModel" "tokens" "I") f9_wsX10_lays_140) (fun _ h9 => h9) rfl dX10_lays_17 ?_
  refine lv_icmp_ge (tgt := 72) hx hb dX10_lays_20 (by decide) (fun c9 => ?_) (fun c9 => ?_)
  · rw [if_pos c9] at h
    cases h
    exact kz_vret hx hb hr hlocks hP hK hD hS dX10_lays_72 rfl
  · rw [if_neg c9] at h
    refine lv_aload_n hx hb dX10_lays_23 rfl (lv_at hl 0 rfl) ?_
    refine va_get (D := D) (ci := 10) (v := .ref (ad 2)) (C := RX10) (T := TX10) (N := 56) hx hb hts u9_wsX10_lays_X10 hown hK hP 0 rfl rfl 2 (by decide) (hts (.fieldLink RX10 28 "TurnedFloorsModel" "kept" "[I") f9_wsX10_lays_141) (fun _ h9 => h9) rfl dX10_lays_24 ?_
    refine lv_bipush (v := 40) hx hb dX10_lays_27 (by decide) ?_
    refine lv_sipush (v := 400) hx hb dX10_lays_29 (by decide) ?_
    refine lv_iload_n hx hb dX10_lays_32 rfl (lv_at hl 1 rfl) ?_
    refine lv_imul hx hb dX10_lays_33 ?_
    refine lv_iadd hx hb dX10_lays_34 ?_
    refine lv_iload_n hx hb dX10_lays_35 rfl (lv_at hl 2 rfl) ?_
    refine lv_iadd hx hb dX10_lays_36 ?_
    refine lv_aload_n hx hb dX10_lays_37 rfl (lv_at hl 0 rfl) ?_
    refine va_get (D := D) (ci := 10) (v := .ref (ad 9)) (C := RX10) (T := TX10) (N := 56) hx hb hts u9_wsX10_lays_X10 hown hK hP 0 rfl rfl 15 (by decide) (hts (.fieldLink RX10 54 "TurnedFloorsModel" "code" "[I") f9_wsX10_lays_142) (fun _ h9 => h9) rfl dX10_lays_38 ?_
    refine lv_iload_n hx hb dX10_lays_41 rfl (lv_at hl 2 rfl) ?_
    obtain ⟨g1, h⟩ := dG_some h
    refine va_iald hx hb hK hP 9 0 rfl rfl (dg_in g1) dX10_lays_42 ?_
    obtain ⟨v2, ev2, h⟩ := dL_some h
    refine kz_topi v2 ev2 ?_
    obtain ⟨g3, h⟩ := dG_some h
    refine va_iast hx hb hK hP hD hS 2 0 rfl rfl (dg_in g3) dX10_lays_43 (fun H locs hp hd hs => ?_)
    obtain ⟨q4, eq4, h⟩ := dL_some h
    refine kz_re (w2 := w10 ty ad q4) hp hd hs (by rw [← eq4]; exact w10_a2 ty ad q (Int32.toNatClampNeg ((40 + (400 * x1 : Int32) : Int32) + x2)) v2) ?_
    clear hp hd hs hP hD hS
    intro hP hD hS
    refine lv_aload_n hx hb dX10_lays_44 rfl (lv_at hl 0 rfl) ?_
    refine va_get (D := D) (ci := 10) (v := .ref (ad 2)) (C := RX10) (T := TX10) (N := 56) hx hb hts u9_wsX10_lays_X10 hown hK hP 0 rfl rfl 2 (by decide) (hts (.fieldLink RX10 28 "TurnedFloorsModel" "kept" "[I") f9_wsX10_lays_141) (fun _ h9 => h9) rfl dX10_lays_45 ?_
    refine lv_sipush (v := 2840) hx hb dX10_lays_48 (by decide) ?_
    refine lv_sipush (v := 400) hx hb dX10_lays_51 (by decide) ?_
    refine lv_iload_n hx hb dX10_lays_54 rfl (lv_at hl 1 rfl) ?_
    refine lv_imul hx hb dX10_lays_55 ?_
    refine lv_iadd hx hb dX10_lays_56 ?_
    refine lv_iload_n hx hb dX10_lays_57 rfl (lv_at hl 2 rfl) ?_
    refine lv_iadd hx hb dX10_lays_58 ?_
    refine lv_aload_n hx hb dX10_lays_59 rfl (lv_at hl 0 rfl) ?_
    refine va_get (D := D) (ci := 10) (v := .ref (ad 10)) (C := RX10) (T := TX10) (N := 56) hx hb hts u9_wsX10_lays_X10 hown hK hP 0 rfl rfl 16 (by decide) (hts (.fieldLink RX10 57 "TurnedFloorsModel" "value" "[I") f9_wsX10_lays_143) (fun _ h9 => h9) rfl dX10_lays_60 ?_
    refine lv_iload_n hx hb dX10_lays_63 rfl (lv_at hl 2 rfl) ?_
    obtain ⟨g5, h⟩ := dG_some h
    refine va_iald hx hb hK hP 10 0 rfl rfl (dg_in g5) dX10_lays_64 ?_
    obtain ⟨v6, ev6, h⟩ := dL_some h
    refine kz_topi v6 ev6 ?_
    obtain ⟨g7, h⟩ := dG_some h
    refine va_iast hx hb hK hP hD hS 2 0 rfl rfl (dg_in g7) dX10_lays_65 (fun H locs hp hd hs => ?_)
    obtain ⟨q8, eq8, h⟩ := dL_some h
    refine kz_re (w2 := w10 ty ad q8) hp hd hs (by rw [← eq8]; exact w10_a2 ty ad q4 (Int32.toNatClampNeg ((2840 + (400 * x1 : Int32) : Int32) + x2)) v6) ?_
    clear hp hd hs hP hD hS
    intro hP hD hS
    refine lv_iinc (v := x2 + 1) (lv' := [(2, .int (x2 + 1)), (0, .ref (ad 0)), (1, .int x1)]) hx hb dX10_lays_66 hl (k := 2) rfl rfl (by decide) rfl (fun ls hl => ?_)
    refine lv_goto (tgt := 15) hx hb dX10_lays_69 (by decide) ?_
    exact hk15 _ _ _ _ _ _ h hP hD hS (lv_sub hl [1, 2, 0] rfl)
set_option maxHeartbeats 4000000 in
set_option maxRecDepth 100000 in
theorem WX10_lays_15 {p : Program} {l : Launch} {e : Env} {s : State} {m : MethodId} {args : Array Value} {below : List Frame} {meth : Method} {c : Code} {D : va_G} {ty : Nat → ClassId} {eo : Nat → Nat} {A : Nat → Prop} {ad : Nat → Nat} {o2 : dS} (C : dc_C p s m args meth c cX10_lays none 3 RX10 wsX10_lays D ty eo A)   (n : Nat) (q : dS) (x1 : Int32) (x2 : Int32) (H : Heap) (locs : List Loc) (ls : Array Slot) (h : zX10_lays_15  n q x1 x2 = some o2) (hP : va_P D vwCl (w10 ty ad q) H) (hD : va_D A (w10 ty ad q)) (hS : va_S A s.heap H locs) (hl : lv_has ls 3 [(0, .ref (ad 0)), (1, .int x1), (2, .int x2)]) : W p l e ({ frames := 0, cells := 0, slots := 0, locals := 0 } : Room) s m args below meth c H locs 0 0 (MQ below (va_Qv (fun (u : va_W) => w10 ty ad o2 = u) (kz_B D ty A) A) args s 0 0 A) (F0 m 15 ls []) := by
  exact dFix_W (F := fun k (a : dS × Int32 × Int32) => zX10_lays_15b  (fun q x1 x2 => k (q, x1, x2)) a.1 a.2.1 a.2.2) (o := o2) (P := fun (a : dS × Int32 × Int32) H locs ls => va_P D vwCl (w10 ty ad a.1) H ∧ va_D A (w10 ty ad a.1) ∧ va_S A s.heap H locs ∧ lv_has ls 3 [(0, .ref (ad 0)), (1, .int a.2.1), (2, .int a.2.2)]) (G := fun H locs ls => W p l e ({ frames := 0, cells := 0, slots := 0, locals := 0 } : Room) s m args below meth c H locs 0 0 (MQ below (va_Qv (fun (u : va_W) => w10 ty ad o2 = u) (kz_B D ty A) A) args s 0 0 A) (F0 m 15 ls []))
    (fun k hk a H locs ls h hp => WX10_lays_15b C  (fun q x1 x2 H locs ls h h1 h2 h3 h4 => hk (q, x1, x2) H locs ls h ⟨h1, h2, h3, h4⟩) a.1 a.2.1 a.2.2 H locs ls h hp.1 hp.2.1 hp.2.2.1 hp.2.2.2) n (q, x1, x2) H locs ls h ⟨hP, hD, hS, hl⟩
set_option maxHeartbeats 4000000 in
set_option maxRecDepth 100000 in
theorem qX10_lays (l : Launch) (D : va_G) (ty : Nat → ClassId) (eo : Nat → Nat) (sz : Nat) (ad : Nat → Nat) (q : dS) (p1 : Int32) (o2 : dS) (h : zX10_lays q p1 = some o2) : Met l yX10_lays wsX10_lays ({ frames := 0, cells := 0, slots := 0, locals := 0 } : Room) (va_Pc [.ref (ad 0), .int p1] (kz_pre D ty eo (w10 ty ad q) sz)) (va_Qv (fun (u : va_W) => w10 ty ad o2 = u) (kz_B D ty (va_A (w10 ty ad q) sz)) (va_A (w10 ty ad q) sz)) 0 0 (va_A (w10 ty ad q) sz) := by
  refine Met.ofW (cc := cX10_lays) (maxL := 3) (ret := none) (by decide) rfl ?_
  intro p e s m args below meth c s₁ B hml hv
  obtain ⟨rfl, hsz, hP, hK, hD0, hN, hE⟩ := hv
  have hx := B.exec
  have hb := B.bytes
  have hr := B.returns
  have hts := atoms_spec (ws := wsX10_lays) B.pre
  have hown : s.vm.findClass RX10 = some m.cls := findClass_of_methodNamed B.named
  have hlocks := B.notSynchronized
  subst hsz
  have hD := hD0.self (sz := s.heap.size)
  generalize hAe : va_A (w10 ty ad q) s.heap.size = A at hD hE ⊢
  have hA : ∀ q : Nat, s.heap.size ≤ q → A q := fun q h => by rw [← hAe]; exact Or.inr h
  clear hAe
  have hS : va_S A s.heap s.heap [] := va_S.rf
  have hl := lv_entry ([.ref (ad 0), .int p1]) (n := 3) (Nat.le_of_ble_eq_true rfl)
  rw [lg_entry_eq]
  generalize (lg_sl ([.ref (ad 0), .int p1]) ++ List.replicate (3 - (lg_sl ([.ref (ad 0), .int p1])).length) Slot.unset).toArray = ls at hl ⊢
  have hl : lv_has ls 3 [(0, .ref (ad 0)), (1, .int p1)] := hl
  have C : dc_C p s m _ meth c cX10_lays none 3 RX10 wsX10_lays D ty eo A := ⟨hx, hb, hr, hts, hown, hlocks, hml, hK, hN, hE, hA⟩
  unfold zX10_lays at h
  refine lv_aload_n hx hb dX10_lays_0 rfl (lv_at hl 0 rfl) ?_
  refine va_get (D := D) (ci := 10) (v := .ref (ad 2)) (C := RX10) (T := TX10) (N := 56) hx hb hts u9_wsX10_lays_X10 hown hK hP 0 rfl rfl 2 (by decide) (hts (.fieldLink RX10 28 "TurnedFloorsModel" "kept" "[I") f9_wsX10_lays_141) (fun _ h9 => h9) rfl dX10_lays_1 ?_
  refine lv_bipush (v := 33) hx hb dX10_lays_4 (by decide) ?_
  refine lv_iload_n hx hb dX10_lays_6 rfl (lv_at hl 1 rfl) ?_
  refine lv_iadd hx hb dX10_lays_7 ?_
  refine lv_aload_n hx hb dX10_lays_8 rfl (lv_at hl 0 rfl) ?_
  refine va_get (D := D) (ci := 10) (v := .int (q.1 0 18)) (C := RX10) (T := TX10) (N := 56) hx hb hts u9_wsX10_lays_X10 hown hK hP 0 rfl rfl 18 (by decide) (hts (.fieldLink RX10 175 "TurnedFloorsModel" "tokens" "I") f9_wsX10_lays_140) (fun _ h9 => h9) rfl dX10_lays_9 ?_
  obtain ⟨g1, h⟩ := dG_some h
  refine va_iast hx hb hK hP hD hS 2 0 rfl rfl (dg_in g1) dX10_lays_12 (fun H locs hp hd hs => ?_)
  obtain ⟨q2, eq2, h⟩ := dL_some h
  refine kz_re (w2 := w10 ty ad q2) hp hd hs (by rw [← eq2]; exact w10_a2 ty ad q (Int32.toNatClampNeg (33 + p1 : Int32)) (q.1 0 18)) ?_
  clear hp hd hs hP hD hS
  intro hP hD hS
  refine lv_iconst (v := 0) hx hb dX10_lays_13 (by decide) ?_
  refine lv_istore_n (lv' := [(2, .int 0), (0, .ref (ad 0)), (1, .int p1)]) hx hb dX10_lays_14 rfl hl (by decide) rfl (fun ls hl => ?_)
  exact WX10_lays_15 C  _ _ _ _ _ _ _ h hP hD hS (lv_sub hl [1, 2, 0] rfl)

set_option maxHeartbeats 4000000 in
set_option maxRecDepth 100000 in
theorem qX10_law (l : Launch) (D : va_G) (ty : Nat → ClassId) (eo : Nat → Nat) (sz : Nat) (ad : Nat → Nat) (q : dS)  (o1 : Int32) (o2 : dS) (h : zX10_law q = some (o1, o2)) : Met l yX10_law wsX10_law ({ frames := 79, cells := 0, slots := 0, locals := 1853 } : Room) (va_Pc [.ref (ad 0)] (kz_pre D ty eo (w10 ty ad q) sz)) (va_Qi (fun (r : Int32) (u : va_W) => o1 = r ∧ w10 ty ad o2 = u) (kz_B D ty (va_A (w10 ty ad q) sz)) (va_A (w10 ty ad q) sz)) 0 0 (va_A (w10 ty ad q) sz) := by
  refine Met.ofW (cc := cX10_law) (maxL := 1) (ret := (some .int)) (by decide) rfl ?_
  intro p e s m args below meth c s₁ B hml hv
  obtain ⟨rfl, hsz, hP, hK, hD0, hN, hE⟩ := hv
  have hx := B.exec
  have hb := B.bytes
  have hr := B.returns
  have hts := atoms_spec (ws := wsX10_law) B.pre
  have hown : s.vm.findClass RX10 = some m.cls := findClass_of_methodNamed B.named
  have hlocks := B.notSynchronized
  subst hsz
  have hD := hD0.self (sz := s.heap.size)
  generalize hAe : va_A (w10 ty ad q) s.heap.size = A at hD hE ⊢
  have hA : ∀ q : Nat, s.heap.size ≤ q → A q := fun q h => by rw [← hAe]; exact Or.inr h
  clear hAe
  have hS : va_S A s.heap s.heap [] := va_S.rf
  have hl := lv_entry ([.ref (ad 0)]) (n := 1) (Nat.le_of_ble_eq_true rfl)
  rw [lg_entry_eq]
  generalize (lg_sl ([.ref (ad 0)]) ++ List.replicate (1 - (lg_sl ([.ref (ad 0)])).length) Slot.unset).toArray = ls at hl ⊢
  have hl : lv_has ls 1 [(0, .ref (ad 0))] := hl
  have C : dc_C p s m _ meth c cX10_law (some .int) 1 RX10 wsX10_law D ty eo A := ⟨hx, hb, hr, hts, hown, hlocks, hml, hK, hN, hE, hA⟩
  unfold zX10_law at h
  refine lv_aload_n hx hb dX10_law_0 rfl (lv_at hl 0 rfl) ?_
  refine va_get (D := D) (ci := 10) (v := .ref (ad 2)) (C := RX10) (T := TX10) (N := 56) hx hb hts u9_wsX10_law_X10 hown hK hP 0 rfl rfl 2 (by decide) (hts (.fieldLink RX10 28 "TurnedFloorsModel" "kept" "[I") f9_wsX10_law_145) (fun _ h9 => h9) rfl dX10_law_1 ?_
  refine lv_bipush (v := 31) hx hb dX10_law_4 (by decide) ?_
  refine va_iald hx hb hK hP 2 0 rfl rfl (by simp only [vp_in]; decide) dX10_law_6 ?_
  refine kz_topi (q.1 2 31) (congrArg (q.1 2) (by decide +kernel : Int32.toNatClampNeg 31 = 31)) ?_
  refine lv_bipush (v := 6) hx hb dX10_law_7 (by decide) ?_
  refine lv_icmp_ne (tgt := 24) hx hb dX10_law_9 (by decide) (fun c9 => ?_) (fun c9 => ?_)
  · rw [if_neg c9] at h
    refine lv_aload_n hx hb dX10_law_24 rfl (lv_at hl 0 rfl) ?_
    refine lv_iconst (v := 0) hx hb dX10_law_25 (by decide) ?_
    obtain ⟨r1, q3, h2, h⟩ := dB_some h
    refine dw_ki (va_runV (As := [.int 0]) (rest := []) ⟨hx, hb, hml, hown, hts⟩ (qX10_readsAs l D ty eo _ ad q 0 r1 q3 h2) (cwV 1 hts gX10_law_X10_readsAs rfl rfl rfl hd_X10_readsAs_v ⟨Nat.le_of_ble_eq_true rfl, Nat.le_of_ble_eq_true rfl⟩) (pv10_10_0 hK hN hE hP hD hS hA) rfl rfl hl.1 rfl (lv_room (Nat.le_of_ble_eq_true rfl)) dX10_law_26 ⟨Nat.le_of_ble_eq_true rfl, Nat.le_of_ble_eq_true rfl⟩) hD hS hA (fun r9 u9 H locs hw hp hd hs => ?_)
    clear hP hD hS
    obtain ⟨rfl, rfl⟩ := hw
    have hP := hp; have hD := hd; have hS := hs; clear hp hd hs
    refine lv_if_ne (tgt := 39) hx hb dX10_law_29 (by decide) (fun c9 => ?_) (fun c9 => ?_)
    · rw [if_neg c9] at h
      refine lv_aload_n hx hb dX10_law_39 rfl (lv_at hl 0 rfl) ?_
      refine lv_aload_n hx hb dX10_law_40 rfl (lv_at hl 0 rfl) ?_
      refine va_get (D := D) (ci := 10) (v := .ref (ad 2)) (C := RX10) (T := TX10) (N := 56) hx hb hts u9_wsX10_law_X10 hown hK hP 0 rfl rfl 2 (by decide) (hts (.fieldLink RX10 28 "TurnedFloorsModel" "kept" "[I") f9_wsX10_law_145) (fun _ h9 => h9) rfl dX10_law_41 ?_
      refine lv_bipush (v := 31) hx hb dX10_law_44 (by decide) ?_
      refine va_iald hx hb hK hP 2 0 rfl rfl (by simp only [vp_in]; decide) dX10_law_46 ?_
      refine kz_topi (q3.1 2 31) (congrArg (q3.1 2) (by decide +kernel : Int32.toNatClampNeg 31 = 31)) ?_
      obtain ⟨q6, h5, h⟩ := dV_some h
      refine dw_kv (va_runV (As := [.int (q3.1 2 31)]) (rest := []) ⟨hx, hb, hml, hown, hts⟩ (qX10_lays l D ty eo _ ad q3 (q3.1 2 31) q6 h5) (cwV 1 hts gX10_law_X10_lays rfl rfl rfl hd_X10_lays_v ⟨Nat.le_of_ble_eq_true rfl, Nat.le_of_ble_eq_true rfl⟩) (pv10_10_0 hK hN hE hP hD hS hA) rfl rfl hl.1 rfl (lv_room (Nat.le_of_ble_eq_true rfl)) dX10_law_47 ⟨Nat.le_of_ble_eq_true rfl, Nat.le_of_ble_eq_true rfl⟩) hD hS hA (fun u9 H locs hw hp hd hs => ?_)
      clear hP hD hS
      obtain rfl := hw
      have hP := hp; have hD := hd; have hS := hs; clear hp hd hs
      refine lv_aload_n hx hb dX10_law_50 rfl (lv_at hl 0 rfl) ?_
      refine va_get (D := D) (ci := 10) (v := .ref (ad 2)) (C := RX10) (T := TX10) (N := 56) hx hb hts u9_wsX10_law_X10 hown hK hP 0 rfl rfl 2 (by decide) (hts (.fieldLink RX10 28 "TurnedFloorsModel" "kept" "[I") f9_wsX10_law_145) (fun _ h9 => h9) rfl dX10_law_51 ?_
      refine lv_bipush (v := 31) hx hb dX10_law_54 (by decide) ?_
      refine lv_dup2_11 hx hb dX10_law_56 rfl rfl ?_
      refine va_iald hx hb hK hP 2 0 rfl rfl (by simp only [vp_in]; decide) dX10_law_57 ?_
      refine kz_topi (q6.1 2 31) (congrArg (q6.1 2) (by decide +kernel : Int32.toNatClampNeg 31 = 31)) ?_
      refine lv_iconst (v := 1) hx hb dX10_law_58 (by decide) ?_
      refine lv_iadd hx hb dX10_law_59 ?_
      refine va_iast hx hb hK hP hD hS 2 0 rfl rfl (by simp only [vp_in]; decide) dX10_law_60 (fun H locs hp hd hs => ?_)
      obtain ⟨q7, eq7, h⟩ := dL_some h
      refine kz_re (w2 := w10 ty ad q7) hp hd hs (by rw [(by decide +kernel : Int32.toNatClampNeg 31 = 31), ← eq7]; exact w10_a2 ty ad q6 31 ((q6.1 2 31) + 1 : Int32)) ?_
      clear hp hd hs hP hD hS
      intro hP hD hS
      refine lv_aload_n hx hb dX10_law_61 rfl (lv_at hl 0 rfl) ?_
      refine lv_aload_n hx hb dX10_law_62 rfl (lv_at hl 0 rfl) ?_
      refine va_get (D := D) (ci := 10) (v := .ref (ad 2)) (C := RX10) (T := TX10) (N := 56) hx hb hts u9_wsX10_law_X10 hown hK hP 0 rfl rfl 2 (by decide) (hts (.fieldLink RX10 28 "TurnedFloorsModel" "kept" "[I") f9_wsX10_law_145) (fun _ h9 => h9) rfl dX10_law_63 ?_
      refine lv_bipush (v := 31) hx hb dX10_law_66 (by decide) ?_
      refine va_iald hx hb hK hP 2 0 rfl rfl (by simp only [vp_in]; decide) dX10_law_68 ?_
      refine kz_topi (q7.1 2 31) (congrArg (q7.1 2) (by decide +kernel : Int32.toNatClampNeg 31 = 31)) ?_
      refine lv_iconst (v := 1) hx hb dX10_law_69 (by decide) ?_
      refine lv_isub hx hb dX10_law_70 ?_
      obtain ⟨r8, q10, h9, h⟩ := dB_some h
      refine dw_ki (va_runV (As := [.int ((q7.1 2 31) - 1 : Int32)]) (rest := []) ⟨hx, hb, hml, hown, hts⟩ (qX10_good l D ty eo _ ad q7 ((q7.1 2 31) - 1 : Int32) r8 q10 h9) (cwV 1 hts gX10_law_X10_good rfl rfl rfl hd_X10_good_v ⟨Nat.le_of_ble_eq_true rfl, Nat.le_of_ble_eq_true rfl⟩) (pv10_10_0 hK hN hE hP hD hS hA) rfl rfl hl.1 rfl (lv_room (Nat.le_of_ble_eq_true rfl)) dX10_law_71 ⟨Nat.le_of_ble_eq_true rfl, Nat.le_of_ble_eq_true rfl⟩) hD hS hA (fun r9 u9 H locs hw hp hd hs => ?_)
      clear hP hD hS
      obtain ⟨rfl, rfl⟩ := hw
      have hP := hp; have hD := hd; have hS := hs; clear hp hd hs
      cases h
      exact kz_iret hx hb hr hlocks hP hK hD hS dX10_law_74 ⟨rfl, rfl⟩
    · rw [if_pos c9] at h
      refine lv_aload_n hx hb dX10_law_32 rfl (lv_at hl 0 rfl) ?_
      refine lv_bipush (v := (-6)) hx hb dX10_law_33 (by decide) ?_
      obtain ⟨r11, q13, h12, h⟩ := dB_some h
      refine dw_ki (va_runV (As := [.int (-6)]) (rest := []) ⟨hx, hb, hml, hown, hts⟩ (qX10_refuses l D ty eo _ ad q3 (-6) r11 q13 h12) (cwV 1 hts gX10_law_X10_refuses rfl rfl rfl hd_X10_refuses_v ⟨Nat.le_of_ble_eq_true rfl, Nat.le_of_ble_eq_true rfl⟩) (pv10_10_0 hK hN hE hP hD hS hA) rfl rfl hl.1 rfl (lv_room (Nat.le_of_ble_eq_true rfl)) dX10_law_35 ⟨Nat.le_of_ble_eq_true rfl, Nat.le_of_ble_eq_true rfl⟩) hD hS hA (fun r9 u9 H locs hw hp hd hs => ?_)
      clear hP hD hS
      obtain ⟨rfl, rfl⟩ := hw
      have hP := hp; have hD := hd; have hS := hs; clear hp hd hs
      cases h
      exact kz_iret hx hb hr hlocks hP hK hD hS dX10_law_38 ⟨rfl, rfl⟩
  · rw [if_pos c9] at h
    refine lv_aload_n hx hb dX10_law_12 rfl (lv_at hl 0 rfl) ?_
    refine lv_iconst (v := 0) hx hb dX10_law_13 (by decide) ?_
    refine va_put (D := D) (ci := 10) (v := .int 0) (ty := .int) (C := RX10) (T := TX10) (N := 56) hx hb hts u9_wsX10_law_X10 tyX10 tyX10_ok nmX10 hown hK hP hD hS 0 rfl rfl 13 (by decide) (hts (.fieldLink RX10 169 "TurnedFloorsModel" "taped" "I") f9_wsX10_law_146) (fun _ h9 => h9) rfl (by decide +kernel) rfl rfl (Nat.le_of_ble_eq_true rfl) dX10_law_14 (fun H locs hp hd hs => ?_)
    obtain ⟨q14, eq14, h⟩ := dL_some h
    refine kz_re (w2 := w10 ty ad q14) hp hd hs (by rw [← eq14]; exact w10_f13 ty ad q 0) ?_
    clear hp hd hs hP hD hS
    intro hP hD hS
    refine lv_aload_n hx hb dX10_law_17 rfl (lv_at hl 0 rfl) ?_
    refine lv_bipush (v := (-5)) hx hb dX10_law_18 (by decide) ?_
    obtain ⟨r15, q17, h16, h⟩ := dB_some h
    refine dw_ki (va_runV (As := [.int (-5)]) (rest := []) ⟨hx, hb, hml, hown, hts⟩ (qX10_refuses l D ty eo _ ad q14 (-5) r15 q17 h16) (cwV 1 hts gX10_law_X10_refuses rfl rfl rfl hd_X10_refuses_v ⟨Nat.le_of_ble_eq_true rfl, Nat.le_of_ble_eq_true rfl⟩) (pv10_10_0 hK hN hE hP hD hS hA) rfl rfl hl.1 rfl (lv_room (Nat.le_of_ble_eq_true rfl)) dX10_law_20 ⟨Nat.le_of_ble_eq_true rfl, Nat.le_of_ble_eq_true rfl⟩) hD hS hA (fun r9 u9 H locs hw hp hd hs => ?_)
    clear hP hD hS
    obtain ⟨rfl, rfl⟩ := hw
    have hP := hp; have hD := hd; have hS := hs; clear hp hd hs
    cases h
    exact kz_iret hx hb hr hlocks hP hK hD hS dX10_law_23 ⟨rfl, rfl⟩

set_option maxHeartbeats 4000000 in
set_option maxRecDepth 100000 in
theorem qX10_fault (l : Launch) (D : va_G) (ty : Nat → ClassId) (eo : Nat → Nat) (sz : Nat) (ad : Nat → Nat) (q : dS)  (o1 : Int32) (o2 : dS) (h : zX10_fault q = some (o1, o2)) : Met l yX10_fault wsX10_fault ({ frames := 0, cells := 0, slots := 0, locals := 0 } : Room) (va_Pc [.ref (ad 0)] (kz_pre D ty eo (w10 ty ad q) sz)) (va_Qi (fun (r : Int32) (u : va_W) => o1 = r ∧ w10 ty ad o2 = u) (kz_B D ty (va_A (w10 ty ad q) sz)) (va_A (w10 ty ad q) sz)) 0 0 (va_A (w10 ty ad q) sz) := by
  refine Met.ofW (cc := cX10_fault) (maxL := 1) (ret := (some .int)) (by decide) rfl ?_
  intro p e s m args below meth c s₁ B hml hv
  obtain ⟨rfl, hsz, hP, hK, hD0, hN, hE⟩ := hv
  have hx := B.exec
  have hb := B.bytes
  have hr := B.returns
  have hts := atoms_spec (ws := wsX10_fault) B.pre
  have hown : s.vm.findClass RX10 = some m.cls := findClass_of_methodNamed B.named
  have hlocks := B.notSynchronized
  subst hsz
  have hD := hD0.self (sz := s.heap.size)
  generalize hAe : va_A (w10 ty ad q) s.heap.size = A at hD hE ⊢
  have hA : ∀ q : Nat, s.heap.size ≤ q → A q := fun q h => by rw [← hAe]; exact Or.inr h
  clear hAe
  have hS : va_S A s.heap s.heap [] := va_S.rf
  have hl := lv_entry ([.ref (ad 0)]) (n := 1) (Nat.le_of_ble_eq_true rfl)
  rw [lg_entry_eq]
  generalize (lg_sl ([.ref (ad 0)]) ++ List.replicate (1 - (lg_sl ([.ref (ad 0)])).length) Slot.unset).toArray = ls at hl ⊢
  have hl : lv_has ls 1 [(0, .ref (ad 0))] := hl
  have C : dc_C p s m _ meth c cX10_fault (some .int) 1 RX10 wsX10_fault D ty eo A := ⟨hx, hb, hr, hts, hown, hlocks, hml, hK, hN, hE, hA⟩
  unfold zX10_fault at h
  refine lv_aload_n hx hb dX10_fault_0 rfl (lv_at hl 0 rfl) ?_
  refine va_get (D := D) (ci := 10) (v := .int (q.1 0 14)) (C := RX10) (T := TX10) (N := 56) hx hb hts u9_wsX10_fault_X10 hown hK hP 0 rfl rfl 14 (by decide) (hts (.fieldLink RX10 51 "TurnedFloorsModel" "fault" "I") f9_wsX10_fault_148) (fun _ h9 => h9) rfl dX10_fault_1 ?_
  cases h
  exact kz_iret hx hb hr hlocks hP hK hD hS dX10_fault_4 ⟨rfl, rfl⟩

set_option maxHeartbeats 4000000 in
set_option maxRecDepth 100000 in
theorem qX10_isLaw (l : Launch) (D : va_G) (ty : Nat → ClassId) (eo : Nat → Nat) (sz : Nat) (ad : Nat → Nat) (q : dS) (p1 : Int32) (o1 : Int32) (o2 : dS) (h : zX10_isLaw q p1 = some (o1, o2)) : Met l yX10_isLaw wsX10_isLaw ({ frames := 1, cells := 0, slots := 0, locals := 22 } : Room) (va_Pc [.ref (ad 0), .int p1] (kz_pre D ty eo (w10 ty ad q) sz)) (va_Qi (fun (r : Int32) (u : va_W) => o1 = r ∧ w10 ty ad o2 = u) (kz_B D ty (va_A (w10 ty ad q) sz)) (va_A (w10 ty ad q) sz)) 0 0 (va_A (w10 ty ad q) sz) := by
  refine Met.ofW (cc := cX10_isLaw) (maxL := 2) (ret := (some .boolean)) (by decide) rfl ?_
  intro p e s m args below meth c s₁ B hml hv
  obtain ⟨rfl, hsz, hP, hK, hD0, hN, hE⟩ := hv
  have hx := B.exec
  have hb := B.bytes
  have hr := B.returns
  have hts := atoms_spec (ws := wsX10_isLaw) B.pre
  have hown : s.vm.findClass RX10 = some m.cls := findClass_of_methodNamed B.named
  have hlocks := B.notSynchronized
  subst hsz
  have hD := hD0.self (sz := s.heap.size)
  generalize hAe : va_A (w10 ty ad q) s.heap.size = A at hD hE ⊢
  have hA : ∀ q : Nat, s.heap.size ≤ q → A q := fun q h => by rw [← hAe]; exact Or.inr h
  clear hAe
  have hS : va_S A s.heap s.heap [] := va_S.rf
  have hl := lv_entry ([.ref (ad 0), .int p1]) (n := 2) (Nat.le_of_ble_eq_true rfl)
  rw [lg_entry_eq]
  generalize (lg_sl ([.ref (ad 0), .int p1]) ++ List.replicate (2 - (lg_sl ([.ref (ad 0), .int p1])).length) Slot.unset).toArray = ls at hl ⊢
  have hl : lv_has ls 2 [(0, .ref (ad 0)), (1, .int p1)] := hl
  have C : dc_C p s m _ meth c cX10_isLaw (some .boolean) 2 RX10 wsX10_isLaw D ty eo A := ⟨hx, hb, hr, hts, hown, hlocks, hml, hK, hN, hE, hA⟩
  unfold zX10_isLaw at h
  refine lv_iload_n hx hb dX10_isLaw_0 rfl (lv_at hl 1 rfl) ?_
  refine lv_iconst (v := (-1)) hx hb dX10_isLaw_1 (by decide) ?_
  refine lv_aload_n hx hb dX10_isLaw_2 rfl (lv_at hl 0 rfl) ?_
  refine va_get (D := D) (ci := 10) (v := .ref (ad 2)) (C := RX10) (T := TX10) (N := 56) hx hb hts u9_wsX10_isLaw_X10 hown hK hP 0 rfl rfl 2 (by decide) (hts (.fieldLink RX10 28 "TurnedFloorsModel" "kept" "[I") f9_wsX10_isLaw_150) (fun _ h9 => h9) rfl dX10_isLaw_3 ?_
  refine lv_bipush (v := 31) hx hb dX10_isLaw_6 (by decide) ?_
  refine va_iald hx hb hK hP 2 0 rfl rfl (by simp only [vp_in]; decide) dX10_isLaw_8 ?_
  refine kz_topi (q.1 2 31) (congrArg (q.1 2) (by decide +kernel : Int32.toNatClampNeg 31 = 31)) ?_
  refine lv_iconst (v := 1) hx hb dX10_isLaw_9 (by decide) ?_
  refine lv_isub hx hb dX10_isLaw_10 ?_
  obtain ⟨r1, h2, h⟩ := dV_some h
  refine dw_ks (va_runS (As := [.int p1, .int (-1), .int ((q.1 2 31) - 1 : Int32)]) (rest := []) ⟨hx, hb, hml, hown, hts⟩ (qX10_lies l D ty eo _ p1 (-1) ((q.1 2 31) - 1 : Int32) _ h2) (va_cwS 3 hts gX10_isLaw_X10_lies rfl rfl rfl hd_X10_lies ⟨Nat.le_of_ble_eq_true rfl, Nat.le_of_ble_eq_true rfl⟩) (pvS_0 hK hN hE hP hD hS hA) rfl rfl hl.1 rfl (lv_room (Nat.le_of_ble_eq_true rfl)) dX10_isLaw_11 ⟨Nat.le_of_ble_eq_true rfl, Nat.le_of_ble_eq_true rfl⟩) hP hD hS hA (fun _ _ h9 => h9.2.symm) (fun r9 u9 H locs hw hp hd hs => ?_)
  obtain ⟨rfl, -⟩ := hw
  clear hP hD hS
  have hP := hp; have hD := hd; have hS := hs; clear hp hd hs
  obtain ⟨g3, h⟩ := dG_some h
  cases h
  exact kz_zret hx hb hr hlocks (dbl_nar g3) hP hK hD hS dX10_isLaw_14 ⟨rfl, rfl⟩

set_option maxHeartbeats 4000000 in
set_option maxRecDepth 100000 in
theorem qX10_force (l : Launch) (D : va_G) (ty : Nat → ClassId) (eo : Nat → Nat) (sz : Nat) (ad : Nat → Nat) (q : dS) (p1 : Int32) (o1 : Int32) (o2 : dS) (h : zX10_force q p1 = some (o1, o2)) : Met l yX10_force wsX10_force ({ frames := 2, cells := 0, slots := 0, locals := 43 } : Room) (va_Pc [.ref (ad 0), .int p1] (kz_pre D ty eo (w10 ty ad q) sz)) (va_Qi (fun (r : Int32) (u : va_W) => o1 = r ∧ w10 ty ad o2 = u) (kz_B D ty (va_A (w10 ty ad q) sz)) (va_A (w10 ty ad q) sz)) 0 0 (va_A (w10 ty ad q) sz) := by
  refine Met.ofW (cc := cX10_force) (maxL := 3) (ret := (some .int)) (by decide) rfl ?_
  intro p e s m args below meth c s₁ B hml hv
  obtain ⟨rfl, hsz, hP, hK, hD0, hN, hE⟩ := hv
  have hx := B.exec
  have hb := B.bytes
  have hr := B.returns
  have hts := atoms_spec (ws := wsX10_force) B.pre
  have hown : s.vm.findClass RX10 = some m.cls := findClass_of_methodNamed B.named
  have hlocks := B.notSynchronized
  subst hsz
  have hD := hD0.self (sz := s.heap.size)
  generalize hAe : va_A (w10 ty ad q) s.heap.size = A at hD hE ⊢
  have hA : ∀ q : Nat, s.heap.size ≤ q → A q := fun q h => by rw [← hAe]; exact Or.inr h
  clear hAe
  have hS : va_S A s.heap s.heap [] := va_S.rf
  have hl := lv_entry ([.ref (ad 0), .int p1]) (n := 3) (Nat.le_of_ble_eq_true rfl)
  rw [lg_entry_eq]
  generalize (lg_sl ([.ref (ad 0), .int p1]) ++ List.replicate (3 - (lg_sl ([.ref (ad 0), .int p1])).length) Slot.unset).toArray = ls at hl ⊢
  have hl : lv_has ls 3 [(0, .ref (ad 0)), (1, .int p1)] := hl
  have C : dc_C p s m _ meth c cX10_force (some .int) 3 RX10 wsX10_force D ty eo A := ⟨hx, hb, hr, hts, hown, hlocks, hml, hK, hN, hE, hA⟩
  unfold zX10_force at h
  refine lv_aload_n hx hb dX10_force_0 rfl (lv_at hl 0 rfl) ?_
  refine lv_iload_n hx hb dX10_force_1 rfl (lv_at hl 1 rfl) ?_
  obtain ⟨r1, q3, h2, h⟩ := dB_some h
  refine dw_ki (va_runV (As := [.int p1]) (rest := []) ⟨hx, hb, hml, hown, hts⟩ (qX10_isLaw l D ty eo _ ad q p1 r1 q3 h2) (cwV 1 hts gX10_force_X10_isLaw rfl rfl rfl hd_X10_isLaw_v ⟨Nat.le_of_ble_eq_true rfl, Nat.le_of_ble_eq_true rfl⟩) (pv10_10_0 hK hN hE hP hD hS hA) rfl rfl hl.1 rfl (lv_room (Nat.le_of_ble_eq_true rfl)) dX10_force_2 ⟨Nat.le_of_ble_eq_true rfl, Nat.le_of_ble_eq_true rfl⟩) hD hS hA (fun r9 u9 H locs hw hp hd hs => ?_)
  clear hP hD hS
  obtain ⟨rfl, rfl⟩ := hw
  have hP := hp; have hD := hd; have hS := hs; clear hp hd hs
  refine lv_if_ne (tgt := 15) hx hb dX10_force_5 (by decide) (fun c9 => ?_) (fun c9 => ?_)
  · rw [if_neg c9] at h
    refine lv_aload_n hx hb dX10_force_15 rfl (lv_at hl 0 rfl) ?_
    refine va_get (D := D) (ci := 10) (v := .ref (ad 2)) (C := RX10) (T := TX10) (N := 56) hx hb hts u9_wsX10_force_X10 hown hK hP 0 rfl rfl 2 (by decide) (hts (.fieldLink RX10 28 "TurnedFloorsModel" "kept" "[I") f9_wsX10_force_152) (fun _ h9 => h9) rfl dX10_force_16 ?_
    refine lv_bipush (v := 32) hx hb dX10_force_19 (by decide) ?_
    refine va_iald hx hb hK hP 2 0 rfl rfl (by simp only [vp_in]; decide) dX10_force_21 ?_
    refine kz_topi (q3.1 2 32) (congrArg (q3.1 2) (by decide +kernel : Int32.toNatClampNeg 32 = 32)) ?_
    refine lv_istore_n (lv' := [(2, .int (q3.1 2 32)), (0, .ref (ad 0)), (1, .int p1)]) hx hb dX10_force_22 rfl hl (by decide) rfl (fun ls hl => ?_)
    refine lv_aload_n hx hb dX10_force_23 rfl (lv_at hl 1 rfl) ?_
    refine va_get (D := D) (ci := 10) (v := .ref (ad 2)) (C := RX10) (T := TX10) (N := 56) hx hb hts u9_wsX10_force_X10 hown hK hP 0 rfl rfl 2 (by decide) (hts (.fieldLink RX10 28 "TurnedFloorsModel" "kept" "[I") f9_wsX10_force_152) (fun _ h9 => h9) rfl dX10_force_24 ?_
    refine lv_bipush (v := 32) hx hb dX10_force_27 (by decide) ?_
    refine lv_iload_n hx hb dX10_force_29 rfl (lv_at hl 2 rfl) ?_
    refine va_iast hx hb hK hP hD hS 2 0 rfl rfl (by simp only [vp_in]; decide) dX10_force_30 (fun H locs hp hd hs => ?_)
    obtain ⟨q4, eq4, h⟩ := dL_some h
    refine kz_re (w2 := w10 ty ad q4) hp hd hs (by rw [(by decide +kernel : Int32.toNatClampNeg 32 = 32), ← eq4]; exact w10_a2 ty ad q3 32 p1) ?_
    clear hp hd hs hP hD hS
    intro hP hD hS
    refine lv_aload_n hx hb dX10_force_31 rfl (lv_at hl 1 rfl) ?_
    refine lv_iload_n hx hb dX10_force_32 rfl (lv_at hl 0 rfl) ?_
    obtain ⟨r5, q7, h6, h⟩ := dB_some h
    refine dw_ki (va_runV (As := [.int (q3.1 2 32)]) (rest := []) ⟨hx, hb, hml, hown, hts⟩ (qX10_good l D ty eo _ ad q4 (q3.1 2 32) r5 q7 h6) (cwV 1 hts gX10_force_X10_good rfl rfl rfl hd_X10_good_v ⟨Nat.le_of_ble_eq_true rfl, Nat.le_of_ble_eq_true rfl⟩) (pv10_10_0 hK hN hE hP hD hS hA) rfl rfl hl.1 rfl (lv_room (Nat.le_of_ble_eq_true rfl)) dX10_force_33 ⟨Nat.le_of_ble_eq_true rfl, Nat.le_of_ble_eq_true rfl⟩) hD hS hA (fun r9 u9 H locs hw hp hd hs => ?_)
    clear hP hD hS
    obtain ⟨rfl, rfl⟩ := hw
    have hP := hp; have hD := hd; have hS := hs; clear hp hd hs
    cases h
    exact kz_iret hx hb hr hlocks hP hK hD hS dX10_force_36 ⟨rfl, rfl⟩
  · rw [if_pos c9] at h
    refine lv_aload_n hx hb dX10_force_8 rfl (lv_at hl 0 rfl) ?_
    refine lv_bipush (v := (-2)) hx hb dX10_force_9 (by decide) ?_
    obtain ⟨r8, q10, h9, h⟩ := dB_some h
    refine dw_ki (va_runV (As := [.int (-2)]) (rest := []) ⟨hx, hb, hml, hown, hts⟩ (qX10_refuses l D ty eo _ ad q3 (-2) r8 q10 h9) (cwV 1 hts gX10_force_X10_refuses rfl rfl rfl hd_X10_refuses_v ⟨Nat.le_of_ble_eq_true rfl, Nat.le_of_ble_eq_true rfl⟩) (pv10_10_0 hK hN hE hP hD hS hA) rfl rfl hl.1 rfl (lv_room (Nat.le_of_ble_eq_true rfl)) dX10_force_11 ⟨Nat.le_of_ble_eq_true rfl, Nat.le_of_ble_eq_true rfl⟩) hD hS hA (fun r9 u9 H locs hw hp hd hs => ?_)
    clear hP hD hS
    obtain ⟨rfl, rfl⟩ := hw
    have hP := hp; have hD := hd; have hS := hs; clear hp hd hs
    cases h
    exact kz_iret hx hb hr hlocks hP hK hD hS dX10_force_14 ⟨rfl, rfl⟩

set_option maxHeartbeats 4000000 in
set_option maxRecDepth 100000 in
theorem WX10_canTurn_46 {p : Program} {l : Launch} {e : Env} {s : State} {m : MethodId} {args : Array Value} {below : List Frame} {meth : Method} {c : Code} {D : va_G} {ty : Nat → ClassId} {eo : Nat → Nat} {A : Nat → Prop} {ad : Nat → Nat} {o1 : Int32} {o2 : dS} (C : dc_C p s m args meth c cX10_canTurn (some .boolean) 2 RX10 wsX10_canTurn D ty eo A)   (q : dS) (y0 : Int32) (H : Heap) (locs : List Loc) (ls : Array Slot) (h : zX10_canTurn_46  q y0 = some (o1, o2)) (hP : va_P D vwCl (w10 ty ad q) H) (hD : va_D A (w10 ty ad q)) (hS : va_S A s.heap H locs) (hl : lv_has ls 2 []) : W p l e ({ frames := 87, cells := 0, slots := 0, locals := 2223 } : Room) s m args below meth c H locs 0 0 (MQ below (va_Qi (fun (r : Int32) (u : va_W) => o1 = r ∧ w10 ty ad o2 = u) (kz_B D ty A) A) args s 0 0 A) (F0 m 46 ls [.int y0]) := by
  have C0 := C
  obtain ⟨hx, hb, hr, hts, hown, hlocks, hml, hK, hN, hE, hA⟩ := C
  unfold zX10_canTurn_46 at h
  obtain ⟨g1, h⟩ := dG_some h
  cases h
  exact kz_zret hx hb hr hlocks (dbl_nar g1) hP hK hD hS dX10_canTurn_46 ⟨rfl, rfl⟩
set_option maxHeartbeats 4000000 in
set_option maxRecDepth 100000 in
theorem qX10_canTurn (l : Launch) (D : va_G) (ty : Nat → ClassId) (eo : Nat → Nat) (sz : Nat) (ad : Nat → Nat) (q : dS) (p1 : Int32) (o1 : Int32) (o2 : dS) (h : zX10_canTurn q p1 = some (o1, o2)) : Met l yX10_canTurn wsX10_canTurn ({ frames := 87, cells := 0, slots := 0, locals := 2223 } : Room) (va_Pc [.ref (ad 0), .int p1] (kz_pre D ty eo (w10 ty ad q) sz)) (va_Qi (fun (r : Int32) (u : va_W) => o1 = r ∧ w10 ty ad o2 = u) (kz_B D ty (va_A (w10 ty ad q) sz)) (va_A (w10 ty ad q) sz)) 0 0 (va_A (w10 ty ad q) sz) := by
  refine Met.ofW (cc := cX10_canTurn) (maxL := 2) (ret := (some .boolean)) (by decide) rfl ?_
  intro p e s m args below meth c s₁ B hml hv
  obtain ⟨rfl, hsz, hP, hK, hD0, hN, hE⟩ := hv
  have hx := B.exec
  have hb := B.bytes
  have hr := B.returns
  have hts := atoms_spec (ws := wsX10_canTurn) B.pre
  have hown : s.vm.findClass RX10 = some m.cls := findClass_of_methodNamed B.named
  have hlocks := B.notSynchronized
  subst hsz
  have hD := hD0.self (sz := s.heap.size)
  generalize hAe : va_A (w10 ty ad q) s.heap.size = A at hD hE ⊢
  have hA : ∀ q : Nat, s.heap.size ≤ q → A q := fun q h => by rw [← hAe]; exact Or.inr h
  clear hAe
  have hS : va_S A s.heap s.heap [] := va_S.rf
  have hl := lv_entry ([.ref (ad 0), .int p1]) (n := 2) (Nat.le_of_ble_eq_true rfl)
  rw [lg_entry_eq]
  generalize (lg_sl ([.ref (ad 0), .int p1]) ++ List.replicate (2 - (lg_sl ([.ref (ad 0), .int p1])).length) Slot.unset).toArray = ls at hl ⊢
  have hl : lv_has ls 2 [(0, .ref (ad 0)), (1, .int p1)] := hl
  have C : dc_C p s m _ meth c cX10_canTurn (some .boolean) 2 RX10 wsX10_canTurn D ty eo A := ⟨hx, hb, hr, hts, hown, hlocks, hml, hK, hN, hE, hA⟩
  unfold zX10_canTurn at h
  refine lv_iload_n hx hb dX10_canTurn_0 rfl (lv_at hl 1 rfl) ?_
  refine lv_aload_n hx hb dX10_canTurn_1 rfl (lv_at hl 0 rfl) ?_
  obtain ⟨r1, q3, h2, h⟩ := dB_some h
  refine dw_ki (va_runV (As := []) (rest := [.int p1]) ⟨hx, hb, hml, hown, hts⟩ (qX10_size l D ty eo _ ad q  r1 q3 h2) (cwV 0 hts gX10_canTurn_X10_size rfl rfl rfl hd_X10_size_v ⟨Nat.le_of_ble_eq_true rfl, Nat.le_of_ble_eq_true rfl⟩) (pv10_10_0 hK hN hE hP hD hS hA) rfl rfl hl.1 rfl (lv_room (Nat.le_of_ble_eq_true rfl)) dX10_canTurn_2 ⟨Nat.le_of_ble_eq_true rfl, Nat.le_of_ble_eq_true rfl⟩) hD hS hA (fun r9 u9 H locs hw hp hd hs => ?_)
  clear hP hD hS
  obtain ⟨rfl, rfl⟩ := hw
  have hP := hp; have hD := hd; have hS := hs; clear hp hd hs
  refine lv_icmp_le (tgt := 10) hx hb dX10_canTurn_5 (by decide) (fun c9 => ?_) (fun c9 => ?_)
  · rw [if_pos c9] at h
    refine lv_aload_n hx hb dX10_canTurn_10 rfl (lv_at hl 0 rfl) ?_
    refine lv_iload_n hx hb dX10_canTurn_11 rfl (lv_at hl 1 rfl) ?_
    refine lv_aload_n hx hb dX10_canTurn_12 rfl (lv_at hl 0 rfl) ?_
    refine va_get (D := D) (ci := 10) (v := .ref (ad 2)) (C := RX10) (T := TX10) (N := 56) hx hb hts u9_wsX10_canTurn_X10 hown hK hP 0 rfl rfl 2 (by decide) (hts (.fieldLink RX10 28 "TurnedFloorsModel" "kept" "[I") f9_wsX10_canTurn_154) (fun _ h9 => h9) rfl dX10_canTurn_13 ?_
    refine lv_iconst (v := 0) hx hb dX10_canTurn_16 (by decide) ?_
    refine va_iald hx hb hK hP 2 0 rfl rfl (by simp only [vp_in]; decide) dX10_canTurn_17 ?_
    refine kz_topi (q3.1 2 0) (congrArg (q3.1 2) (by decide +kernel : Int32.toNatClampNeg 0 = 0)) ?_
    refine lv_aload_n hx hb dX10_canTurn_18 rfl (lv_at hl 0 rfl) ?_
    refine lv_iload_n hx hb dX10_canTurn_19 rfl (lv_at hl 1 rfl) ?_
    obtain ⟨r4, q6, h5, h⟩ := dB_some h
    refine dw_ki (va_runV (As := [.int p1]) (rest := [.int (q3.1 2 0), .int p1, .ref (ad 0)]) ⟨hx, hb, hml, hown, hts⟩ (qX10_rankBelow l D ty eo _ ad q3 p1 r4 q6 h5) (cwV 1 hts gX10_canTurn_X10_rankBelow rfl rfl rfl hd_X10_rankBelow_v ⟨Nat.le_of_ble_eq_true rfl, Nat.le_of_ble_eq_true rfl⟩) (pv10_10_0 hK hN hE hP hD hS hA) rfl rfl hl.1 rfl (lv_room (Nat.le_of_ble_eq_true rfl)) dX10_canTurn_20 ⟨Nat.le_of_ble_eq_true rfl, Nat.le_of_ble_eq_true rfl⟩) hD hS hA (fun r9 u9 H locs hw hp hd hs => ?_)
    clear hP hD hS
    obtain ⟨rfl, rfl⟩ := hw
    have hP := hp; have hD := hd; have hS := hs; clear hp hd hs
    refine lv_aload_n hx hb dX10_canTurn_23 rfl (lv_at hl 0 rfl) ?_
    refine va_get (D := D) (ci := 10) (v := .ref (ad 2)) (C := RX10) (T := TX10) (N := 56) hx hb hts u9_wsX10_canTurn_X10 hown hK hP 0 rfl rfl 2 (by decide) (hts (.fieldLink RX10 28 "TurnedFloorsModel" "kept" "[I") f9_wsX10_canTurn_154) (fun _ h9 => h9) rfl dX10_canTurn_24 ?_
    refine lv_bipush (v := 6) hx hb dX10_canTurn_27 (by decide) ?_
    refine va_iald hx hb hK hP 2 0 rfl rfl (by simp only [vp_in]; decide) dX10_canTurn_29 ?_
    refine kz_topi (q6.1 2 6) (congrArg (q6.1 2) (by decide +kernel : Int32.toNatClampNeg 6 = 6)) ?_
    obtain ⟨q9, h8, h⟩ := dV_some h
    refine dw_kv (va_runV (As := [.int p1, .int (q3.1 2 0), .int r4, .int (q6.1 2 6)]) (rest := []) ⟨hx, hb, hml, hown, hts⟩ (qX10_setsTurn l D ty eo _ ad q6 p1 (q3.1 2 0) r4 (q6.1 2 6) q9 h8) (cwV 4 hts gX10_canTurn_X10_setsTurn rfl rfl rfl hd_X10_setsTurn_v ⟨Nat.le_of_ble_eq_true rfl, Nat.le_of_ble_eq_true rfl⟩) (pv10_10_0 hK hN hE hP hD hS hA) rfl rfl hl.1 rfl (lv_room (Nat.le_of_ble_eq_true rfl)) dX10_canTurn_30 ⟨Nat.le_of_ble_eq_true rfl, Nat.le_of_ble_eq_true rfl⟩) hD hS hA (fun u9 H locs hw hp hd hs => ?_)
    clear hP hD hS
    obtain rfl := hw
    have hP := hp; have hD := hd; have hS := hs; clear hp hd hs
    refine lv_aload_n hx hb dX10_canTurn_33 rfl (lv_at hl 0 rfl) ?_
    refine lv_iconst (v := 2) hx hb dX10_canTurn_34 (by decide) ?_
    obtain ⟨r10, q12, h11, h⟩ := dB_some h
    refine dw_ki (va_runV (As := [.int 2]) (rest := []) ⟨hx, hb, hml, hown, hts⟩ (qX10_isNow l D ty eo _ ad q9 2 r10 q12 h11) (cwV 1 hts gX10_canTurn_X10_isNow rfl rfl rfl hd_X10_isNow_v ⟨Nat.le_of_ble_eq_true rfl, Nat.le_of_ble_eq_true rfl⟩) (pv10_10_0 hK hN hE hP hD hS hA) rfl rfl hl.1 rfl (lv_room (Nat.le_of_ble_eq_true rfl)) dX10_canTurn_35 ⟨Nat.le_of_ble_eq_true rfl, Nat.le_of_ble_eq_true rfl⟩) hD hS hA (fun r9 u9 H locs hw hp hd hs => ?_)
    clear hP hD hS
    obtain ⟨rfl, rfl⟩ := hw
    have hP := hp; have hD := hd; have hS := hs; clear hp hd hs
    refine lv_if_ne (tgt := 45) hx hb dX10_canTurn_38 (by decide) (fun c9 => ?_) (fun c9 => ?_)
    · rw [if_neg c9] at h
      refine lv_iconst (v := 0) hx hb dX10_canTurn_45 (by decide) ?_
      exact WX10_canTurn_46 C  _ _ _ _ _ h hP hD hS (lv_sub hl [] rfl)
    · rw [if_pos c9] at h
      refine lv_iconst (v := 1) hx hb dX10_canTurn_41 (by decide) ?_
      refine lv_goto (tgt := 46) hx hb dX10_canTurn_42 (by decide) ?_
      exact WX10_canTurn_46 C  _ _ _ _ _ h hP hD hS (lv_sub hl [] rfl)
  · rw [if_neg c9] at h
    refine lv_iconst (v := 0) hx hb dX10_canTurn_8 (by decide) ?_
    cases h
    exact kz_zret hx hb hr hlocks rfl hP hK hD hS dX10_canTurn_9 ⟨rfl, rfl⟩

set_option maxHeartbeats 4000000 in
set_option maxRecDepth 100000 in
theorem qX10_exchanges (l : Launch) (D : va_G) (ty : Nat → ClassId) (eo : Nat → Nat) (sz : Nat) (ad : Nat → Nat) (q : dS) (p1 : Int32) (p2 : Int32) (o2 : dS) (h : zX10_exchanges q p1 p2 = some o2) : Met l yX10_exchanges wsX10_exchanges ({ frames := 0, cells := 0, slots := 0, locals := 0 } : Room) (va_Pc [.ref (ad 0), .int p1, .int p2] (kz_pre D ty eo (w10 ty ad q) sz)) (va_Qv (fun (u : va_W) => w10 ty ad o2 = u) (kz_B D ty (va_A (w10 ty ad q) sz)) (va_A (w10 ty ad q) sz)) 0 0 (va_A (w10 ty ad q) sz) := by
  refine Met.ofW (cc := cX10_exchanges) (maxL := 5) (ret := none) (by decide) rfl ?_
  intro p e s m args below meth c s₁ B hml hv
  obtain ⟨rfl, hsz, hP, hK, hD0, hN, hE⟩ := hv
  have hx := B.exec
  have hb := B.bytes
  have hr := B.returns
  have hts := atoms_spec (ws := wsX10_exchanges) B.pre
  have hown : s.vm.findClass RX10 = some m.cls := findClass_of_methodNamed B.named
  have hlocks := B.notSynchronized
  subst hsz
  have hD := hD0.self (sz := s.heap.size)
  generalize hAe : va_A (w10 ty ad q) s.heap.size = A at hD hE ⊢
  have hA : ∀ q : Nat, s.heap.size ≤ q → A q := fun q h => by rw [← hAe]; exact Or.inr h
  clear hAe
  have hS : va_S A s.heap s.heap [] := va_S.rf
  have hl := lv_entry ([.ref (ad 0), .int p1, .int p2]) (n := 5) (Nat.le_of_ble_eq_true rfl)
  rw [lg_entry_eq]
  generalize (lg_sl ([.ref (ad 0), .int p1, .int p2]) ++ List.replicate (5 - (lg_sl ([.ref (ad 0), .int p1, .int p2])).length) Slot.unset).toArray = ls at hl ⊢
  have hl : lv_has ls 5 [(0, .ref (ad 0)), (1, .int p1), (2, .int p2)] := hl
  have C : dc_C p s m _ meth c cX10_exchanges none 5 RX10 wsX10_exchanges D ty eo A := ⟨hx, hb, hr, hts, hown, hlocks, hml, hK, hN, hE, hA⟩
  unfold zX10_exchanges at h
  refine lv_aload_n hx hb dX10_exchanges_0 rfl (lv_at hl 0 rfl) ?_
  refine va_get (D := D) (ci := 10) (v := .ref (ad 2)) (C := RX10) (T := TX10) (N := 56) hx hb hts u9_wsX10_exchanges_X10 hown hK hP 0 rfl rfl 2 (by decide) (hts (.fieldLink RX10 28 "TurnedFloorsModel" "kept" "[I") f9_wsX10_exchanges_156) (fun _ h9 => h9) rfl dX10_exchanges_1 ?_
  refine lv_iconst (v := 0) hx hb dX10_exchanges_4 (by decide) ?_
  refine lv_iload_n hx hb dX10_exchanges_5 rfl (lv_at hl 1 rfl) ?_
  refine lv_iadd hx hb dX10_exchanges_6 ?_
  obtain ⟨g1, h⟩ := dG_some h
  refine va_iald hx hb hK hP 2 0 rfl rfl (dg_in g1) dX10_exchanges_7 ?_
  obtain ⟨v2, ev2, h⟩ := dL_some h
  refine kz_topi v2 ev2 ?_
  refine lv_istore_n (lv' := [(3, .int v2), (0, .ref (ad 0)), (1, .int p1), (2, .int p2)]) hx hb dX10_exchanges_8 rfl hl (by decide) rfl (fun ls hl => ?_)
  refine lv_aload_n hx hb dX10_exchanges_9 rfl (lv_at hl 1 rfl) ?_
  refine va_get (D := D) (ci := 10) (v := .ref (ad 2)) (C := RX10) (T := TX10) (N := 56) hx hb hts u9_wsX10_exchanges_X10 hown hK hP 0 rfl rfl 2 (by decide) (hts (.fieldLink RX10 28 "TurnedFloorsModel" "kept" "[I") f9_wsX10_exchanges_156) (fun _ h9 => h9) rfl dX10_exchanges_10 ?_
  refine lv_bipush (v := 6) hx hb dX10_exchanges_13 (by decide) ?_
  refine lv_iload_n hx hb dX10_exchanges_15 rfl (lv_at hl 2 rfl) ?_
  refine lv_iadd hx hb dX10_exchanges_16 ?_
  obtain ⟨g3, h⟩ := dG_some h
  refine va_iald hx hb hK hP 2 0 rfl rfl (dg_in g3) dX10_exchanges_17 ?_
  obtain ⟨v4, ev4, h⟩ := dL_some h
  refine kz_topi v4 ev4 ?_
  refine lv_istore (lv' := [(4, .int v4), (3, .int v2), (0, .ref (ad 0)), (1, .int p1), (2, .int p2)]) hx hb dX10_exchanges_18 hl (by decide) rfl (fun ls hl => ?_)
  refine lv_aload_n hx hb dX10_exchanges_20 rfl (lv_at hl 2 rfl) ?_
  refine va_get (D := D) (ci := 10) (v := .ref (ad 2)) (C := RX10) (T := TX10) (N := 56) hx hb hts u9_wsX10_exchanges_X10 hown hK hP 0 rfl rfl 2 (by decide) (hts (.fieldLink RX10 28 "TurnedFloorsModel" "kept" "[I") f9_wsX10_exchanges_156) (fun _ h9 => h9) rfl dX10_exchanges_21 ?_
  refine lv_iconst (v := 0) hx hb dX10_exchanges_24 (by decide) ?_
  refine lv_iload_n hx hb dX10_exchanges_25 rfl (lv_at hl 3 rfl) ?_
  refine lv_iadd hx hb dX10_exchanges_26 ?_
  refine lv_aload_n hx hb dX10_exchanges_27 rfl (lv_at hl 2 rfl) ?_
  refine va_get (D := D) (ci := 10) (v := .ref (ad 2)) (C := RX10) (T := TX10) (N := 56) hx hb hts u9_wsX10_exchanges_X10 hown hK hP 0 rfl rfl 2 (by decide) (hts (.fieldLink RX10 28 "TurnedFloorsModel" "kept" "[I") f9_wsX10_exchanges_156) (fun _ h9 => h9) rfl dX10_exchanges_28 ?_
  refine lv_iconst (v := 0) hx hb dX10_exchanges_31 (by decide) ?_
  refine lv_iload_n hx hb dX10_exchanges_32 rfl (lv_at hl 4 rfl) ?_
  refine lv_iadd hx hb dX10_exchanges_33 ?_
  obtain ⟨g5, h⟩ := dG_some h
  refine va_iald hx hb hK hP 2 0 rfl rfl (dg_in g5) dX10_exchanges_34 ?_
  obtain ⟨v6, ev6, h⟩ := dL_some h
  refine kz_topi v6 ev6 ?_
  obtain ⟨g7, h⟩ := dG_some h
  refine va_iast hx hb hK hP hD hS 2 0 rfl rfl (dg_in g7) dX10_exchanges_35 (fun H locs hp hd hs => ?_)
  obtain ⟨q8, eq8, h⟩ := dL_some h
  refine kz_re (w2 := w10 ty ad q8) hp hd hs (by rw [← eq8]; exact w10_a2 ty ad q (Int32.toNatClampNeg (0 + p1 : Int32)) v6) ?_
  clear hp hd hs hP hD hS
  intro hP hD hS
  refine lv_aload_n hx hb dX10_exchanges_36 rfl (lv_at hl 2 rfl) ?_
  refine va_get (D := D) (ci := 10) (v := .ref (ad 2)) (C := RX10) (T := TX10) (N := 56) hx hb hts u9_wsX10_exchanges_X10 hown hK hP 0 rfl rfl 2 (by decide) (hts (.fieldLink RX10 28 "TurnedFloorsModel" "kept" "[I") f9_wsX10_exchanges_156) (fun _ h9 => h9) rfl dX10_exchanges_37 ?_
  refine lv_bipush (v := 6) hx hb dX10_exchanges_40 (by decide) ?_
  refine lv_iload_n hx hb dX10_exchanges_42 rfl (lv_at hl 3 rfl) ?_
  refine lv_iadd hx hb dX10_exchanges_43 ?_
  refine lv_aload_n hx hb dX10_exchanges_44 rfl (lv_at hl 2 rfl) ?_
  refine va_get (D := D) (ci := 10) (v := .ref (ad 2)) (C := RX10) (T := TX10) (N := 56) hx hb hts u9_wsX10_exchanges_X10 hown hK hP 0 rfl rfl 2 (by decide) (hts (.fieldLink RX10 28 "TurnedFloorsModel" "kept" "[I") f9_wsX10_exchanges_156) (fun _ h9 => h9) rfl dX10_exchanges_45 ?_
  refine lv_bipush (v := 6) hx hb dX10_exchanges_48 (by decide) ?_
  refine lv_iload_n hx hb dX10_exchanges_50 rfl (lv_at hl 4 rfl) ?_
  refine lv_iadd hx hb dX10_exchanges_51 ?_
  obtain ⟨g9, h⟩ := dG_some h
  refine va_iald hx hb hK hP 2 0 rfl rfl (dg_in g9) dX10_exchanges_52 ?_
  obtain ⟨v10, ev10, h⟩ := dL_some h
  refine kz_topi v10 ev10 ?_
  obtain ⟨g11, h⟩ := dG_some h
  refine va_iast hx hb hK hP hD hS 2 0 rfl rfl (dg_in g11) dX10_exchanges_53 (fun H locs hp hd hs => ?_)
  obtain ⟨q12, eq12, h⟩ := dL_some h
  refine kz_re (w2 := w10 ty ad q12) hp hd hs (by rw [← eq12]; exact w10_a2 ty ad q8 (Int32.toNatClampNeg (6 + p1 : Int32)) v10) ?_
  clear hp hd hs hP hD hS
  intro hP hD hS
  refine lv_aload_n hx hb dX10_exchanges_54 rfl (lv_at hl 2 rfl) ?_
  refine va_get (D := D) (ci := 10) (v := .ref (ad 2)) (C := RX10) (T := TX10) (N := 56) hx hb hts u9_wsX10_exchanges_X10 hown hK hP 0 rfl rfl 2 (by decide) (hts (.fieldLink RX10 28 "TurnedFloorsModel" "kept" "[I") f9_wsX10_exchanges_156) (fun _ h9 => h9) rfl dX10_exchanges_55 ?_
  refine lv_iconst (v := 0) hx hb dX10_exchanges_58 (by decide) ?_
  refine lv_iload_n hx hb dX10_exchanges_59 rfl (lv_at hl 4 rfl) ?_
  refine lv_iadd hx hb dX10_exchanges_60 ?_
  refine lv_iload_n hx hb dX10_exchanges_61 rfl (lv_at hl 1 rfl) ?_
  obtain ⟨g13, h⟩ := dG_some h
  refine va_iast hx hb hK hP hD hS 2 0 rfl rfl (dg_in g13) dX10_exchanges_62 (fun H locs hp hd hs => ?_)
  obtain ⟨q14, eq14, h⟩ := dL_some h
  refine kz_re (w2 := w10 ty ad q14) hp hd hs (by rw [← eq14]; exact w10_a2 ty ad q12 (Int32.toNatClampNeg (0 + p2 : Int32)) v2) ?_
  clear hp hd hs hP hD hS
  intro hP hD hS
  refine lv_aload_n hx hb dX10_exchanges_63 rfl (lv_at hl 2 rfl) ?_
  refine va_get (D := D) (ci := 10) (v := .ref (ad 2)) (C := RX10) (T := TX10) (N := 56) hx hb hts u9_wsX10_exchanges_X10 hown hK hP 0 rfl rfl 2 (by decide) (hts (.fieldLink RX10 28 "TurnedFloorsModel" "kept" "[I") f9_wsX10_exchanges_156) (fun _ h9 => h9) rfl dX10_exchanges_64 ?_
  refine lv_bipush (v := 6) hx hb dX10_exchanges_67 (by decide) ?_
  refine lv_iload_n hx hb dX10_exchanges_69 rfl (lv_at hl 4 rfl) ?_
  refine lv_iadd hx hb dX10_exchanges_70 ?_
  refine lv_iload hx hb dX10_exchanges_71 (lv_at hl 0 rfl) ?_
  obtain ⟨g15, h⟩ := dG_some h
  refine va_iast hx hb hK hP hD hS 2 0 rfl rfl (dg_in g15) dX10_exchanges_73 (fun H locs hp hd hs => ?_)
  obtain ⟨q16, eq16, h⟩ := dL_some h
  refine kz_re (w2 := w10 ty ad q16) hp hd hs (by rw [← eq16]; exact w10_a2 ty ad q14 (Int32.toNatClampNeg (6 + p2 : Int32)) v4) ?_
  clear hp hd hs hP hD hS
  intro hP hD hS
  cases h
  exact kz_vret hx hb hr hlocks hP hK hD hS dX10_exchanges_74 rfl

set_option maxHeartbeats 4000000 in
set_option maxRecDepth 100000 in
theorem WX10_turns_57b {p : Program} {l : Launch} {e : Env} {s : State} {m : MethodId} {args : Array Value} {below : List Frame} {meth : Method} {c : Code} {D : va_G} {ty : Nat → ClassId} {eo : Nat → Nat} {A : Nat → Prop} {ad : Nat → Nat} {o1 : Int32} {o2 : dS} (C : dc_C p s m args meth c cX10_turns (some .int) 4 RX10 wsX10_turns D ty eo A) {k57 : dS → Int32 → Int32 → Int32 → Option (Int32 × dS)} (hk57 : ∀ (q : dS) (x1 : Int32) (x2 : Int32) (x3 : Int32) (H : Heap) (locs : List Loc) (ls : Array Slot), k57 q x1 x2 x3 = some (o1, o2) → va_P D vwCl (w10 ty ad q) H → va_D A (w10 ty ad q) → va_S A s.heap H locs → lv_has ls 4 [(0, .ref (ad 0)), (1, .int x1), (2, .int x2), (3, .int x3)] → W p l e ({ frames := 87, cells := 0, slots := 0, locals := 2222 } : Room) s m args below meth c H locs 0 0 (MQ below (va_Qi (fun (r : Int32) (u : va_W) => o1 = r ∧ w10 ty ad o2 = u) (kz_B D ty A) A) args s 0 0 A) (F0 m 57 ls [])) (q : dS) (x1 : Int32) (x2 : Int32) (x3 : Int32) (H : Heap) (locs : List Loc) (ls : Array Slot) (h : zX10_turns_57b k57 q x1 x2 x3 = some (o1, o2)) (hP : va_P D vwCl (w10 ty ad q) H) (hD : va_D A (w10 ty ad q)) (hS : va_S A s.heap H locs) (hl : lv_has ls 4 [(0, .ref (ad 0)), (1, .int x1), (2, .int x2), (3, .int x3)]) : W p l e ({ frames := 87, cells := 0, slots := 0, locals := 2222 } : Room) s m args below meth c H locs 0 0 (MQ below (va_Qi (fun (r : Int32) (u : va_W) => o1 = r ∧ w10 ty ad o2 = u) (kz_B D ty A) A) args s 0 0 A) (F0 m 57 ls []) := by
  have C0 := C
  obtain ⟨hx, hb, hr, hts, hown, hlocks, hml, hK, hN, hE, hA⟩ := C
  unfold zX10_turns_57b at h
  refine lv_iload_n hx hb dX10_turns_57 rfl (lv_at hl 3 rfl) ?_
  refine lv_iload_n hx hb dX10_turns_58 rfl (lv_at hl 1 rfl) ?_
  refine lv_icmp_ge (tgt := 88) hx hb dX10_turns_59 (by decide) (fun c9 => ?_) (fun c9 => ?_)
  · rw [if_pos c9] at h
    refine lv_aload_n hx hb dX10_turns_88 rfl (lv_at hl 0 rfl) ?_
    refine va_get (D := D) (ci := 10) (v := .ref (ad 2)) (C := RX10) (T := TX10) (N := 56) hx hb hts u9_wsX10_turns_X10 hown hK hP 0 rfl rfl 2 (by decide) (hts (.fieldLink RX10 28 "TurnedFloorsModel" "kept" "[I") f9_wsX10_turns_158) (fun _ h9 => h9) rfl dX10_turns_89 ?_
    refine lv_bipush (v := 12) hx hb dX10_turns_92 (by decide) ?_
    refine lv_sipush (v := 9999) hx hb dX10_turns_94 (by decide) ?_
    refine lv_aload_n hx hb dX10_turns_97 rfl (lv_at hl 0 rfl) ?_
    refine va_get (D := D) (ci := 10) (v := .ref (ad 2)) (C := RX10) (T := TX10) (N := 56) hx hb hts u9_wsX10_turns_X10 hown hK hP 0 rfl rfl 2 (by decide) (hts (.fieldLink RX10 28 "TurnedFloorsModel" "kept" "[I") f9_wsX10_turns_158) (fun _ h9 => h9) rfl dX10_turns_98 ?_
    refine lv_bipush (v := 12) hx hb dX10_turns_101 (by decide) ?_
    refine va_iald hx hb hK hP 2 0 rfl rfl (by simp only [vp_in]; decide) dX10_turns_103 ?_
    refine kz_topi (q.1 2 12) (congrArg (q.1 2) (by decide +kernel : Int32.toNatClampNeg 12 = 12)) ?_
    refine lv_iload_n hx hb dX10_turns_104 rfl (lv_at hl 2 rfl) ?_
    refine lv_iadd hx hb dX10_turns_105 ?_
    obtain ⟨r1, h2, h⟩ := dV_some h
    refine dw_ks (va_runS (As := [.int 9999, .int ((q.1 2 12) + x2)]) (rest := [.int 12, .ref (ad 2)]) ⟨hx, hb, hml, hown, hts⟩ (qX10_lesser l D ty eo _ 9999 ((q.1 2 12) + x2) _ h2) (va_cwS 2 hts gX10_turns_X10_lesser rfl rfl rfl hd_X10_lesser ⟨Nat.le_of_ble_eq_true rfl, Nat.le_of_ble_eq_true rfl⟩) (pvS_0 hK hN hE hP hD hS hA) rfl rfl hl.1 rfl (lv_room (Nat.le_of_ble_eq_true rfl)) dX10_turns_106 ⟨Nat.le_of_ble_eq_true rfl, Nat.le_of_ble_eq_true rfl⟩) hP hD hS hA (fun _ _ h9 => h9.2.symm) (fun r9 u9 H locs hw hp hd hs => ?_)
    obtain ⟨rfl, -⟩ := hw
    clear hP hD hS
    have hP := hp; have hD := hd; have hS := hs; clear hp hd hs
    refine va_iast hx hb hK hP hD hS 2 0 rfl rfl (by simp only [vp_in]; decide) dX10_turns_109 (fun H locs hp hd hs => ?_)
    obtain ⟨q3, eq3, h⟩ := dL_some h
    refine kz_re (w2 := w10 ty ad q3) hp hd hs (by rw [(by decide +kernel : Int32.toNatClampNeg 12 = 12), ← eq3]; exact w10_a2 ty ad q 12 r1) ?_
    clear hp hd hs hP hD hS
    intro hP hD hS
    refine lv_iload_n hx hb dX10_turns_110 rfl (lv_at hl 2 rfl) ?_
    cases h
    exact kz_iret hx hb hr hlocks hP hK hD hS dX10_turns_111 ⟨rfl, rfl⟩
  · rw [if_neg c9] at h
    refine lv_aload_n hx hb dX10_turns_62 rfl (lv_at hl 0 rfl) ?_
    refine va_get (D := D) (ci := 10) (v := .ref (ad 2)) (C := RX10) (T := TX10) (N := 56) hx hb hts u9_wsX10_turns_X10 hown hK hP 0 rfl rfl 2 (by decide) (hts (.fieldLink RX10 28 "TurnedFloorsModel" "kept" "[I") f9_wsX10_turns_158) (fun _ h9 => h9) rfl dX10_turns_63 ?_
    refine lv_bipush (v := 6) hx hb dX10_turns_66 (by decide) ?_
    refine lv_iload_n hx hb dX10_turns_68 rfl (lv_at hl 3 rfl) ?_
    refine lv_iadd hx hb dX10_turns_69 ?_
    refine lv_iconst (v := 1) hx hb dX10_turns_70 (by decide) ?_
    refine lv_aload_n hx hb dX10_turns_71 rfl (lv_at hl 0 rfl) ?_
    refine va_get (D := D) (ci := 10) (v := .ref (ad 2)) (C := RX10) (T := TX10) (N := 56) hx hb hts u9_wsX10_turns_X10 hown hK hP 0 rfl rfl 2 (by decide) (hts (.fieldLink RX10 28 "TurnedFloorsModel" "kept" "[I") f9_wsX10_turns_158) (fun _ h9 => h9) rfl dX10_turns_72 ?_
    refine lv_bipush (v := 6) hx hb dX10_turns_75 (by decide) ?_
    refine lv_iload_n hx hb dX10_turns_77 rfl (lv_at hl 3 rfl) ?_
    refine lv_iadd hx hb dX10_turns_78 ?_
    obtain ⟨g4, h⟩ := dG_some h
    refine va_iald hx hb hK hP 2 0 rfl rfl (dg_in g4) dX10_turns_79 ?_
    obtain ⟨v5, ev5, h⟩ := dL_some h
    refine kz_topi v5 ev5 ?_
    refine lv_isub hx hb dX10_turns_80 ?_
    obtain ⟨g6, h⟩ := dG_some h
    refine va_iast hx hb hK hP hD hS 2 0 rfl rfl (dg_in g6) dX10_turns_81 (fun H locs hp hd hs => ?_)
    obtain ⟨q7, eq7, h⟩ := dL_some h
    refine kz_re (w2 := w10 ty ad q7) hp hd hs (by rw [← eq7]; exact w10_a2 ty ad q (Int32.toNatClampNeg (6 + x3 : Int32)) (1 - v5 : Int32)) ?_
    clear hp hd hs hP hD hS
    intro hP hD hS
    refine lv_iinc (v := x3 + 1) (lv' := [(3, .int (x3 + 1)), (0, .ref (ad 0)), (1, .int x1), (2, .int x2)]) hx hb dX10_turns_82 hl (k := 3) rfl rfl (by decide) rfl (fun ls hl => ?_)
    refine lv_goto (tgt := 57) hx hb dX10_turns_85 (by decide) ?_
    exact hk57 _ _ _ _ _ _ _ h hP hD hS (lv_sub hl [1, 2, 3, 0] rfl)
set_option maxHeartbeats 4000000 in
set_option maxRecDepth 100000 in
theorem WX10_turns_57 {p : Program} {l : Launch} {e : Env} {s : State} {m : MethodId} {args : Array Value} {below : List Frame} {meth : Method} {c : Code} {D : va_G} {ty : Nat → ClassId} {eo : Nat → Nat} {A : Nat → Prop} {ad : Nat → Nat} {o1 : Int32} {o2 : dS} (C : dc_C p s m args meth c cX10_turns (some .int) 4 RX10 wsX10_turns D ty eo A)   (n : Nat) (q : dS) (x1 : Int32) (x2 : Int32) (x3 : Int32) (H : Heap) (locs : List Loc) (ls : Array Slot) (h : zX10_turns_57  n q x1 x2 x3 = some (o1, o2)) (hP : va_P D vwCl (w10 ty ad q) H) (hD : va_D A (w10 ty ad q)) (hS : va_S A s.heap H locs) (hl : lv_has ls 4 [(0, .ref (ad 0)), (1, .int x1), (2, .int x2), (3, .int x3)]) : W p l e ({ frames := 87, cells := 0, slots := 0, locals := 2222 } : Room) s m args below meth c H locs 0 0 (MQ below (va_Qi (fun (r : Int32) (u : va_W) => o1 = r ∧ w10 ty ad o2 = u) (kz_B D ty A) A) args s 0 0 A) (F0 m 57 ls []) := by
  exact dFix_W (F := fun k (a : dS × Int32 × Int32 × Int32) => zX10_turns_57b  (fun q x1 x2 x3 => k (q, x1, x2, x3)) a.1 a.2.1 a.2.2.1 a.2.2.2) (o := (o1, o2)) (P := fun (a : dS × Int32 × Int32 × Int32) H locs ls => va_P D vwCl (w10 ty ad a.1) H ∧ va_D A (w10 ty ad a.1) ∧ va_S A s.heap H locs ∧ lv_has ls 4 [(0, .ref (ad 0)), (1, .int a.2.1), (2, .int a.2.2.1), (3, .int a.2.2.2)]) (G := fun H locs ls => W p l e ({ frames := 87, cells := 0, slots := 0, locals := 2222 } : Room) s m args below meth c H locs 0 0 (MQ below (va_Qi (fun (r : Int32) (u : va_W) => o1 = r ∧ w10 ty ad o2 = u) (kz_B D ty A) A) args s 0 0 A) (F0 m 57 ls []))
    (fun k hk a H locs ls h hp => WX10_turns_57b C  (fun q x1 x2 x3 H locs ls h h1 h2 h3 h4 => hk (q, x1, x2, x3) H locs ls h ⟨h1, h2, h3, h4⟩) a.1 a.2.1 a.2.2.1 a.2.2.2 H locs ls h hp.1 hp.2.1 hp.2.2.1 hp.2.2.2) n (q, x1, x2, x3) H locs ls h ⟨hP, hD, hS, hl⟩
set_option maxHeartbeats 4000000 in
set_option maxRecDepth 100000 in
theorem WX10_turns_30b {p : Program} {l : Launch} {e : Env} {s : State} {m : MethodId} {args : Array Value} {below : List Frame} {meth : Method} {c : Code} {D : va_G} {ty : Nat → ClassId} {eo : Nat → Nat} {A : Nat → Prop} {ad : Nat → Nat} {o1 : Int32} {o2 : dS} (C : dc_C p s m args meth c cX10_turns (some .int) 4 RX10 wsX10_turns D ty eo A) {k30 : dS → Int32 → Int32 → Int32 → Option (Int32 × dS)} (hk30 : ∀ (q : dS) (x1 : Int32) (x2 : Int32) (x3 : Int32) (H : Heap) (locs : List Loc) (ls : Array Slot), k30 q x1 x2 x3 = some (o1, o2) → va_P D vwCl (w10 ty ad q) H → va_D A (w10 ty ad q) → va_S A s.heap H locs → lv_has ls 4 [(0, .ref (ad 0)), (1, .int x1), (2, .int x2), (3, .int x3)] → W p l e ({ frames := 87, cells := 0, slots := 0, locals := 2222 } : Room) s m args below meth c H locs 0 0 (MQ below (va_Qi (fun (r : Int32) (u : va_W) => o1 = r ∧ w10 ty ad o2 = u) (kz_B D ty A) A) args s 0 0 A) (F0 m 30 ls [])) (q : dS) (x1 : Int32) (x2 : Int32) (x3 : Int32) (H : Heap) (locs : List Loc) (ls : Array Slot) (h : zX10_turns_30b k30 q x1 x2 x3 = some (o1, o2)) (hP : va_P D vwCl (w10 ty ad q) H) (hD : va_D A (w10 ty ad q)) (hS : va_S A s.heap H locs) (hl : lv_has ls 4 [(0, .ref (ad 0)), (1, .int x1), (2, .int x2), (3, .int x3)]) : W p l e ({ frames := 87, cells := 0, slots := 0, locals := 2222 } : Room) s m args below meth c H locs 0 0 (MQ below (va_Qi (fun (r : Int32) (u : va_W) => o1 = r ∧ w10 ty ad o2 = u) (kz_B D ty A) A) args s 0 0 A) (F0 m 30 ls []) := by
  have C0 := C
  obtain ⟨hx, hb, hr, hts, hown, hlocks, hml, hK, hN, hE, hA⟩ := C
  unfold zX10_turns_30b at h
  refine lv_iconst (v := 2) hx hb dX10_turns_30 (by decide) ?_
  refine lv_iload_n hx hb dX10_turns_31 rfl (lv_at hl 3 rfl) ?_
  refine lv_imul hx hb dX10_turns_32 ?_
  refine lv_iload_n hx hb dX10_turns_33 rfl (lv_at hl 1 rfl) ?_
  refine lv_iconst (v := 1) hx hb dX10_turns_34 (by decide) ?_
  refine lv_isub hx hb dX10_turns_35 ?_
  refine lv_icmp_ge (tgt := 55) hx hb dX10_turns_36 (by decide) (fun c9 => ?_) (fun c9 => ?_)
  · rw [if_pos c9] at h
    refine lv_iconst (v := 0) hx hb dX10_turns_55 (by decide) ?_
    refine lv_istore_n (lv' := [(3, .int 0), (0, .ref (ad 0)), (1, .int x1), (2, .int x2)]) hx hb dX10_turns_56 rfl hl (by decide) rfl (fun ls hl => ?_)
    exact WX10_turns_57 C0  _ _ _ _ _ _ _ _ h hP hD hS (lv_sub hl [1, 2, 3, 0] rfl)
  · rw [if_neg c9] at h
    refine lv_aload_n hx hb dX10_turns_39 rfl (lv_at hl 0 rfl) ?_
    refine lv_iload_n hx hb dX10_turns_40 rfl (lv_at hl 3 rfl) ?_
    refine lv_iload_n hx hb dX10_turns_41 rfl (lv_at hl 1 rfl) ?_
    refine lv_iconst (v := 1) hx hb dX10_turns_42 (by decide) ?_
    refine lv_isub hx hb dX10_turns_43 ?_
    refine lv_iload_n hx hb dX10_turns_44 rfl (lv_at hl 3 rfl) ?_
    refine lv_isub hx hb dX10_turns_45 ?_
    obtain ⟨q3, h2, h⟩ := dV_some h
    refine dw_kv (va_runV (As := [.int x3, .int ((x1 - 1 : Int32) - x3)]) (rest := []) ⟨hx, hb, hml, hown, hts⟩ (qX10_exchanges l D ty eo _ ad q x3 ((x1 - 1 : Int32) - x3) q3 h2) (cwV 2 hts gX10_turns_X10_exchanges rfl rfl rfl hd_X10_exchanges_v ⟨Nat.le_of_ble_eq_true rfl, Nat.le_of_ble_eq_true rfl⟩) (pv10_10_0 hK hN hE hP hD hS hA) rfl rfl hl.1 rfl (lv_room (Nat.le_of_ble_eq_true rfl)) dX10_turns_46 ⟨Nat.le_of_ble_eq_true rfl, Nat.le_of_ble_eq_true rfl⟩) hD hS hA (fun u9 H locs hw hp hd hs => ?_)
    clear hP hD hS
    obtain rfl := hw
    have hP := hp; have hD := hd; have hS := hs; clear hp hd hs
    refine lv_iinc (v := x3 + 1) (lv' := [(3, .int (x3 + 1)), (0, .ref (ad 0)), (1, .int x1), (2, .int x2)]) hx hb dX10_turns_49 hl (k := 3) rfl rfl (by decide) rfl (fun ls hl => ?_)
    refine lv_goto (tgt := 30) hx hb dX10_turns_52 (by decide) ?_
    exact hk30 _ _ _ _ _ _ _ h hP hD hS (lv_sub hl [1, 2, 3, 0] rfl)
set_option maxHeartbeats 4000000 in
set_option maxRecDepth 100000 in
theorem WX10_turns_30 {p : Program} {l : Launch} {e : Env} {s : State} {m : MethodId} {args : Array Value} {below : List Frame} {meth : Method} {c : Code} {D : va_G} {ty : Nat → ClassId} {eo : Nat → Nat} {A : Nat → Prop} {ad : Nat → Nat} {o1 : Int32} {o2 : dS} (C : dc_C p s m args meth c cX10_turns (some .int) 4 RX10 wsX10_turns D ty eo A)   (n : Nat) (q : dS) (x1 : Int32) (x2 : Int32) (x3 : Int32) (H : Heap) (locs : List Loc) (ls : Array Slot) (h : zX10_turns_30  n q x1 x2 x3 = some (o1, o2)) (hP : va_P D vwCl (w10 ty ad q) H) (hD : va_D A (w10 ty ad q)) (hS : va_S A s.heap H locs) (hl : lv_has ls 4 [(0, .ref (ad 0)), (1, .int x1), (2, .int x2), (3, .int x3)]) : W p l e ({ frames := 87, cells := 0, slots := 0, locals := 2222 } : Room) s m args below meth c H locs 0 0 (MQ below (va_Qi (fun (r : Int32) (u : va_W) => o1 = r ∧ w10 ty ad o2 = u) (kz_B D ty A) A) args s 0 0 A) (F0 m 30 ls []) := by
  exact dFix_W (F := fun k (a : dS × Int32 × Int32 × Int32) => zX10_turns_30b  (fun q x1 x2 x3 => k (q, x1, x2, x3)) a.1 a.2.1 a.2.2.1 a.2.2.2) (o := (o1, o2)) (P := fun (a : dS × Int32 × Int32 × Int32) H locs ls => va_P D vwCl (w10 ty ad a.1) H ∧ va_D A (w10 ty ad a.1) ∧ va_S A s.heap H locs ∧ lv_has ls 4 [(0, .ref (ad 0)), (1, .int a.2.1), (2, .int a.2.2.1), (3, .int a.2.2.2)]) (G := fun H locs ls => W p l e ({ frames := 87, cells := 0, slots := 0, locals := 2222 } : Room) s m args below meth c H locs 0 0 (MQ below (va_Qi (fun (r : Int32) (u : va_W) => o1 = r ∧ w10 ty ad o2 = u) (kz_B D ty A) A) args s 0 0 A) (F0 m 30 ls []))
    (fun k hk a H locs ls h hp => WX10_turns_30b C  (fun q x1 x2 x3 H locs ls h h1 h2 h3 h4 => hk (q, x1, x2, x3) H locs ls h ⟨h1, h2, h3, h4⟩) a.1 a.2.1 a.2.2.1 a.2.2.2 H locs ls h hp.1 hp.2.1 hp.2.2.1 hp.2.2.2) n (q, x1, x2, x3) H locs ls h ⟨hP, hD, hS, hl⟩
set_option maxHeartbeats 4000000 in
set_option maxRecDepth 100000 in
theorem qX10_turns (l : Launch) (D : va_G) (ty : Nat → ClassId) (eo : Nat → Nat) (sz : Nat) (ad : Nat → Nat) (q : dS) (p1 : Int32) (o1 : Int32) (o2 : dS) (h : zX10_turns q p1 = some (o1, o2)) : Met l yX10_turns wsX10_turns ({ frames := 87, cells := 0, slots := 0, locals := 2222 } : Room) (va_Pc [.ref (ad 0), .int p1] (kz_pre D ty eo (w10 ty ad q) sz)) (va_Qi (fun (r : Int32) (u : va_W) => o1 = r ∧ w10 ty ad o2 = u) (kz_B D ty (va_A (w10 ty ad q) sz)) (va_A (w10 ty ad q) sz)) 0 0 (va_A (w10 ty ad q) sz) := by
  refine Met.ofW (cc := cX10_turns) (maxL := 4) (ret := (some .int)) (by decide) rfl ?_
  intro p e s m args below meth c s₁ B hml hv
  obtain ⟨rfl, hsz, hP, hK, hD0, hN, hE⟩ := hv
  have hx := B.exec
  have hb := B.bytes
  have hr := B.returns
  have hts := atoms_spec (ws := wsX10_turns) B.pre
  have hown : s.vm.findClass RX10 = some m.cls := findClass_of_methodNamed B.named
  have hlocks := B.notSynchronized
  subst hsz
  have hD := hD0.self (sz := s.heap.size)
  generalize hAe : va_A (w10 ty ad q) s.heap.size = A at hD hE ⊢
  have hA : ∀ q : Nat, s.heap.size ≤ q → A q := fun q h => by rw [← hAe]; exact Or.inr h
  clear hAe
  have hS : va_S A s.heap s.heap [] := va_S.rf
  have hl := lv_entry ([.ref (ad 0), .int p1]) (n := 4) (Nat.le_of_ble_eq_true rfl)
  rw [lg_entry_eq]
  generalize (lg_sl ([.ref (ad 0), .int p1]) ++ List.replicate (4 - (lg_sl ([.ref (ad 0), .int p1])).length) Slot.unset).toArray = ls at hl ⊢
  have hl : lv_has ls 4 [(0, .ref (ad 0)), (1, .int p1)] := hl
  have C : dc_C p s m _ meth c cX10_turns (some .int) 4 RX10 wsX10_turns D ty eo A := ⟨hx, hb, hr, hts, hown, hlocks, hml, hK, hN, hE, hA⟩
  unfold zX10_turns at h
  refine lv_aload_n hx hb dX10_turns_0 rfl (lv_at hl 0 rfl) ?_
  refine lv_iload_n hx hb dX10_turns_1 rfl (lv_at hl 1 rfl) ?_
  refine lv_aload_n hx hb dX10_turns_2 rfl (lv_at hl 0 rfl) ?_
  refine va_get (D := D) (ci := 10) (v := .ref (ad 2)) (C := RX10) (T := TX10) (N := 56) hx hb hts u9_wsX10_turns_X10 hown hK hP 0 rfl rfl 2 (by decide) (hts (.fieldLink RX10 28 "TurnedFloorsModel" "kept" "[I") f9_wsX10_turns_158) (fun _ h9 => h9) rfl dX10_turns_3 ?_
  refine lv_iconst (v := 0) hx hb dX10_turns_6 (by decide) ?_
  refine va_iald hx hb hK hP 2 0 rfl rfl (by simp only [vp_in]; decide) dX10_turns_7 ?_
  refine kz_topi (q.1 2 0) (congrArg (q.1 2) (by decide +kernel : Int32.toNatClampNeg 0 = 0)) ?_
  refine lv_aload_n hx hb dX10_turns_8 rfl (lv_at hl 0 rfl) ?_
  refine lv_iload_n hx hb dX10_turns_9 rfl (lv_at hl 1 rfl) ?_
  obtain ⟨r1, q3, h2, h⟩ := dB_some h
  refine dw_ki (va_runV (As := [.int p1]) (rest := [.int (q.1 2 0), .int p1, .ref (ad 0)]) ⟨hx, hb, hml, hown, hts⟩ (qX10_rankBelow l D ty eo _ ad q p1 r1 q3 h2) (cwV 1 hts gX10_turns_X10_rankBelow rfl rfl rfl hd_X10_rankBelow_v ⟨Nat.le_of_ble_eq_true rfl, Nat.le_of_ble_eq_true rfl⟩) (pv10_10_0 hK hN hE hP hD hS hA) rfl rfl hl.1 rfl (lv_room (Nat.le_of_ble_eq_true rfl)) dX10_turns_10 ⟨Nat.le_of_ble_eq_true rfl, Nat.le_of_ble_eq_true rfl⟩) hD hS hA (fun r9 u9 H locs hw hp hd hs => ?_)
  clear hP hD hS
  obtain ⟨rfl, rfl⟩ := hw
  have hP := hp; have hD := hd; have hS := hs; clear hp hd hs
  refine lv_aload_n hx hb dX10_turns_13 rfl (lv_at hl 0 rfl) ?_
  refine va_get (D := D) (ci := 10) (v := .ref (ad 2)) (C := RX10) (T := TX10) (N := 56) hx hb hts u9_wsX10_turns_X10 hown hK hP 0 rfl rfl 2 (by decide) (hts (.fieldLink RX10 28 "TurnedFloorsModel" "kept" "[I") f9_wsX10_turns_158) (fun _ h9 => h9) rfl dX10_turns_14 ?_
  refine lv_bipush (v := 6) hx hb dX10_turns_17 (by decide) ?_
  refine va_iald hx hb hK hP 2 0 rfl rfl (by simp only [vp_in]; decide) dX10_turns_19 ?_
  refine kz_topi (q3.1 2 6) (congrArg (q3.1 2) (by decide +kernel : Int32.toNatClampNeg 6 = 6)) ?_
  obtain ⟨q6, h5, h⟩ := dV_some h
  refine dw_kv (va_runV (As := [.int p1, .int (q.1 2 0), .int r1, .int (q3.1 2 6)]) (rest := []) ⟨hx, hb, hml, hown, hts⟩ (qX10_setsTurn l D ty eo _ ad q3 p1 (q.1 2 0) r1 (q3.1 2 6) q6 h5) (cwV 4 hts gX10_turns_X10_setsTurn rfl rfl rfl hd_X10_setsTurn_v ⟨Nat.le_of_ble_eq_true rfl, Nat.le_of_ble_eq_true rfl⟩) (pv10_10_0 hK hN hE hP hD hS hA) rfl rfl hl.1 rfl (lv_room (Nat.le_of_ble_eq_true rfl)) dX10_turns_20 ⟨Nat.le_of_ble_eq_true rfl, Nat.le_of_ble_eq_true rfl⟩) hD hS hA (fun u9 H locs hw hp hd hs => ?_)
  clear hP hD hS
  obtain rfl := hw
  have hP := hp; have hD := hd; have hS := hs; clear hp hd hs
  refine lv_aload_n hx hb dX10_turns_23 rfl (lv_at hl 0 rfl) ?_
  obtain ⟨r7, q9, h8, h⟩ := dB_some h
  refine dw_ki (va_runV (As := []) (rest := []) ⟨hx, hb, hml, hown, hts⟩ (qX10_paysNow l D ty eo _ ad q6  r7 q9 h8) (cwV 0 hts gX10_turns_X10_paysNow rfl rfl rfl hd_X10_paysNow_v ⟨Nat.le_of_ble_eq_true rfl, Nat.le_of_ble_eq_true rfl⟩) (pv10_10_0 hK hN hE hP hD hS hA) rfl rfl hl.1 rfl (lv_room (Nat.le_of_ble_eq_true rfl)) dX10_turns_24 ⟨Nat.le_of_ble_eq_true rfl, Nat.le_of_ble_eq_true rfl⟩) hD hS hA (fun r9 u9 H locs hw hp hd hs => ?_)
  clear hP hD hS
  obtain ⟨rfl, rfl⟩ := hw
  have hP := hp; have hD := hd; have hS := hs; clear hp hd hs
  refine lv_istore_n (lv' := [(2, .int r7), (0, .ref (ad 0)), (1, .int p1)]) hx hb dX10_turns_27 rfl hl (by decide) rfl (fun ls hl => ?_)
  refine lv_iconst (v := 0) hx hb dX10_turns_28 (by decide) ?_
  refine lv_istore_n (lv' := [(3, .int 0), (2, .int r7), (0, .ref (ad 0)), (1, .int p1)]) hx hb dX10_turns_29 rfl hl (by decide) rfl (fun ls hl => ?_)
  exact WX10_turns_30 C  _ _ _ _ _ _ _ _ h hP hD hS (lv_sub hl [2, 3, 1, 0] rfl)
end
section
set_option maxRecDepth 20000 in
theorem ggX10_yearPasses_X10_size : GoodIn wsX10_yearPasses wsX10_size := wd_c vW10_ok mvW10_24
set_option maxRecDepth 20000 in
theorem gX10_yearPasses_X10_size : GoodIn wsX10_yearPasses (wsV RX10 125 RX10 yX10_size wsX10_size) := goodIn_app (wd_l vW10_ok _ pvW10_144) ggX10_yearPasses_X10_size
set_option maxRecDepth 20000 in
theorem ggX10_yearPasses_X10_tipsAt : GoodIn wsX10_yearPasses wsX10_tipsAt := wd_c vW10_ok mvW10_45
set_option maxRecDepth 20000 in
theorem gX10_yearPasses_X10_tipsAt : GoodIn wsX10_yearPasses (wsV RX10 146 RX10 yX10_tipsAt wsX10_tipsAt) := goodIn_app (wd_l vW10_ok _ pvW10_150) ggX10_yearPasses_X10_tipsAt
theorem da9_dX10_yearPasses_0 : (decode cX10_yearPasses 0 = .ok (.iconst 0, 1)) ∧ (decode cX10_yearPasses 1 = .ok (.istore_n 1, 1)) ∧ (decode cX10_yearPasses 2 = .ok (.iconst 0, 1)) ∧ (decode cX10_yearPasses 3 = .ok (.istore_n 2, 1)) ∧ (decode cX10_yearPasses 4 = .ok (.iload_n 2, 1)) ∧ (decode cX10_yearPasses 5 = .ok (.aload_n 0, 1)) ∧ (decode cX10_yearPasses 6 = .ok (.invokevirtual 125, 3)) ∧ (decode cX10_yearPasses 9 = .ok (.if_icmp .ge 20, 3)) ∧ (decode cX10_yearPasses 12 = .ok (.aload_n 0, 1)) ∧ (decode cX10_yearPasses 13 = .ok (.getfield 66, 3)) ∧ (decode cX10_yearPasses 16 = .ok (.iload_n 2, 1)) ∧ (decode cX10_yearPasses 17 = .ok (.aload_n 0, 1)) ∧ (decode cX10_yearPasses 18 = .ok (.iload_n 2, 1)) ∧ (decode cX10_yearPasses 19 = .ok (.invokevirtual 146, 3)) ∧ (decode cX10_yearPasses 22 = .ok (.bastore, 1)) ∧ (decode cX10_yearPasses 23 = .ok (.iinc 2 1, 3)) := by decide +kernel
theorem dX10_yearPasses_0 : decode cX10_yearPasses 0 = .ok (.iconst 0, 1) := da9_dX10_yearPasses_0.1
theorem dX10_yearPasses_1 : decode cX10_yearPasses 1 = .ok (.istore_n 1, 1) := da9_dX10_yearPasses_0.2.1
theorem dX10_yearPasses_2 : decode cX10_yearPasses 2 = .ok (.iconst 0, 1) := da9_dX10_yearPasses_0.2.2.1
theorem dX10_yearPasses_3 : decode cX10_yearPasses 3 = .ok (.istore_n 2, 1) := da9_dX10_yearPasses_0.2.2.2.1
theorem dX10_yearPasses_4 : decode cX10_yearPasses 4 = .ok (.iload_n 2, 1) := da9_dX10_yearPasses_0.2.2.2.2.1
theorem dX10_yearPasses_5 : decode cX10_yearPasses 5 = .ok (.aload_n 0, 1) := da9_dX10_yearPasses_0.2.2.2.2.2.1
theorem dX10_yearPasses_6 : decode cX10_yearPasses 6 = .ok (.invokevirtual 125, 3) := da9_dX10_yearPasses_0.2.2.2.2.2.2.1
theorem dX10_yearPasses_9 : decode cX10_yearPasses 9 = .ok (.if_icmp .ge 20, 3) := da9_dX10_yearPasses_0.2.2.2.2.2.2.2.1
theorem dX10_yearPasses_12 : decode cX10_yearPasses 12 = .ok (.aload_n 0, 1) := da9_dX10_yearPasses_0.2.2.2.2.2.2.2.2.1
theorem dX10_yearPasses_13 : decode cX10_yearPasses 13 = .ok (.getfield 66, 3) := da9_dX10_yearPasses_0.2.2.2.2.2.2.2.2.2.1
theorem dX10_yearPasses_16 : decode cX10_yearPasses 16 = .ok (.iload_n 2, 1) := da9_dX10_yearPasses_0.2.2.2.2.2.2.2.2.2.2.1
theorem dX10_yearPasses_17 : decode cX10_yearPasses 17 = .ok (.aload_n 0, 1) := da9_dX10_yearPasses_0.2.2.2.2.2.2.2.2.2.2.2.1
theorem dX10_yearPasses_18 : decode cX10_yearPasses 18 = .ok (.iload_n 2, 1) := da9_dX10_yearPasses_0.2.2.2.2.2.2.2.2.2.2.2.2.1
theorem dX10_yearPasses_19 : decode cX10_yearPasses 19 = .ok (.invokevirtual 146, 3) := da9_dX10_yearPasses_0.2.2.2.2.2.2.2.2.2.2.2.2.2.1
theorem dX10_yearPasses_22 : decode cX10_yearPasses 22 = .ok (.bastore, 1) := da9_dX10_yearPasses_0.2.2.2.2.2.2.2.2.2.2.2.2.2.2.1
theorem dX10_yearPasses_23 : decode cX10_yearPasses 23 = .ok (.iinc 2 1, 3) := da9_dX10_yearPasses_0.2.2.2.2.2.2.2.2.2.2.2.2.2.2.2
theorem da9_dX10_yearPasses_26 : (decode cX10_yearPasses 26 = .ok (.goto (-22), 3)) ∧ (decode cX10_yearPasses 29 = .ok (.iconst 0, 1)) ∧ (decode cX10_yearPasses 30 = .ok (.istore_n 2, 1)) ∧ (decode cX10_yearPasses 31 = .ok (.iload_n 2, 1)) ∧ (decode cX10_yearPasses 32 = .ok (.aload_n 0, 1)) ∧ (decode cX10_yearPasses 33 = .ok (.invokevirtual 125, 3)) ∧ (decode cX10_yearPasses 36 = .ok (.if_icmp .ge 67, 3)) ∧ (decode cX10_yearPasses 39 = .ok (.aload_n 0, 1)) ∧ (decode cX10_yearPasses 40 = .ok (.getfield 28, 3)) ∧ (decode cX10_yearPasses 43 = .ok (.bipush 6, 2)) ∧ (decode cX10_yearPasses 45 = .ok (.iload_n 2, 1)) ∧ (decode cX10_yearPasses 46 = .ok (.iadd, 1)) ∧ (decode cX10_yearPasses 47 = .ok (.aload_n 0, 1)) ∧ (decode cX10_yearPasses 48 = .ok (.getfield 66, 3)) ∧ (decode cX10_yearPasses 51 = .ok (.iload_n 2, 1)) ∧ (decode cX10_yearPasses 52 = .ok (.baload, 1)) := by decide +kernel
theorem dX10_yearPasses_26 : decode cX10_yearPasses 26 = .ok (.goto (-22), 3) := da9_dX10_yearPasses_26.1
theorem dX10_yearPasses_29 : decode cX10_yearPasses 29 = .ok (.iconst 0, 1) := da9_dX10_yearPasses_26.2.1
theorem dX10_yearPasses_30 : decode cX10_yearPasses 30 = .ok (.istore_n 2, 1) := da9_dX10_yearPasses_26.2.2.1
theorem dX10_yearPasses_31 : decode cX10_yearPasses 31 = .ok (.iload_n 2, 1) := da9_dX10_yearPasses_26.2.2.2.1
theorem dX10_yearPasses_32 : decode cX10_yearPasses 32 = .ok (.aload_n 0, 1) := da9_dX10_yearPasses_26.2.2.2.2.1
theorem dX10_yearPasses_33 : decode cX10_yearPasses 33 = .ok (.invokevirtual 125, 3) := da9_dX10_yearPasses_26.2.2.2.2.2.1
theorem dX10_yearPasses_36 : decode cX10_yearPasses 36 = .ok (.if_icmp .ge 67, 3) := da9_dX10_yearPasses_26.2.2.2.2.2.2.1
theorem dX10_yearPasses_39 : decode cX10_yearPasses 39 = .ok (.aload_n 0, 1) := da9_dX10_yearPasses_26.2.2.2.2.2.2.2.1
theorem dX10_yearPasses_40 : decode cX10_yearPasses 40 = .ok (.getfield 28, 3) := da9_dX10_yearPasses_26.2.2.2.2.2.2.2.2.1
theorem dX10_yearPasses_43 : decode cX10_yearPasses 43 = .ok (.bipush 6, 2) := da9_dX10_yearPasses_26.2.2.2.2.2.2.2.2.2.1
theorem dX10_yearPasses_45 : decode cX10_yearPasses 45 = .ok (.iload_n 2, 1) := da9_dX10_yearPasses_26.2.2.2.2.2.2.2.2.2.2.1
theorem dX10_yearPasses_46 : decode cX10_yearPasses 46 = .ok (.iadd, 1) := da9_dX10_yearPasses_26.2.2.2.2.2.2.2.2.2.2.2.1
theorem dX10_yearPasses_47 : decode cX10_yearPasses 47 = .ok (.aload_n 0, 1) := da9_dX10_yearPasses_26.2.2.2.2.2.2.2.2.2.2.2.2.1
theorem dX10_yearPasses_48 : decode cX10_yearPasses 48 = .ok (.getfield 66, 3) := da9_dX10_yearPasses_26.2.2.2.2.2.2.2.2.2.2.2.2.2.1
theorem dX10_yearPasses_51 : decode cX10_yearPasses 51 = .ok (.iload_n 2, 1) := da9_dX10_yearPasses_26.2.2.2.2.2.2.2.2.2.2.2.2.2.2.1
theorem dX10_yearPasses_52 : decode cX10_yearPasses 52 = .ok (.baload, 1) := da9_dX10_yearPasses_26.2.2.2.2.2.2.2.2.2.2.2.2.2.2.2
theorem da9_dX10_yearPasses_53 : (decode cX10_yearPasses 53 = .ok (.ifCond .eq 17, 3)) ∧ (decode cX10_yearPasses 56 = .ok (.iconst 1, 1)) ∧ (decode cX10_yearPasses 57 = .ok (.aload_n 0, 1)) ∧ (decode cX10_yearPasses 58 = .ok (.getfield 28, 3)) ∧ (decode cX10_yearPasses 61 = .ok (.bipush 6, 2)) ∧ (decode cX10_yearPasses 63 = .ok (.iload_n 2, 1)) ∧ (decode cX10_yearPasses 64 = .ok (.iadd, 1)) ∧ (decode cX10_yearPasses 65 = .ok (.iaload, 1)) ∧ (decode cX10_yearPasses 66 = .ok (.isub, 1)) ∧ (decode cX10_yearPasses 67 = .ok (.goto 12, 3)) ∧ (decode cX10_yearPasses 70 = .ok (.aload_n 0, 1)) ∧ (decode cX10_yearPasses 71 = .ok (.getfield 28, 3)) ∧ (decode cX10_yearPasses 74 = .ok (.bipush 6, 2)) ∧ (decode cX10_yearPasses 76 = .ok (.iload_n 2, 1)) ∧ (decode cX10_yearPasses 77 = .ok (.iadd, 1)) ∧ (decode cX10_yearPasses 78 = .ok (.iaload, 1)) := by decide +kernel
theorem dX10_yearPasses_53 : decode cX10_yearPasses 53 = .ok (.ifCond .eq 17, 3) := da9_dX10_yearPasses_53.1
theorem dX10_yearPasses_56 : decode cX10_yearPasses 56 = .ok (.iconst 1, 1) := da9_dX10_yearPasses_53.2.1
theorem dX10_yearPasses_57 : decode cX10_yearPasses 57 = .ok (.aload_n 0, 1) := da9_dX10_yearPasses_53.2.2.1
theorem dX10_yearPasses_58 : decode cX10_yearPasses 58 = .ok (.getfield 28, 3) := da9_dX10_yearPasses_53.2.2.2.1
theorem dX10_yearPasses_61 : decode cX10_yearPasses 61 = .ok (.bipush 6, 2) := da9_dX10_yearPasses_53.2.2.2.2.1
theorem dX10_yearPasses_63 : decode cX10_yearPasses 63 = .ok (.iload_n 2, 1) := da9_dX10_yearPasses_53.2.2.2.2.2.1
theorem dX10_yearPasses_64 : decode cX10_yearPasses 64 = .ok (.iadd, 1) := da9_dX10_yearPasses_53.2.2.2.2.2.2.1
theorem dX10_yearPasses_65 : decode cX10_yearPasses 65 = .ok (.iaload, 1) := da9_dX10_yearPasses_53.2.2.2.2.2.2.2.1
theorem dX10_yearPasses_66 : decode cX10_yearPasses 66 = .ok (.isub, 1) := da9_dX10_yearPasses_53.2.2.2.2.2.2.2.2.1
theorem dX10_yearPasses_67 : decode cX10_yearPasses 67 = .ok (.goto 12, 3) := da9_dX10_yearPasses_53.2.2.2.2.2.2.2.2.2.1
theorem dX10_yearPasses_70 : decode cX10_yearPasses 70 = .ok (.aload_n 0, 1) := da9_dX10_yearPasses_53.2.2.2.2.2.2.2.2.2.2.1
theorem dX10_yearPasses_71 : decode cX10_yearPasses 71 = .ok (.getfield 28, 3) := da9_dX10_yearPasses_53.2.2.2.2.2.2.2.2.2.2.2.1
theorem dX10_yearPasses_74 : decode cX10_yearPasses 74 = .ok (.bipush 6, 2) := da9_dX10_yearPasses_53.2.2.2.2.2.2.2.2.2.2.2.2.1
theorem dX10_yearPasses_76 : decode cX10_yearPasses 76 = .ok (.iload_n 2, 1) := da9_dX10_yearPasses_53.2.2.2.2.2.2.2.2.2.2.2.2.2.1
theorem dX10_yearPasses_77 : decode cX10_yearPasses 77 = .ok (.iadd, 1) := da9_dX10_yearPasses_53.2.2.2.2.2.2.2.2.2.2.2.2.2.2.1
theorem dX10_yearPasses_78 : decode cX10_yearPasses 78 = .ok (.iaload, 1) := da9_dX10_yearPasses_53.2.2.2.2.2.2.2.2.2.2.2.2.2.2.2
theorem da9_dX10_yearPasses_79 : (decode cX10_yearPasses 79 = .ok (.iastore, 1)) ∧ (decode cX10_yearPasses 80 = .ok (.iload_n 1, 1)) ∧ (decode cX10_yearPasses 81 = .ok (.aload_n 0, 1)) ∧ (decode cX10_yearPasses 82 = .ok (.getfield 66, 3)) ∧ (decode cX10_yearPasses 85 = .ok (.iload_n 2, 1)) ∧ (decode cX10_yearPasses 86 = .ok (.baload, 1)) ∧ (decode cX10_yearPasses 87 = .ok (.ifCond .eq 7, 3)) ∧ (decode cX10_yearPasses 90 = .ok (.iconst 1, 1)) ∧ (decode cX10_yearPasses 91 = .ok (.goto 4, 3)) ∧ (decode cX10_yearPasses 94 = .ok (.iconst 0, 1)) ∧ (decode cX10_yearPasses 95 = .ok (.iadd, 1)) ∧ (decode cX10_yearPasses 96 = .ok (.istore_n 1, 1)) ∧ (decode cX10_yearPasses 97 = .ok (.iinc 2 1, 3)) ∧ (decode cX10_yearPasses 100 = .ok (.goto (-69), 3)) ∧ (decode cX10_yearPasses 103 = .ok (.aload_n 0, 1)) ∧ (decode cX10_yearPasses 104 = .ok (.getfield 28, 3)) := by decide +kernel
theorem dX10_yearPasses_79 : decode cX10_yearPasses 79 = .ok (.iastore, 1) := da9_dX10_yearPasses_79.1
theorem dX10_yearPasses_80 : decode cX10_yearPasses 80 = .ok (.iload_n 1, 1) := da9_dX10_yearPasses_79.2.1
theorem dX10_yearPasses_81 : decode cX10_yearPasses 81 = .ok (.aload_n 0, 1) := da9_dX10_yearPasses_79.2.2.1
theorem dX10_yearPasses_82 : decode cX10_yearPasses 82 = .ok (.getfield 66, 3) := da9_dX10_yearPasses_79.2.2.2.1
theorem dX10_yearPasses_85 : decode cX10_yearPasses 85 = .ok (.iload_n 2, 1) := da9_dX10_yearPasses_79.2.2.2.2.1
theorem dX10_yearPasses_86 : decode cX10_yearPasses 86 = .ok (.baload, 1) := da9_dX10_yearPasses_79.2.2.2.2.2.1
theorem dX10_yearPasses_87 : decode cX10_yearPasses 87 = .ok (.ifCond .eq 7, 3) := da9_dX10_yearPasses_79.2.2.2.2.2.2.1
theorem dX10_yearPasses_90 : decode cX10_yearPasses 90 = .ok (.iconst 1, 1) := da9_dX10_yearPasses_79.2.2.2.2.2.2.2.1
theorem dX10_yearPasses_91 : decode cX10_yearPasses 91 = .ok (.goto 4, 3) := da9_dX10_yearPasses_79.2.2.2.2.2.2.2.2.1
theorem dX10_yearPasses_94 : decode cX10_yearPasses 94 = .ok (.iconst 0, 1) := da9_dX10_yearPasses_79.2.2.2.2.2.2.2.2.2.1
theorem dX10_yearPasses_95 : decode cX10_yearPasses 95 = .ok (.iadd, 1) := da9_dX10_yearPasses_79.2.2.2.2.2.2.2.2.2.2.1
theorem dX10_yearPasses_96 : decode cX10_yearPasses 96 = .ok (.istore_n 1, 1) := da9_dX10_yearPasses_79.2.2.2.2.2.2.2.2.2.2.2.1
theorem dX10_yearPasses_97 : decode cX10_yearPasses 97 = .ok (.iinc 2 1, 3) := da9_dX10_yearPasses_79.2.2.2.2.2.2.2.2.2.2.2.2.1
theorem dX10_yearPasses_100 : decode cX10_yearPasses 100 = .ok (.goto (-69), 3) := da9_dX10_yearPasses_79.2.2.2.2.2.2.2.2.2.2.2.2.2.1
theorem dX10_yearPasses_103 : decode cX10_yearPasses 103 = .ok (.aload_n 0, 1) := da9_dX10_yearPasses_79.2.2.2.2.2.2.2.2.2.2.2.2.2.2.1
theorem dX10_yearPasses_104 : decode cX10_yearPasses 104 = .ok (.getfield 28, 3) := da9_dX10_yearPasses_79.2.2.2.2.2.2.2.2.2.2.2.2.2.2.2
theorem da9_dX10_yearPasses_107 : (decode cX10_yearPasses 107 = .ok (.bipush 13, 2)) ∧ (decode cX10_yearPasses 109 = .ok (.dup2, 1)) ∧ (decode cX10_yearPasses 110 = .ok (.iaload, 1)) ∧ (decode cX10_yearPasses 111 = .ok (.iconst 1, 1)) ∧ (decode cX10_yearPasses 112 = .ok (.iadd, 1)) ∧ (decode cX10_yearPasses 113 = .ok (.iastore, 1)) ∧ (decode cX10_yearPasses 114 = .ok (.iload_n 1, 1)) ∧ (decode cX10_yearPasses 115 = .ok (.ireturn, 1)) := by decide +kernel
theorem dX10_yearPasses_107 : decode cX10_yearPasses 107 = .ok (.bipush 13, 2) := da9_dX10_yearPasses_107.1
theorem dX10_yearPasses_109 : decode cX10_yearPasses 109 = .ok (.dup2, 1) := da9_dX10_yearPasses_107.2.1
theorem dX10_yearPasses_110 : decode cX10_yearPasses 110 = .ok (.iaload, 1) := da9_dX10_yearPasses_107.2.2.1
theorem dX10_yearPasses_111 : decode cX10_yearPasses 111 = .ok (.iconst 1, 1) := da9_dX10_yearPasses_107.2.2.2.1
theorem dX10_yearPasses_112 : decode cX10_yearPasses 112 = .ok (.iadd, 1) := da9_dX10_yearPasses_107.2.2.2.2.1
theorem dX10_yearPasses_113 : decode cX10_yearPasses 113 = .ok (.iastore, 1) := da9_dX10_yearPasses_107.2.2.2.2.2.1
theorem dX10_yearPasses_114 : decode cX10_yearPasses 114 = .ok (.iload_n 1, 1) := da9_dX10_yearPasses_107.2.2.2.2.2.2.1
theorem dX10_yearPasses_115 : decode cX10_yearPasses 115 = .ok (.ireturn, 1) := da9_dX10_yearPasses_107.2.2.2.2.2.2.2
theorem da9_dX10_keeps_0 : (decode cX10_keeps 0 = .ok (.bipush 15, 2)) ∧ (decode cX10_keeps 2 = .ok (.istore_n 2, 1)) ∧ (decode cX10_keeps 3 = .ok (.aload_n 0, 1)) ∧ (decode cX10_keeps 4 = .ok (.getfield 11, 3)) ∧ (decode cX10_keeps 7 = .ok (.bipush 16, 2)) ∧ (decode cX10_keeps 9 = .ok (.if_icmp .ne 43, 3)) ∧ (decode cX10_keeps 12 = .ok (.iconst 0, 1)) ∧ (decode cX10_keeps 13 = .ok (.istore_n 3, 1)) ∧ (decode cX10_keeps 14 = .ok (.iload_n 3, 1)) ∧ (decode cX10_keeps 15 = .ok (.bipush 15, 2)) ∧ (decode cX10_keeps 17 = .ok (.iload_n 2, 1)) ∧ (decode cX10_keeps 18 = .ok (.imul, 1)) ∧ (decode cX10_keeps 19 = .ok (.if_icmp .ge 23, 3)) ∧ (decode cX10_keeps 22 = .ok (.aload_n 0, 1)) ∧ (decode cX10_keeps 23 = .ok (.getfield 69, 3)) ∧ (decode cX10_keeps 26 = .ok (.iload_n 3, 1)) := by decide +kernel
theorem dX10_keeps_0 : decode cX10_keeps 0 = .ok (.bipush 15, 2) := da9_dX10_keeps_0.1
theorem dX10_keeps_2 : decode cX10_keeps 2 = .ok (.istore_n 2, 1) := da9_dX10_keeps_0.2.1
theorem dX10_keeps_3 : decode cX10_keeps 3 = .ok (.aload_n 0, 1) := da9_dX10_keeps_0.2.2.1
theorem dX10_keeps_4 : decode cX10_keeps 4 = .ok (.getfield 11, 3) := da9_dX10_keeps_0.2.2.2.1
theorem dX10_keeps_7 : decode cX10_keeps 7 = .ok (.bipush 16, 2) := da9_dX10_keeps_0.2.2.2.2.1
theorem dX10_keeps_9 : decode cX10_keeps 9 = .ok (.if_icmp .ne 43, 3) := da9_dX10_keeps_0.2.2.2.2.2.1
theorem dX10_keeps_12 : decode cX10_keeps 12 = .ok (.iconst 0, 1) := da9_dX10_keeps_0.2.2.2.2.2.2.1
theorem dX10_keeps_13 : decode cX10_keeps 13 = .ok (.istore_n 3, 1) := da9_dX10_keeps_0.2.2.2.2.2.2.2.1
theorem dX10_keeps_14 : decode cX10_keeps 14 = .ok (.iload_n 3, 1) := da9_dX10_keeps_0.2.2.2.2.2.2.2.2.1
theorem dX10_keeps_15 : decode cX10_keeps 15 = .ok (.bipush 15, 2) := da9_dX10_keeps_0.2.2.2.2.2.2.2.2.2.1
theorem dX10_keeps_17 : decode cX10_keeps 17 = .ok (.iload_n 2, 1) := da9_dX10_keeps_0.2.2.2.2.2.2.2.2.2.2.1
theorem dX10_keeps_18 : decode cX10_keeps 18 = .ok (.imul, 1) := da9_dX10_keeps_0.2.2.2.2.2.2.2.2.2.2.2.1
theorem dX10_keeps_19 : decode cX10_keeps 19 = .ok (.if_icmp .ge 23, 3) := da9_dX10_keeps_0.2.2.2.2.2.2.2.2.2.2.2.2.1
theorem dX10_keeps_22 : decode cX10_keeps 22 = .ok (.aload_n 0, 1) := da9_dX10_keeps_0.2.2.2.2.2.2.2.2.2.2.2.2.2.1
theorem dX10_keeps_23 : decode cX10_keeps 23 = .ok (.getfield 69, 3) := da9_dX10_keeps_0.2.2.2.2.2.2.2.2.2.2.2.2.2.2.1
theorem dX10_keeps_26 : decode cX10_keeps 26 = .ok (.iload_n 3, 1) := da9_dX10_keeps_0.2.2.2.2.2.2.2.2.2.2.2.2.2.2.2
theorem da9_dX10_keeps_27 : (decode cX10_keeps 27 = .ok (.aload_n 0, 1)) ∧ (decode cX10_keeps 28 = .ok (.getfield 69, 3)) ∧ (decode cX10_keeps 31 = .ok (.iload_n 3, 1)) ∧ (decode cX10_keeps 32 = .ok (.iload_n 2, 1)) ∧ (decode cX10_keeps 33 = .ok (.iadd, 1)) ∧ (decode cX10_keeps 34 = .ok (.iaload, 1)) ∧ (decode cX10_keeps 35 = .ok (.iastore, 1)) ∧ (decode cX10_keeps 36 = .ok (.iinc 3 1, 3)) ∧ (decode cX10_keeps 39 = .ok (.goto (-25), 3)) ∧ (decode cX10_keeps 42 = .ok (.aload_n 0, 1)) ∧ (decode cX10_keeps 43 = .ok (.dup, 1)) ∧ (decode cX10_keeps 44 = .ok (.getfield 11, 3)) ∧ (decode cX10_keeps 47 = .ok (.iconst 1, 1)) ∧ (decode cX10_keeps 48 = .ok (.isub, 1)) ∧ (decode cX10_keeps 49 = .ok (.putfield 11, 3)) ∧ (decode cX10_keeps 52 = .ok (.iconst 0, 1)) := by decide +kernel
theorem dX10_keeps_27 : decode cX10_keeps 27 = .ok (.aload_n 0, 1) := da9_dX10_keeps_27.1
theorem dX10_keeps_28 : decode cX10_keeps 28 = .ok (.getfield 69, 3) := da9_dX10_keeps_27.2.1
theorem dX10_keeps_31 : decode cX10_keeps 31 = .ok (.iload_n 3, 1) := da9_dX10_keeps_27.2.2.1
theorem dX10_keeps_32 : decode cX10_keeps 32 = .ok (.iload_n 2, 1) := da9_dX10_keeps_27.2.2.2.1
theorem dX10_keeps_33 : decode cX10_keeps 33 = .ok (.iadd, 1) := da9_dX10_keeps_27.2.2.2.2.1
theorem dX10_keeps_34 : decode cX10_keeps 34 = .ok (.iaload, 1) := da9_dX10_keeps_27.2.2.2.2.2.1
theorem dX10_keeps_35 : decode cX10_keeps 35 = .ok (.iastore, 1) := da9_dX10_keeps_27.2.2.2.2.2.2.1
theorem dX10_keeps_36 : decode cX10_keeps 36 = .ok (.iinc 3 1, 3) := da9_dX10_keeps_27.2.2.2.2.2.2.2.1
theorem dX10_keeps_39 : decode cX10_keeps 39 = .ok (.goto (-25), 3) := da9_dX10_keeps_27.2.2.2.2.2.2.2.2.1
theorem dX10_keeps_42 : decode cX10_keeps 42 = .ok (.aload_n 0, 1) := da9_dX10_keeps_27.2.2.2.2.2.2.2.2.2.1
theorem dX10_keeps_43 : decode cX10_keeps 43 = .ok (.dup, 1) := da9_dX10_keeps_27.2.2.2.2.2.2.2.2.2.2.1
theorem dX10_keeps_44 : decode cX10_keeps 44 = .ok (.getfield 11, 3) := da9_dX10_keeps_27.2.2.2.2.2.2.2.2.2.2.2.1
theorem dX10_keeps_47 : decode cX10_keeps 47 = .ok (.iconst 1, 1) := da9_dX10_keeps_27.2.2.2.2.2.2.2.2.2.2.2.2.1
theorem dX10_keeps_48 : decode cX10_keeps 48 = .ok (.isub, 1) := da9_dX10_keeps_27.2.2.2.2.2.2.2.2.2.2.2.2.2.1
theorem dX10_keeps_49 : decode cX10_keeps 49 = .ok (.putfield 11, 3) := da9_dX10_keeps_27.2.2.2.2.2.2.2.2.2.2.2.2.2.2.1
theorem dX10_keeps_52 : decode cX10_keeps 52 = .ok (.iconst 0, 1) := da9_dX10_keeps_27.2.2.2.2.2.2.2.2.2.2.2.2.2.2.2
theorem da9_dX10_keeps_53 : (decode cX10_keeps 53 = .ok (.istore_n 3, 1)) ∧ (decode cX10_keeps 54 = .ok (.iload_n 3, 1)) ∧ (decode cX10_keeps 55 = .ok (.bipush 14, 2)) ∧ (decode cX10_keeps 57 = .ok (.if_icmp .ge 28, 3)) ∧ (decode cX10_keeps 60 = .ok (.aload_n 0, 1)) ∧ (decode cX10_keeps 61 = .ok (.getfield 69, 3)) ∧ (decode cX10_keeps 64 = .ok (.iload_n 2, 1)) ∧ (decode cX10_keeps 65 = .ok (.aload_n 0, 1)) ∧ (decode cX10_keeps 66 = .ok (.getfield 11, 3)) ∧ (decode cX10_keeps 69 = .ok (.imul, 1)) ∧ (decode cX10_keeps 70 = .ok (.iload_n 3, 1)) ∧ (decode cX10_keeps 71 = .ok (.iadd, 1)) ∧ (decode cX10_keeps 72 = .ok (.aload_n 0, 1)) ∧ (decode cX10_keeps 73 = .ok (.getfield 28, 3)) ∧ (decode cX10_keeps 76 = .ok (.iload_n 3, 1)) ∧ (decode cX10_keeps 77 = .ok (.iaload, 1)) := by decide +kernel
theorem dX10_keeps_53 : decode cX10_keeps 53 = .ok (.istore_n 3, 1) := da9_dX10_keeps_53.1
theorem dX10_keeps_54 : decode cX10_keeps 54 = .ok (.iload_n 3, 1) := da9_dX10_keeps_53.2.1
theorem dX10_keeps_55 : decode cX10_keeps 55 = .ok (.bipush 14, 2) := da9_dX10_keeps_53.2.2.1
theorem dX10_keeps_57 : decode cX10_keeps 57 = .ok (.if_icmp .ge 28, 3) := da9_dX10_keeps_53.2.2.2.1
theorem dX10_keeps_60 : decode cX10_keeps 60 = .ok (.aload_n 0, 1) := da9_dX10_keeps_53.2.2.2.2.1
theorem dX10_keeps_61 : decode cX10_keeps 61 = .ok (.getfield 69, 3) := da9_dX10_keeps_53.2.2.2.2.2.1
theorem dX10_keeps_64 : decode cX10_keeps 64 = .ok (.iload_n 2, 1) := da9_dX10_keeps_53.2.2.2.2.2.2.1
theorem dX10_keeps_65 : decode cX10_keeps 65 = .ok (.aload_n 0, 1) := da9_dX10_keeps_53.2.2.2.2.2.2.2.1
theorem dX10_keeps_66 : decode cX10_keeps 66 = .ok (.getfield 11, 3) := da9_dX10_keeps_53.2.2.2.2.2.2.2.2.1
theorem dX10_keeps_69 : decode cX10_keeps 69 = .ok (.imul, 1) := da9_dX10_keeps_53.2.2.2.2.2.2.2.2.2.1
theorem dX10_keeps_70 : decode cX10_keeps 70 = .ok (.iload_n 3, 1) := da9_dX10_keeps_53.2.2.2.2.2.2.2.2.2.2.1
theorem dX10_keeps_71 : decode cX10_keeps 71 = .ok (.iadd, 1) := da9_dX10_keeps_53.2.2.2.2.2.2.2.2.2.2.2.1
theorem dX10_keeps_72 : decode cX10_keeps 72 = .ok (.aload_n 0, 1) := da9_dX10_keeps_53.2.2.2.2.2.2.2.2.2.2.2.2.1
theorem dX10_keeps_73 : decode cX10_keeps 73 = .ok (.getfield 28, 3) := da9_dX10_keeps_53.2.2.2.2.2.2.2.2.2.2.2.2.2.1
theorem dX10_keeps_76 : decode cX10_keeps 76 = .ok (.iload_n 3, 1) := da9_dX10_keeps_53.2.2.2.2.2.2.2.2.2.2.2.2.2.2.1
theorem dX10_keeps_77 : decode cX10_keeps 77 = .ok (.iaload, 1) := da9_dX10_keeps_53.2.2.2.2.2.2.2.2.2.2.2.2.2.2.2
theorem da9_dX10_keeps_78 : (decode cX10_keeps 78 = .ok (.iastore, 1)) ∧ (decode cX10_keeps 79 = .ok (.iinc 3 1, 3)) ∧ (decode cX10_keeps 82 = .ok (.goto (-28), 3)) ∧ (decode cX10_keeps 85 = .ok (.aload_n 0, 1)) ∧ (decode cX10_keeps 86 = .ok (.getfield 69, 3)) ∧ (decode cX10_keeps 89 = .ok (.iload_n 2, 1)) ∧ (decode cX10_keeps 90 = .ok (.aload_n 0, 1)) ∧ (decode cX10_keeps 91 = .ok (.getfield 11, 3)) ∧ (decode cX10_keeps 94 = .ok (.imul, 1)) ∧ (decode cX10_keeps 95 = .ok (.bipush 14, 2)) ∧ (decode cX10_keeps 97 = .ok (.iadd, 1)) ∧ (decode cX10_keeps 98 = .ok (.iload_n 1, 1)) ∧ (decode cX10_keeps 99 = .ok (.iastore, 1)) ∧ (decode cX10_keeps 100 = .ok (.aload_n 0, 1)) ∧ (decode cX10_keeps 101 = .ok (.dup, 1)) ∧ (decode cX10_keeps 102 = .ok (.getfield 11, 3)) := by decide +kernel
theorem dX10_keeps_78 : decode cX10_keeps 78 = .ok (.iastore, 1) := da9_dX10_keeps_78.1
theorem dX10_keeps_79 : decode cX10_keeps 79 = .ok (.iinc 3 1, 3) := da9_dX10_keeps_78.2.1
theorem dX10_keeps_82 : decode cX10_keeps 82 = .ok (.goto (-28), 3) := da9_dX10_keeps_78.2.2.1
theorem dX10_keeps_85 : decode cX10_keeps 85 = .ok (.aload_n 0, 1) := da9_dX10_keeps_78.2.2.2.1
theorem dX10_keeps_86 : decode cX10_keeps 86 = .ok (.getfield 69, 3) := da9_dX10_keeps_78.2.2.2.2.1
theorem dX10_keeps_89 : decode cX10_keeps 89 = .ok (.iload_n 2, 1) := da9_dX10_keeps_78.2.2.2.2.2.1
theorem dX10_keeps_90 : decode cX10_keeps 90 = .ok (.aload_n 0, 1) := da9_dX10_keeps_78.2.2.2.2.2.2.1
theorem dX10_keeps_91 : decode cX10_keeps 91 = .ok (.getfield 11, 3) := da9_dX10_keeps_78.2.2.2.2.2.2.2.1
theorem dX10_keeps_94 : decode cX10_keeps 94 = .ok (.imul, 1) := da9_dX10_keeps_78.2.2.2.2.2.2.2.2.1
theorem dX10_keeps_95 : decode cX10_keeps 95 = .ok (.bipush 14, 2) := da9_dX10_keeps_78.2.2.2.2.2.2.2.2.2.1
theorem dX10_keeps_97 : decode cX10_keeps 97 = .ok (.iadd, 1) := da9_dX10_keeps_78.2.2.2.2.2.2.2.2.2.2.1
theorem dX10_keeps_98 : decode cX10_keeps 98 = .ok (.iload_n 1, 1) := da9_dX10_keeps_78.2.2.2.2.2.2.2.2.2.2.2.1
theorem dX10_keeps_99 : decode cX10_keeps 99 = .ok (.iastore, 1) := da9_dX10_keeps_78.2.2.2.2.2.2.2.2.2.2.2.2.1
theorem dX10_keeps_100 : decode cX10_keeps 100 = .ok (.aload_n 0, 1) := da9_dX10_keeps_78.2.2.2.2.2.2.2.2.2.2.2.2.2.1
theorem dX10_keeps_101 : decode cX10_keeps 101 = .ok (.dup, 1) := da9_dX10_keeps_78.2.2.2.2.2.2.2.2.2.2.2.2.2.2.1
theorem dX10_keeps_102 : decode cX10_keeps 102 = .ok (.getfield 11, 3) := da9_dX10_keeps_78.2.2.2.2.2.2.2.2.2.2.2.2.2.2.2
theorem da9_dX10_keeps_105 : (decode cX10_keeps 105 = .ok (.iconst 1, 1)) ∧ (decode cX10_keeps 106 = .ok (.iadd, 1)) ∧ (decode cX10_keeps 107 = .ok (.putfield 11, 3)) ∧ (decode cX10_keeps 110 = .ok (.return_, 1)) := by decide +kernel
theorem dX10_keeps_105 : decode cX10_keeps 105 = .ok (.iconst 1, 1) := da9_dX10_keeps_105.1
theorem dX10_keeps_106 : decode cX10_keeps 106 = .ok (.iadd, 1) := da9_dX10_keeps_105.2.1
theorem dX10_keeps_107 : decode cX10_keeps 107 = .ok (.putfield 11, 3) := da9_dX10_keeps_105.2.2.1
theorem dX10_keeps_110 : decode cX10_keeps 110 = .ok (.return_, 1) := da9_dX10_keeps_105.2.2.2
set_option maxRecDepth 20000 in
theorem ggX10_undo_X10_refuses : GoodIn wsX10_undo wsX10_refuses := wd_c vW10_ok mvW10_13
set_option maxRecDepth 20000 in
theorem gX10_undo_X10_refuses : GoodIn wsX10_undo (wsV RX10 119 RX10 yX10_refuses wsX10_refuses) := goodIn_app (wd_l vW10_ok _ pvW10_142) ggX10_undo_X10_refuses
set_option maxRecDepth 20000 in
theorem ggX10_undo_X10_good : GoodIn wsX10_undo wsX10_good := wd_c vW10_ok mvW10_37
set_option maxRecDepth 20000 in
theorem gX10_undo_X10_good : GoodIn wsX10_undo (wsV RX10 14 RX10 yX10_good wsX10_good) := goodIn_app (wd_l vW10_ok _ pvW10_140) ggX10_undo_X10_good
theorem da9_dX10_undo_0 : (decode cX10_undo 0 = .ok (.aload_n 0, 1)) ∧ (decode cX10_undo 1 = .ok (.getfield 11, 3)) ∧ (decode cX10_undo 4 = .ok (.ifCond .ne 10, 3)) ∧ (decode cX10_undo 7 = .ok (.aload_n 0, 1)) ∧ (decode cX10_undo 8 = .ok (.bipush (-3), 2)) ∧ (decode cX10_undo 10 = .ok (.invokevirtual 119, 3)) ∧ (decode cX10_undo 13 = .ok (.ireturn, 1)) ∧ (decode cX10_undo 14 = .ok (.aload_n 0, 1)) ∧ (decode cX10_undo 15 = .ok (.dup, 1)) ∧ (decode cX10_undo 16 = .ok (.getfield 11, 3)) ∧ (decode cX10_undo 19 = .ok (.iconst 1, 1)) ∧ (decode cX10_undo 20 = .ok (.isub, 1)) ∧ (decode cX10_undo 21 = .ok (.putfield 11, 3)) ∧ (decode cX10_undo 24 = .ok (.bipush 15, 2)) ∧ (decode cX10_undo 26 = .ok (.aload_n 0, 1)) ∧ (decode cX10_undo 27 = .ok (.getfield 11, 3)) := by decide +kernel
theorem dX10_undo_0 : decode cX10_undo 0 = .ok (.aload_n 0, 1) := da9_dX10_undo_0.1
theorem dX10_undo_1 : decode cX10_undo 1 = .ok (.getfield 11, 3) := da9_dX10_undo_0.2.1
theorem dX10_undo_4 : decode cX10_undo 4 = .ok (.ifCond .ne 10, 3) := da9_dX10_undo_0.2.2.1
theorem dX10_undo_7 : decode cX10_undo 7 = .ok (.aload_n 0, 1) := da9_dX10_undo_0.2.2.2.1
theorem dX10_undo_8 : decode cX10_undo 8 = .ok (.bipush (-3), 2) := da9_dX10_undo_0.2.2.2.2.1
theorem dX10_undo_10 : decode cX10_undo 10 = .ok (.invokevirtual 119, 3) := da9_dX10_undo_0.2.2.2.2.2.1
theorem dX10_undo_13 : decode cX10_undo 13 = .ok (.ireturn, 1) := da9_dX10_undo_0.2.2.2.2.2.2.1
theorem dX10_undo_14 : decode cX10_undo 14 = .ok (.aload_n 0, 1) := da9_dX10_undo_0.2.2.2.2.2.2.2.1
theorem dX10_undo_15 : decode cX10_undo 15 = .ok (.dup, 1) := da9_dX10_undo_0.2.2.2.2.2.2.2.2.1
theorem dX10_undo_16 : decode cX10_undo 16 = .ok (.getfield 11, 3) := da9_dX10_undo_0.2.2.2.2.2.2.2.2.2.1
theorem dX10_undo_19 : decode cX10_undo 19 = .ok (.iconst 1, 1) := da9_dX10_undo_0.2.2.2.2.2.2.2.2.2.2.1
theorem dX10_undo_20 : decode cX10_undo 20 = .ok (.isub, 1) := da9_dX10_undo_0.2.2.2.2.2.2.2.2.2.2.2.1
theorem dX10_undo_21 : decode cX10_undo 21 = .ok (.putfield 11, 3) := da9_dX10_undo_0.2.2.2.2.2.2.2.2.2.2.2.2.1
theorem dX10_undo_24 : decode cX10_undo 24 = .ok (.bipush 15, 2) := da9_dX10_undo_0.2.2.2.2.2.2.2.2.2.2.2.2.2.1
theorem dX10_undo_26 : decode cX10_undo 26 = .ok (.aload_n 0, 1) := da9_dX10_undo_0.2.2.2.2.2.2.2.2.2.2.2.2.2.2.1
theorem dX10_undo_27 : decode cX10_undo 27 = .ok (.getfield 11, 3) := da9_dX10_undo_0.2.2.2.2.2.2.2.2.2.2.2.2.2.2.2
theorem da9_dX10_undo_30 : (decode cX10_undo 30 = .ok (.imul, 1)) ∧ (decode cX10_undo 31 = .ok (.istore_n 1, 1)) ∧ (decode cX10_undo 32 = .ok (.iconst 0, 1)) ∧ (decode cX10_undo 33 = .ok (.istore_n 2, 1)) ∧ (decode cX10_undo 34 = .ok (.iload_n 2, 1)) ∧ (decode cX10_undo 35 = .ok (.bipush 14, 2)) ∧ (decode cX10_undo 37 = .ok (.if_icmp .ge 23, 3)) ∧ (decode cX10_undo 40 = .ok (.aload_n 0, 1)) ∧ (decode cX10_undo 41 = .ok (.getfield 28, 3)) ∧ (decode cX10_undo 44 = .ok (.iload_n 2, 1)) ∧ (decode cX10_undo 45 = .ok (.aload_n 0, 1)) ∧ (decode cX10_undo 46 = .ok (.getfield 69, 3)) ∧ (decode cX10_undo 49 = .ok (.iload_n 1, 1)) ∧ (decode cX10_undo 50 = .ok (.iload_n 2, 1)) ∧ (decode cX10_undo 51 = .ok (.iadd, 1)) ∧ (decode cX10_undo 52 = .ok (.iaload, 1)) := by decide +kernel
theorem dX10_undo_30 : decode cX10_undo 30 = .ok (.imul, 1) := da9_dX10_undo_30.1
theorem dX10_undo_31 : decode cX10_undo 31 = .ok (.istore_n 1, 1) := da9_dX10_undo_30.2.1
theorem dX10_undo_32 : decode cX10_undo 32 = .ok (.iconst 0, 1) := da9_dX10_undo_30.2.2.1
theorem dX10_undo_33 : decode cX10_undo 33 = .ok (.istore_n 2, 1) := da9_dX10_undo_30.2.2.2.1
theorem dX10_undo_34 : decode cX10_undo 34 = .ok (.iload_n 2, 1) := da9_dX10_undo_30.2.2.2.2.1
theorem dX10_undo_35 : decode cX10_undo 35 = .ok (.bipush 14, 2) := da9_dX10_undo_30.2.2.2.2.2.1
theorem dX10_undo_37 : decode cX10_undo 37 = .ok (.if_icmp .ge 23, 3) := da9_dX10_undo_30.2.2.2.2.2.2.1
theorem dX10_undo_40 : decode cX10_undo 40 = .ok (.aload_n 0, 1) := da9_dX10_undo_30.2.2.2.2.2.2.2.1
theorem dX10_undo_41 : decode cX10_undo 41 = .ok (.getfield 28, 3) := da9_dX10_undo_30.2.2.2.2.2.2.2.2.1
theorem dX10_undo_44 : decode cX10_undo 44 = .ok (.iload_n 2, 1) := da9_dX10_undo_30.2.2.2.2.2.2.2.2.2.1
theorem dX10_undo_45 : decode cX10_undo 45 = .ok (.aload_n 0, 1) := da9_dX10_undo_30.2.2.2.2.2.2.2.2.2.2.1
theorem dX10_undo_46 : decode cX10_undo 46 = .ok (.getfield 69, 3) := da9_dX10_undo_30.2.2.2.2.2.2.2.2.2.2.2.1
theorem dX10_undo_49 : decode cX10_undo 49 = .ok (.iload_n 1, 1) := da9_dX10_undo_30.2.2.2.2.2.2.2.2.2.2.2.2.1
theorem dX10_undo_50 : decode cX10_undo 50 = .ok (.iload_n 2, 1) := da9_dX10_undo_30.2.2.2.2.2.2.2.2.2.2.2.2.2.1
theorem dX10_undo_51 : decode cX10_undo 51 = .ok (.iadd, 1) := da9_dX10_undo_30.2.2.2.2.2.2.2.2.2.2.2.2.2.2.1
theorem dX10_undo_52 : decode cX10_undo 52 = .ok (.iaload, 1) := da9_dX10_undo_30.2.2.2.2.2.2.2.2.2.2.2.2.2.2.2
theorem da9_dX10_undo_53 : (decode cX10_undo 53 = .ok (.iastore, 1)) ∧ (decode cX10_undo 54 = .ok (.iinc 2 1, 3)) ∧ (decode cX10_undo 57 = .ok (.goto (-23), 3)) ∧ (decode cX10_undo 60 = .ok (.aload_n 0, 1)) ∧ (decode cX10_undo 61 = .ok (.aload_n 0, 1)) ∧ (decode cX10_undo 62 = .ok (.getfield 69, 3)) ∧ (decode cX10_undo 65 = .ok (.iload_n 1, 1)) ∧ (decode cX10_undo 66 = .ok (.bipush 14, 2)) ∧ (decode cX10_undo 68 = .ok (.iadd, 1)) ∧ (decode cX10_undo 69 = .ok (.iaload, 1)) ∧ (decode cX10_undo 70 = .ok (.invokevirtual 14, 3)) ∧ (decode cX10_undo 73 = .ok (.ireturn, 1)) := by decide +kernel
theorem dX10_undo_53 : decode cX10_undo 53 = .ok (.iastore, 1) := da9_dX10_undo_53.1
theorem dX10_undo_54 : decode cX10_undo 54 = .ok (.iinc 2 1, 3) := da9_dX10_undo_53.2.1
theorem dX10_undo_57 : decode cX10_undo 57 = .ok (.goto (-23), 3) := da9_dX10_undo_53.2.2.1
theorem dX10_undo_60 : decode cX10_undo 60 = .ok (.aload_n 0, 1) := da9_dX10_undo_53.2.2.2.1
theorem dX10_undo_61 : decode cX10_undo 61 = .ok (.aload_n 0, 1) := da9_dX10_undo_53.2.2.2.2.1
theorem dX10_undo_62 : decode cX10_undo 62 = .ok (.getfield 69, 3) := da9_dX10_undo_53.2.2.2.2.2.1
theorem dX10_undo_65 : decode cX10_undo 65 = .ok (.iload_n 1, 1) := da9_dX10_undo_53.2.2.2.2.2.2.1
theorem dX10_undo_66 : decode cX10_undo 66 = .ok (.bipush 14, 2) := da9_dX10_undo_53.2.2.2.2.2.2.2.1
theorem dX10_undo_68 : decode cX10_undo 68 = .ok (.iadd, 1) := da9_dX10_undo_53.2.2.2.2.2.2.2.2.1
theorem dX10_undo_69 : decode cX10_undo 69 = .ok (.iaload, 1) := da9_dX10_undo_53.2.2.2.2.2.2.2.2.2.1
theorem dX10_undo_70 : decode cX10_undo 70 = .ok (.invokevirtual 14, 3) := da9_dX10_undo_53.2.2.2.2.2.2.2.2.2.2.1
theorem dX10_undo_73 : decode cX10_undo 73 = .ok (.ireturn, 1) := da9_dX10_undo_53.2.2.2.2.2.2.2.2.2.2.2
set_option maxRecDepth 20000 in
theorem ggX10_goodOr_X10_refuses : GoodIn wsX10_goodOr wsX10_refuses := wd_c vW10_ok mvW10_13
set_option maxRecDepth 20000 in
theorem gX10_goodOr_X10_refuses : GoodIn wsX10_goodOr (wsV RX10 119 RX10 yX10_refuses wsX10_refuses) := goodIn_app (wd_l vW10_ok _ pvW10_142) ggX10_goodOr_X10_refuses
set_option maxRecDepth 20000 in
theorem ggX10_goodOr_X10_good : GoodIn wsX10_goodOr wsX10_good := wd_c vW10_ok mvW10_37
set_option maxRecDepth 20000 in
theorem gX10_goodOr_X10_good : GoodIn wsX10_goodOr (wsV RX10 14 RX10 yX10_good wsX10_good) := goodIn_app (wd_l vW10_ok _ pvW10_140) ggX10_goodOr_X10_good
theorem da9_dX10_goodOr_0 : (decode cX10_goodOr 0 = .ok (.iload_n 1, 1)) ∧ (decode cX10_goodOr 1 = .ok (.ifCond .ge 11, 3)) ∧ (decode cX10_goodOr 4 = .ok (.aload_n 0, 1)) ∧ (decode cX10_goodOr 5 = .ok (.iload_n 1, 1)) ∧ (decode cX10_goodOr 6 = .ok (.invokevirtual 119, 3)) ∧ (decode cX10_goodOr 9 = .ok (.goto 8, 3)) ∧ (decode cX10_goodOr 12 = .ok (.aload_n 0, 1)) ∧ (decode cX10_goodOr 13 = .ok (.iload_n 1, 1)) ∧ (decode cX10_goodOr 14 = .ok (.invokevirtual 14, 3)) ∧ (decode cX10_goodOr 17 = .ok (.ireturn, 1)) := by decide +kernel
theorem dX10_goodOr_0 : decode cX10_goodOr 0 = .ok (.iload_n 1, 1) := da9_dX10_goodOr_0.1
theorem dX10_goodOr_1 : decode cX10_goodOr 1 = .ok (.ifCond .ge 11, 3) := da9_dX10_goodOr_0.2.1
theorem dX10_goodOr_4 : decode cX10_goodOr 4 = .ok (.aload_n 0, 1) := da9_dX10_goodOr_0.2.2.1
theorem dX10_goodOr_5 : decode cX10_goodOr 5 = .ok (.iload_n 1, 1) := da9_dX10_goodOr_0.2.2.2.1
theorem dX10_goodOr_6 : decode cX10_goodOr 6 = .ok (.invokevirtual 119, 3) := da9_dX10_goodOr_0.2.2.2.2.1
theorem dX10_goodOr_9 : decode cX10_goodOr 9 = .ok (.goto 8, 3) := da9_dX10_goodOr_0.2.2.2.2.2.1
theorem dX10_goodOr_12 : decode cX10_goodOr 12 = .ok (.aload_n 0, 1) := da9_dX10_goodOr_0.2.2.2.2.2.2.1
theorem dX10_goodOr_13 : decode cX10_goodOr 13 = .ok (.iload_n 1, 1) := da9_dX10_goodOr_0.2.2.2.2.2.2.2.1
theorem dX10_goodOr_14 : decode cX10_goodOr 14 = .ok (.invokevirtual 14, 3) := da9_dX10_goodOr_0.2.2.2.2.2.2.2.2.1
theorem dX10_goodOr_17 : decode cX10_goodOr 17 = .ok (.ireturn, 1) := da9_dX10_goodOr_0.2.2.2.2.2.2.2.2.2
set_option maxRecDepth 20000 in
theorem ggX10_turnsKept_X10_lies : GoodIn wsX10_turnsKept wsX10_lies := wd_c vW10_ok mvW10_6
set_option maxRecDepth 20000 in
theorem gX10_turnsKept_X10_lies : GoodIn wsX10_turnsKept (va_wsS RX10 18 yX10_lies wsX10_lies) := goodIn_app (wd_l vW10_ok _ pvW10_141) ggX10_turnsKept_X10_lies
set_option maxRecDepth 20000 in
theorem ggX10_turnsKept_X10_canTurn : GoodIn wsX10_turnsKept wsX10_canTurn := wd_c vW10_ok mvW10_310
set_option maxRecDepth 20000 in
theorem gX10_turnsKept_X10_canTurn : GoodIn wsX10_turnsKept (wsV RX10 353 RX10 yX10_canTurn wsX10_canTurn) := goodIn_app (wd_l vW10_ok _ pvW10_198) ggX10_turnsKept_X10_canTurn
set_option maxRecDepth 20000 in
theorem ggX10_turnsKept_X10_keeps : GoodIn wsX10_turnsKept wsX10_keeps := wd_c vW10_ok mvW10_285
set_option maxRecDepth 20000 in
theorem gX10_turnsKept_X10_keeps : GoodIn wsX10_turnsKept (wsV RX10 356 RX10 yX10_keeps wsX10_keeps) := goodIn_app (wd_l vW10_ok _ pvW10_199) ggX10_turnsKept_X10_keeps
set_option maxRecDepth 20000 in
theorem ggX10_turnsKept_X10_turns : GoodIn wsX10_turnsKept wsX10_turns := wd_c vW10_ok mvW10_314
set_option maxRecDepth 20000 in
theorem gX10_turnsKept_X10_turns : GoodIn wsX10_turnsKept (wsV RX10 359 RX10 yX10_turns wsX10_turns) := goodIn_app (wd_l vW10_ok _ pvW10_200) ggX10_turnsKept_X10_turns
theorem da9_dX10_turnsKept_0 : (decode cX10_turnsKept 0 = .ok (.iload_n 1, 1)) ∧ (decode cX10_turnsKept 1 = .ok (.iconst 1, 1)) ∧ (decode cX10_turnsKept 2 = .ok (.bipush 6, 2)) ∧ (decode cX10_turnsKept 4 = .ok (.invokestatic 18, 3)) ∧ (decode cX10_turnsKept 7 = .ok (.ifCond .ne 5, 3)) ∧ (decode cX10_turnsKept 10 = .ok (.iconst (-1), 1)) ∧ (decode cX10_turnsKept 11 = .ok (.ireturn, 1)) ∧ (decode cX10_turnsKept 12 = .ok (.aload_n 0, 1)) ∧ (decode cX10_turnsKept 13 = .ok (.iload_n 1, 1)) ∧ (decode cX10_turnsKept 14 = .ok (.invokevirtual 353, 3)) ∧ (decode cX10_turnsKept 17 = .ok (.ifCond .ne 6, 3)) ∧ (decode cX10_turnsKept 20 = .ok (.bipush (-3), 2)) ∧ (decode cX10_turnsKept 22 = .ok (.ireturn, 1)) ∧ (decode cX10_turnsKept 23 = .ok (.aload_n 0, 1)) ∧ (decode cX10_turnsKept 24 = .ok (.iconst 0, 1)) ∧ (decode cX10_turnsKept 25 = .ok (.invokevirtual 356, 3)) := by decide +kernel
theorem dX10_turnsKept_0 : decode cX10_turnsKept 0 = .ok (.iload_n 1, 1) := da9_dX10_turnsKept_0.1
theorem dX10_turnsKept_1 : decode cX10_turnsKept 1 = .ok (.iconst 1, 1) := da9_dX10_turnsKept_0.2.1
theorem dX10_turnsKept_2 : decode cX10_turnsKept 2 = .ok (.bipush 6, 2) := da9_dX10_turnsKept_0.2.2.1
theorem dX10_turnsKept_4 : decode cX10_turnsKept 4 = .ok (.invokestatic 18, 3) := da9_dX10_turnsKept_0.2.2.2.1
theorem dX10_turnsKept_7 : decode cX10_turnsKept 7 = .ok (.ifCond .ne 5, 3) := da9_dX10_turnsKept_0.2.2.2.2.1
theorem dX10_turnsKept_10 : decode cX10_turnsKept 10 = .ok (.iconst (-1), 1) := da9_dX10_turnsKept_0.2.2.2.2.2.1
theorem dX10_turnsKept_11 : decode cX10_turnsKept 11 = .ok (.ireturn, 1) := da9_dX10_turnsKept_0.2.2.2.2.2.2.1
theorem dX10_turnsKept_12 : decode cX10_turnsKept 12 = .ok (.aload_n 0, 1) := da9_dX10_turnsKept_0.2.2.2.2.2.2.2.1
theorem dX10_turnsKept_13 : decode cX10_turnsKept 13 = .ok (.iload_n 1, 1) := da9_dX10_turnsKept_0.2.2.2.2.2.2.2.2.1
theorem dX10_turnsKept_14 : decode cX10_turnsKept 14 = .ok (.invokevirtual 353, 3) := da9_dX10_turnsKept_0.2.2.2.2.2.2.2.2.2.1
theorem dX10_turnsKept_17 : decode cX10_turnsKept 17 = .ok (.ifCond .ne 6, 3) := da9_dX10_turnsKept_0.2.2.2.2.2.2.2.2.2.2.1
theorem dX10_turnsKept_20 : decode cX10_turnsKept 20 = .ok (.bipush (-3), 2) := da9_dX10_turnsKept_0.2.2.2.2.2.2.2.2.2.2.2.1
theorem dX10_turnsKept_22 : decode cX10_turnsKept 22 = .ok (.ireturn, 1) := da9_dX10_turnsKept_0.2.2.2.2.2.2.2.2.2.2.2.2.1
theorem dX10_turnsKept_23 : decode cX10_turnsKept 23 = .ok (.aload_n 0, 1) := da9_dX10_turnsKept_0.2.2.2.2.2.2.2.2.2.2.2.2.2.1
theorem dX10_turnsKept_24 : decode cX10_turnsKept 24 = .ok (.iconst 0, 1) := da9_dX10_turnsKept_0.2.2.2.2.2.2.2.2.2.2.2.2.2.2.1
theorem dX10_turnsKept_25 : decode cX10_turnsKept 25 = .ok (.invokevirtual 356, 3) := da9_dX10_turnsKept_0.2.2.2.2.2.2.2.2.2.2.2.2.2.2.2
theorem da9_dX10_turnsKept_28 : (decode cX10_turnsKept 28 = .ok (.aload_n 0, 1)) ∧ (decode cX10_turnsKept 29 = .ok (.iload_n 1, 1)) ∧ (decode cX10_turnsKept 30 = .ok (.invokevirtual 359, 3)) ∧ (decode cX10_turnsKept 33 = .ok (.ireturn, 1)) := by decide +kernel
theorem dX10_turnsKept_28 : decode cX10_turnsKept 28 = .ok (.aload_n 0, 1) := da9_dX10_turnsKept_28.1
theorem dX10_turnsKept_29 : decode cX10_turnsKept 29 = .ok (.iload_n 1, 1) := da9_dX10_turnsKept_28.2.1
theorem dX10_turnsKept_30 : decode cX10_turnsKept 30 = .ok (.invokevirtual 359, 3) := da9_dX10_turnsKept_28.2.2.1
theorem dX10_turnsKept_33 : decode cX10_turnsKept 33 = .ok (.ireturn, 1) := da9_dX10_turnsKept_28.2.2.2
set_option maxRecDepth 20000 in
theorem ggX10_rightsKept_X10_lies : GoodIn wsX10_rightsKept wsX10_lies := wd_c vW10_ok mvW10_6
set_option maxRecDepth 20000 in
theorem gX10_rightsKept_X10_lies : GoodIn wsX10_rightsKept (va_wsS RX10 18 yX10_lies wsX10_lies) := goodIn_app (wd_l vW10_ok _ pvW10_141) ggX10_rightsKept_X10_lies
set_option maxRecDepth 20000 in
theorem ggX10_rightsKept_X10_isPlace : GoodIn wsX10_rightsKept wsX10_isPlace := wd_c vW10_ok mvW10_41
set_option maxRecDepth 20000 in
theorem gX10_rightsKept_X10_isPlace : GoodIn wsX10_rightsKept (wsV RX10 143 RX10 yX10_isPlace wsX10_isPlace) := goodIn_app (wd_l vW10_ok _ pvW10_149) ggX10_rightsKept_X10_isPlace
set_option maxRecDepth 20000 in
theorem ggX10_rightsKept_X10_keeps : GoodIn wsX10_rightsKept wsX10_keeps := wd_c vW10_ok mvW10_285
set_option maxRecDepth 20000 in
theorem gX10_rightsKept_X10_keeps : GoodIn wsX10_rightsKept (wsV RX10 356 RX10 yX10_keeps wsX10_keeps) := goodIn_app (wd_l vW10_ok _ pvW10_199) ggX10_rightsKept_X10_keeps
theorem da9_dX10_rightsKept_0 : (decode cX10_rightsKept 0 = .ok (.iload_n 1, 1)) ∧ (decode cX10_rightsKept 1 = .ok (.iconst 0, 1)) ∧ (decode cX10_rightsKept 2 = .ok (.iconst 5, 1)) ∧ (decode cX10_rightsKept 3 = .ok (.invokestatic 18, 3)) ∧ (decode cX10_rightsKept 6 = .ok (.ifCond .ne 5, 3)) ∧ (decode cX10_rightsKept 9 = .ok (.iconst (-1), 1)) ∧ (decode cX10_rightsKept 10 = .ok (.ireturn, 1)) ∧ (decode cX10_rightsKept 11 = .ok (.aload_n 0, 1)) ∧ (decode cX10_rightsKept 12 = .ok (.iload_n 1, 1)) ∧ (decode cX10_rightsKept 13 = .ok (.invokevirtual 143, 3)) ∧ (decode cX10_rightsKept 16 = .ok (.ifCond .ne 6, 3)) ∧ (decode cX10_rightsKept 19 = .ok (.bipush (-3), 2)) ∧ (decode cX10_rightsKept 21 = .ok (.ireturn, 1)) ∧ (decode cX10_rightsKept 22 = .ok (.aload_n 0, 1)) ∧ (decode cX10_rightsKept 23 = .ok (.iconst 1, 1)) ∧ (decode cX10_rightsKept 24 = .ok (.invokevirtual 356, 3)) := by decide +kernel
theorem dX10_rightsKept_0 : decode cX10_rightsKept 0 = .ok (.iload_n 1, 1) := da9_dX10_rightsKept_0.1
theorem dX10_rightsKept_1 : decode cX10_rightsKept 1 = .ok (.iconst 0, 1) := da9_dX10_rightsKept_0.2.1
theorem dX10_rightsKept_2 : decode cX10_rightsKept 2 = .ok (.iconst 5, 1) := da9_dX10_rightsKept_0.2.2.1
theorem dX10_rightsKept_3 : decode cX10_rightsKept 3 = .ok (.invokestatic 18, 3) := da9_dX10_rightsKept_0.2.2.2.1
theorem dX10_rightsKept_6 : decode cX10_rightsKept 6 = .ok (.ifCond .ne 5, 3) := da9_dX10_rightsKept_0.2.2.2.2.1
theorem dX10_rightsKept_9 : decode cX10_rightsKept 9 = .ok (.iconst (-1), 1) := da9_dX10_rightsKept_0.2.2.2.2.2.1
theorem dX10_rightsKept_10 : decode cX10_rightsKept 10 = .ok (.ireturn, 1) := da9_dX10_rightsKept_0.2.2.2.2.2.2.1
theorem dX10_rightsKept_11 : decode cX10_rightsKept 11 = .ok (.aload_n 0, 1) := da9_dX10_rightsKept_0.2.2.2.2.2.2.2.1
theorem dX10_rightsKept_12 : decode cX10_rightsKept 12 = .ok (.iload_n 1, 1) := da9_dX10_rightsKept_0.2.2.2.2.2.2.2.2.1
theorem dX10_rightsKept_13 : decode cX10_rightsKept 13 = .ok (.invokevirtual 143, 3) := da9_dX10_rightsKept_0.2.2.2.2.2.2.2.2.2.1
theorem dX10_rightsKept_16 : decode cX10_rightsKept 16 = .ok (.ifCond .ne 6, 3) := da9_dX10_rightsKept_0.2.2.2.2.2.2.2.2.2.2.1
theorem dX10_rightsKept_19 : decode cX10_rightsKept 19 = .ok (.bipush (-3), 2) := da9_dX10_rightsKept_0.2.2.2.2.2.2.2.2.2.2.2.1
theorem dX10_rightsKept_21 : decode cX10_rightsKept 21 = .ok (.ireturn, 1) := da9_dX10_rightsKept_0.2.2.2.2.2.2.2.2.2.2.2.2.1
theorem dX10_rightsKept_22 : decode cX10_rightsKept 22 = .ok (.aload_n 0, 1) := da9_dX10_rightsKept_0.2.2.2.2.2.2.2.2.2.2.2.2.2.1
theorem dX10_rightsKept_23 : decode cX10_rightsKept 23 = .ok (.iconst 1, 1) := da9_dX10_rightsKept_0.2.2.2.2.2.2.2.2.2.2.2.2.2.2.1
theorem dX10_rightsKept_24 : decode cX10_rightsKept 24 = .ok (.invokevirtual 356, 3) := da9_dX10_rightsKept_0.2.2.2.2.2.2.2.2.2.2.2.2.2.2.2
theorem da9_dX10_rightsKept_27 : (decode cX10_rightsKept 27 = .ok (.aload_n 0, 1)) ∧ (decode cX10_rightsKept 28 = .ok (.getfield 28, 3)) ∧ (decode cX10_rightsKept 31 = .ok (.bipush 6, 2)) ∧ (decode cX10_rightsKept 33 = .ok (.iload_n 1, 1)) ∧ (decode cX10_rightsKept 34 = .ok (.iadd, 1)) ∧ (decode cX10_rightsKept 35 = .ok (.iconst 1, 1)) ∧ (decode cX10_rightsKept 36 = .ok (.aload_n 0, 1)) ∧ (decode cX10_rightsKept 37 = .ok (.getfield 28, 3)) ∧ (decode cX10_rightsKept 40 = .ok (.bipush 6, 2)) ∧ (decode cX10_rightsKept 42 = .ok (.iload_n 1, 1)) ∧ (decode cX10_rightsKept 43 = .ok (.iadd, 1)) ∧ (decode cX10_rightsKept 44 = .ok (.iaload, 1)) ∧ (decode cX10_rightsKept 45 = .ok (.isub, 1)) ∧ (decode cX10_rightsKept 46 = .ok (.iastore, 1)) ∧ (decode cX10_rightsKept 47 = .ok (.aload_n 0, 1)) ∧ (decode cX10_rightsKept 48 = .ok (.getfield 28, 3)) := by decide +kernel
theorem dX10_rightsKept_27 : decode cX10_rightsKept 27 = .ok (.aload_n 0, 1) := da9_dX10_rightsKept_27.1
theorem dX10_rightsKept_28 : decode cX10_rightsKept 28 = .ok (.getfield 28, 3) := da9_dX10_rightsKept_27.2.1
theorem dX10_rightsKept_31 : decode cX10_rightsKept 31 = .ok (.bipush 6, 2) := da9_dX10_rightsKept_27.2.2.1
theorem dX10_rightsKept_33 : decode cX10_rightsKept 33 = .ok (.iload_n 1, 1) := da9_dX10_rightsKept_27.2.2.2.1
theorem dX10_rightsKept_34 : decode cX10_rightsKept 34 = .ok (.iadd, 1) := da9_dX10_rightsKept_27.2.2.2.2.1
theorem dX10_rightsKept_35 : decode cX10_rightsKept 35 = .ok (.iconst 1, 1) := da9_dX10_rightsKept_27.2.2.2.2.2.1
theorem dX10_rightsKept_36 : decode cX10_rightsKept 36 = .ok (.aload_n 0, 1) := da9_dX10_rightsKept_27.2.2.2.2.2.2.1
theorem dX10_rightsKept_37 : decode cX10_rightsKept 37 = .ok (.getfield 28, 3) := da9_dX10_rightsKept_27.2.2.2.2.2.2.2.1
theorem dX10_rightsKept_40 : decode cX10_rightsKept 40 = .ok (.bipush 6, 2) := da9_dX10_rightsKept_27.2.2.2.2.2.2.2.2.1
theorem dX10_rightsKept_42 : decode cX10_rightsKept 42 = .ok (.iload_n 1, 1) := da9_dX10_rightsKept_27.2.2.2.2.2.2.2.2.2.1
theorem dX10_rightsKept_43 : decode cX10_rightsKept 43 = .ok (.iadd, 1) := da9_dX10_rightsKept_27.2.2.2.2.2.2.2.2.2.2.1
theorem dX10_rightsKept_44 : decode cX10_rightsKept 44 = .ok (.iaload, 1) := da9_dX10_rightsKept_27.2.2.2.2.2.2.2.2.2.2.2.1
theorem dX10_rightsKept_45 : decode cX10_rightsKept 45 = .ok (.isub, 1) := da9_dX10_rightsKept_27.2.2.2.2.2.2.2.2.2.2.2.2.1
theorem dX10_rightsKept_46 : decode cX10_rightsKept 46 = .ok (.iastore, 1) := da9_dX10_rightsKept_27.2.2.2.2.2.2.2.2.2.2.2.2.2.1
theorem dX10_rightsKept_47 : decode cX10_rightsKept 47 = .ok (.aload_n 0, 1) := da9_dX10_rightsKept_27.2.2.2.2.2.2.2.2.2.2.2.2.2.2.1
theorem dX10_rightsKept_48 : decode cX10_rightsKept 48 = .ok (.getfield 28, 3) := da9_dX10_rightsKept_27.2.2.2.2.2.2.2.2.2.2.2.2.2.2.2
theorem da9_dX10_rightsKept_51 : (decode cX10_rightsKept 51 = .ok (.bipush 6, 2)) ∧ (decode cX10_rightsKept 53 = .ok (.iload_n 1, 1)) ∧ (decode cX10_rightsKept 54 = .ok (.iadd, 1)) ∧ (decode cX10_rightsKept 55 = .ok (.iaload, 1)) ∧ (decode cX10_rightsKept 56 = .ok (.ireturn, 1)) := by decide +kernel
theorem dX10_rightsKept_51 : decode cX10_rightsKept 51 = .ok (.bipush 6, 2) := da9_dX10_rightsKept_51.1
theorem dX10_rightsKept_53 : decode cX10_rightsKept 53 = .ok (.iload_n 1, 1) := da9_dX10_rightsKept_51.2.1
theorem dX10_rightsKept_54 : decode cX10_rightsKept 54 = .ok (.iadd, 1) := da9_dX10_rightsKept_51.2.2.1
theorem dX10_rightsKept_55 : decode cX10_rightsKept 55 = .ok (.iaload, 1) := da9_dX10_rightsKept_51.2.2.2.1
theorem dX10_rightsKept_56 : decode cX10_rightsKept 56 = .ok (.ireturn, 1) := da9_dX10_rightsKept_51.2.2.2.2
set_option maxRecDepth 20000 in
theorem ggX10_swapsKept_X10_lies : GoodIn wsX10_swapsKept wsX10_lies := wd_c vW10_ok mvW10_6
set_option maxRecDepth 20000 in
theorem gX10_swapsKept_X10_lies : GoodIn wsX10_swapsKept (va_wsS RX10 18 yX10_lies wsX10_lies) := goodIn_app (wd_l vW10_ok _ pvW10_141) ggX10_swapsKept_X10_lies
set_option maxRecDepth 20000 in
theorem ggX10_swapsKept_X10_isPlace : GoodIn wsX10_swapsKept wsX10_isPlace := wd_c vW10_ok mvW10_41
set_option maxRecDepth 20000 in
theorem gX10_swapsKept_X10_isPlace : GoodIn wsX10_swapsKept (wsV RX10 143 RX10 yX10_isPlace wsX10_isPlace) := goodIn_app (wd_l vW10_ok _ pvW10_149) ggX10_swapsKept_X10_isPlace
set_option maxRecDepth 20000 in
theorem ggX10_swapsKept_X10_keeps : GoodIn wsX10_swapsKept wsX10_keeps := wd_c vW10_ok mvW10_285
set_option maxRecDepth 20000 in
theorem gX10_swapsKept_X10_keeps : GoodIn wsX10_swapsKept (wsV RX10 356 RX10 yX10_keeps wsX10_keeps) := goodIn_app (wd_l vW10_ok _ pvW10_199) ggX10_swapsKept_X10_keeps
set_option maxRecDepth 20000 in
theorem ggX10_swapsKept_X10_exchanges : GoodIn wsX10_swapsKept wsX10_exchanges := wd_c vW10_ok mvW10_293
set_option maxRecDepth 20000 in
theorem gX10_swapsKept_X10_exchanges : GoodIn wsX10_swapsKept (wsV RX10 347 RX10 yX10_exchanges wsX10_exchanges) := goodIn_app (wd_l vW10_ok _ pvW10_196) ggX10_swapsKept_X10_exchanges
theorem da9_dX10_swapsKept_0 : (decode cX10_swapsKept 0 = .ok (.iload_n 1, 1)) ∧ (decode cX10_swapsKept 1 = .ok (.iconst 0, 1)) ∧ (decode cX10_swapsKept 2 = .ok (.iconst 4, 1)) ∧ (decode cX10_swapsKept 3 = .ok (.invokestatic 18, 3)) ∧ (decode cX10_swapsKept 6 = .ok (.ifCond .ne 5, 3)) ∧ (decode cX10_swapsKept 9 = .ok (.iconst (-1), 1)) ∧ (decode cX10_swapsKept 10 = .ok (.ireturn, 1)) ∧ (decode cX10_swapsKept 11 = .ok (.aload_n 0, 1)) ∧ (decode cX10_swapsKept 12 = .ok (.iload_n 1, 1)) ∧ (decode cX10_swapsKept 13 = .ok (.iconst 1, 1)) ∧ (decode cX10_swapsKept 14 = .ok (.iadd, 1)) ∧ (decode cX10_swapsKept 15 = .ok (.invokevirtual 143, 3)) ∧ (decode cX10_swapsKept 18 = .ok (.ifCond .ne 6, 3)) ∧ (decode cX10_swapsKept 21 = .ok (.bipush (-3), 2)) ∧ (decode cX10_swapsKept 23 = .ok (.ireturn, 1)) ∧ (decode cX10_swapsKept 24 = .ok (.aload_n 0, 1)) := by decide +kernel
theorem dX10_swapsKept_0 : decode cX10_swapsKept 0 = .ok (.iload_n 1, 1) := da9_dX10_swapsKept_0.1
theorem dX10_swapsKept_1 : decode cX10_swapsKept 1 = .ok (.iconst 0, 1) := da9_dX10_swapsKept_0.2.1
theorem dX10_swapsKept_2 : decode cX10_swapsKept 2 = .ok (.iconst 4, 1) := da9_dX10_swapsKept_0.2.2.1
theorem dX10_swapsKept_3 : decode cX10_swapsKept 3 = .ok (.invokestatic 18, 3) := da9_dX10_swapsKept_0.2.2.2.1
theorem dX10_swapsKept_6 : decode cX10_swapsKept 6 = .ok (.ifCond .ne 5, 3) := da9_dX10_swapsKept_0.2.2.2.2.1
theorem dX10_swapsKept_9 : decode cX10_swapsKept 9 = .ok (.iconst (-1), 1) := da9_dX10_swapsKept_0.2.2.2.2.2.1
theorem dX10_swapsKept_10 : decode cX10_swapsKept 10 = .ok (.ireturn, 1) := da9_dX10_swapsKept_0.2.2.2.2.2.2.1
theorem dX10_swapsKept_11 : decode cX10_swapsKept 11 = .ok (.aload_n 0, 1) := da9_dX10_swapsKept_0.2.2.2.2.2.2.2.1
theorem dX10_swapsKept_12 : decode cX10_swapsKept 12 = .ok (.iload_n 1, 1) := da9_dX10_swapsKept_0.2.2.2.2.2.2.2.2.1
theorem dX10_swapsKept_13 : decode cX10_swapsKept 13 = .ok (.iconst 1, 1) := da9_dX10_swapsKept_0.2.2.2.2.2.2.2.2.2.1
theorem dX10_swapsKept_14 : decode cX10_swapsKept 14 = .ok (.iadd, 1) := da9_dX10_swapsKept_0.2.2.2.2.2.2.2.2.2.2.1
theorem dX10_swapsKept_15 : decode cX10_swapsKept 15 = .ok (.invokevirtual 143, 3) := da9_dX10_swapsKept_0.2.2.2.2.2.2.2.2.2.2.2.1
theorem dX10_swapsKept_18 : decode cX10_swapsKept 18 = .ok (.ifCond .ne 6, 3) := da9_dX10_swapsKept_0.2.2.2.2.2.2.2.2.2.2.2.2.1
theorem dX10_swapsKept_21 : decode cX10_swapsKept 21 = .ok (.bipush (-3), 2) := da9_dX10_swapsKept_0.2.2.2.2.2.2.2.2.2.2.2.2.2.1
theorem dX10_swapsKept_23 : decode cX10_swapsKept 23 = .ok (.ireturn, 1) := da9_dX10_swapsKept_0.2.2.2.2.2.2.2.2.2.2.2.2.2.2.1
theorem dX10_swapsKept_24 : decode cX10_swapsKept 24 = .ok (.aload_n 0, 1) := da9_dX10_swapsKept_0.2.2.2.2.2.2.2.2.2.2.2.2.2.2.2
theorem da9_dX10_swapsKept_25 : (decode cX10_swapsKept 25 = .ok (.iconst 2, 1)) ∧ (decode cX10_swapsKept 26 = .ok (.invokevirtual 356, 3)) ∧ (decode cX10_swapsKept 29 = .ok (.aload_n 0, 1)) ∧ (decode cX10_swapsKept 30 = .ok (.iload_n 1, 1)) ∧ (decode cX10_swapsKept 31 = .ok (.iload_n 1, 1)) ∧ (decode cX10_swapsKept 32 = .ok (.iconst 1, 1)) ∧ (decode cX10_swapsKept 33 = .ok (.iadd, 1)) ∧ (decode cX10_swapsKept 34 = .ok (.invokevirtual 347, 3)) ∧ (decode cX10_swapsKept 37 = .ok (.aload_n 0, 1)) ∧ (decode cX10_swapsKept 38 = .ok (.getfield 28, 3)) ∧ (decode cX10_swapsKept 41 = .ok (.iconst 0, 1)) ∧ (decode cX10_swapsKept 42 = .ok (.iload_n 1, 1)) ∧ (decode cX10_swapsKept 43 = .ok (.iadd, 1)) ∧ (decode cX10_swapsKept 44 = .ok (.iaload, 1)) ∧ (decode cX10_swapsKept 45 = .ok (.ireturn, 1)) := by decide +kernel
theorem dX10_swapsKept_25 : decode cX10_swapsKept 25 = .ok (.iconst 2, 1) := da9_dX10_swapsKept_25.1
theorem dX10_swapsKept_26 : decode cX10_swapsKept 26 = .ok (.invokevirtual 356, 3) := da9_dX10_swapsKept_25.2.1
theorem dX10_swapsKept_29 : decode cX10_swapsKept 29 = .ok (.aload_n 0, 1) := da9_dX10_swapsKept_25.2.2.1
theorem dX10_swapsKept_30 : decode cX10_swapsKept 30 = .ok (.iload_n 1, 1) := da9_dX10_swapsKept_25.2.2.2.1
theorem dX10_swapsKept_31 : decode cX10_swapsKept 31 = .ok (.iload_n 1, 1) := da9_dX10_swapsKept_25.2.2.2.2.1
theorem dX10_swapsKept_32 : decode cX10_swapsKept 32 = .ok (.iconst 1, 1) := da9_dX10_swapsKept_25.2.2.2.2.2.1
theorem dX10_swapsKept_33 : decode cX10_swapsKept 33 = .ok (.iadd, 1) := da9_dX10_swapsKept_25.2.2.2.2.2.2.1
theorem dX10_swapsKept_34 : decode cX10_swapsKept 34 = .ok (.invokevirtual 347, 3) := da9_dX10_swapsKept_25.2.2.2.2.2.2.2.1
theorem dX10_swapsKept_37 : decode cX10_swapsKept 37 = .ok (.aload_n 0, 1) := da9_dX10_swapsKept_25.2.2.2.2.2.2.2.2.1
theorem dX10_swapsKept_38 : decode cX10_swapsKept 38 = .ok (.getfield 28, 3) := da9_dX10_swapsKept_25.2.2.2.2.2.2.2.2.2.1
theorem dX10_swapsKept_41 : decode cX10_swapsKept 41 = .ok (.iconst 0, 1) := da9_dX10_swapsKept_25.2.2.2.2.2.2.2.2.2.2.1
theorem dX10_swapsKept_42 : decode cX10_swapsKept 42 = .ok (.iload_n 1, 1) := da9_dX10_swapsKept_25.2.2.2.2.2.2.2.2.2.2.2.1
theorem dX10_swapsKept_43 : decode cX10_swapsKept 43 = .ok (.iadd, 1) := da9_dX10_swapsKept_25.2.2.2.2.2.2.2.2.2.2.2.2.1
theorem dX10_swapsKept_44 : decode cX10_swapsKept 44 = .ok (.iaload, 1) := da9_dX10_swapsKept_25.2.2.2.2.2.2.2.2.2.2.2.2.2.1
theorem dX10_swapsKept_45 : decode cX10_swapsKept 45 = .ok (.ireturn, 1) := da9_dX10_swapsKept_25.2.2.2.2.2.2.2.2.2.2.2.2.2.2
set_option maxRecDepth 20000 in
theorem ggX10_passesKept_X10_keeps : GoodIn wsX10_passesKept wsX10_keeps := wd_c vW10_ok mvW10_285
set_option maxRecDepth 20000 in
theorem gX10_passesKept_X10_keeps : GoodIn wsX10_passesKept (wsV RX10 356 RX10 yX10_keeps wsX10_keeps) := goodIn_app (wd_l vW10_ok _ pvW10_199) ggX10_passesKept_X10_keeps
set_option maxRecDepth 20000 in
theorem ggX10_passesKept_X10_yearPasses : GoodIn wsX10_passesKept wsX10_yearPasses := wd_c vW10_ok mvW10_301
set_option maxRecDepth 20000 in
theorem gX10_passesKept_X10_yearPasses : GoodIn wsX10_passesKept (wsV RX10 362 RX10 yX10_yearPasses wsX10_yearPasses) := goodIn_app (wd_l vW10_ok _ pvW10_201) ggX10_passesKept_X10_yearPasses
theorem da9_dX10_passesKept_0 : (decode cX10_passesKept 0 = .ok (.aload_n 0, 1)) ∧ (decode cX10_passesKept 1 = .ok (.getfield 28, 3)) ∧ (decode cX10_passesKept 4 = .ok (.bipush 13, 2)) ∧ (decode cX10_passesKept 6 = .ok (.iaload, 1)) ∧ (decode cX10_passesKept 7 = .ok (.sipush 999, 3)) ∧ (decode cX10_passesKept 10 = .ok (.if_icmp .ne 6, 3)) ∧ (decode cX10_passesKept 13 = .ok (.bipush (-3), 2)) ∧ (decode cX10_passesKept 15 = .ok (.ireturn, 1)) ∧ (decode cX10_passesKept 16 = .ok (.aload_n 0, 1)) ∧ (decode cX10_passesKept 17 = .ok (.iconst 3, 1)) ∧ (decode cX10_passesKept 18 = .ok (.invokevirtual 356, 3)) ∧ (decode cX10_passesKept 21 = .ok (.aload_n 0, 1)) ∧ (decode cX10_passesKept 22 = .ok (.invokevirtual 362, 3)) ∧ (decode cX10_passesKept 25 = .ok (.ireturn, 1)) := by decide +kernel
theorem dX10_passesKept_0 : decode cX10_passesKept 0 = .ok (.aload_n 0, 1) := da9_dX10_passesKept_0.1
theorem dX10_passesKept_1 : decode cX10_passesKept 1 = .ok (.getfield 28, 3) := da9_dX10_passesKept_0.2.1
theorem dX10_passesKept_4 : decode cX10_passesKept 4 = .ok (.bipush 13, 2) := da9_dX10_passesKept_0.2.2.1
theorem dX10_passesKept_6 : decode cX10_passesKept 6 = .ok (.iaload, 1) := da9_dX10_passesKept_0.2.2.2.1
theorem dX10_passesKept_7 : decode cX10_passesKept 7 = .ok (.sipush 999, 3) := da9_dX10_passesKept_0.2.2.2.2.1
theorem dX10_passesKept_10 : decode cX10_passesKept 10 = .ok (.if_icmp .ne 6, 3) := da9_dX10_passesKept_0.2.2.2.2.2.1
theorem dX10_passesKept_13 : decode cX10_passesKept 13 = .ok (.bipush (-3), 2) := da9_dX10_passesKept_0.2.2.2.2.2.2.1
theorem dX10_passesKept_15 : decode cX10_passesKept 15 = .ok (.ireturn, 1) := da9_dX10_passesKept_0.2.2.2.2.2.2.2.1
theorem dX10_passesKept_16 : decode cX10_passesKept 16 = .ok (.aload_n 0, 1) := da9_dX10_passesKept_0.2.2.2.2.2.2.2.2.1
theorem dX10_passesKept_17 : decode cX10_passesKept 17 = .ok (.iconst 3, 1) := da9_dX10_passesKept_0.2.2.2.2.2.2.2.2.2.1
theorem dX10_passesKept_18 : decode cX10_passesKept 18 = .ok (.invokevirtual 356, 3) := da9_dX10_passesKept_0.2.2.2.2.2.2.2.2.2.2.1
theorem dX10_passesKept_21 : decode cX10_passesKept 21 = .ok (.aload_n 0, 1) := da9_dX10_passesKept_0.2.2.2.2.2.2.2.2.2.2.2.1
theorem dX10_passesKept_22 : decode cX10_passesKept 22 = .ok (.invokevirtual 362, 3) := da9_dX10_passesKept_0.2.2.2.2.2.2.2.2.2.2.2.2.1
theorem dX10_passesKept_25 : decode cX10_passesKept 25 = .ok (.ireturn, 1) := da9_dX10_passesKept_0.2.2.2.2.2.2.2.2.2.2.2.2.2
set_option maxRecDepth 20000 in
theorem ggX10_turn_X10_turnsKept : GoodIn wsX10_turn wsX10_turnsKept := wd_c vW10_ok mvW10_306
set_option maxRecDepth 20000 in
theorem gX10_turn_X10_turnsKept : GoodIn wsX10_turn (wsV RX10 365 RX10 yX10_turnsKept wsX10_turnsKept) := goodIn_app (wd_l vW10_ok _ pvW10_202) ggX10_turn_X10_turnsKept
set_option maxRecDepth 20000 in
theorem ggX10_turn_X10_goodOr : GoodIn wsX10_turn wsX10_goodOr := wd_c vW10_ok mvW10_329
set_option maxRecDepth 20000 in
theorem gX10_turn_X10_goodOr : GoodIn wsX10_turn (wsV RX10 368 RX10 yX10_goodOr wsX10_goodOr) := goodIn_app (wd_l vW10_ok _ pvW10_203) ggX10_turn_X10_goodOr
theorem da9_dX10_turn_0 : (decode cX10_turn 0 = .ok (.aload_n 0, 1)) ∧ (decode cX10_turn 1 = .ok (.aload_n 0, 1)) ∧ (decode cX10_turn 2 = .ok (.iload_n 1, 1)) ∧ (decode cX10_turn 3 = .ok (.invokevirtual 365, 3)) ∧ (decode cX10_turn 6 = .ok (.invokevirtual 368, 3)) ∧ (decode cX10_turn 9 = .ok (.ireturn, 1)) := by decide +kernel
theorem dX10_turn_0 : decode cX10_turn 0 = .ok (.aload_n 0, 1) := da9_dX10_turn_0.1
theorem dX10_turn_1 : decode cX10_turn 1 = .ok (.aload_n 0, 1) := da9_dX10_turn_0.2.1
theorem dX10_turn_2 : decode cX10_turn 2 = .ok (.iload_n 1, 1) := da9_dX10_turn_0.2.2.1
theorem dX10_turn_3 : decode cX10_turn 3 = .ok (.invokevirtual 365, 3) := da9_dX10_turn_0.2.2.2.1
theorem dX10_turn_6 : decode cX10_turn 6 = .ok (.invokevirtual 368, 3) := da9_dX10_turn_0.2.2.2.2.1
theorem dX10_turn_9 : decode cX10_turn 9 = .ok (.ireturn, 1) := da9_dX10_turn_0.2.2.2.2.2
set_option maxRecDepth 20000 in
theorem ggX10_right_X10_rightsKept : GoodIn wsX10_right wsX10_rightsKept := wd_c vW10_ok mvW10_281
set_option maxRecDepth 20000 in
theorem gX10_right_X10_rightsKept : GoodIn wsX10_right (wsV RX10 371 RX10 yX10_rightsKept wsX10_rightsKept) := goodIn_app (wd_l vW10_ok _ pvW10_204) ggX10_right_X10_rightsKept
set_option maxRecDepth 20000 in
theorem ggX10_right_X10_goodOr : GoodIn wsX10_right wsX10_goodOr := wd_c vW10_ok mvW10_329
set_option maxRecDepth 20000 in
theorem gX10_right_X10_goodOr : GoodIn wsX10_right (wsV RX10 368 RX10 yX10_goodOr wsX10_goodOr) := goodIn_app (wd_l vW10_ok _ pvW10_203) ggX10_right_X10_goodOr
theorem da9_dX10_right_0 : (decode cX10_right 0 = .ok (.aload_n 0, 1)) ∧ (decode cX10_right 1 = .ok (.aload_n 0, 1)) ∧ (decode cX10_right 2 = .ok (.iload_n 1, 1)) ∧ (decode cX10_right 3 = .ok (.invokevirtual 371, 3)) ∧ (decode cX10_right 6 = .ok (.invokevirtual 368, 3)) ∧ (decode cX10_right 9 = .ok (.ireturn, 1)) := by decide +kernel
theorem dX10_right_0 : decode cX10_right 0 = .ok (.aload_n 0, 1) := da9_dX10_right_0.1
theorem dX10_right_1 : decode cX10_right 1 = .ok (.aload_n 0, 1) := da9_dX10_right_0.2.1
theorem dX10_right_2 : decode cX10_right 2 = .ok (.iload_n 1, 1) := da9_dX10_right_0.2.2.1
theorem dX10_right_3 : decode cX10_right 3 = .ok (.invokevirtual 371, 3) := da9_dX10_right_0.2.2.2.1
theorem dX10_right_6 : decode cX10_right 6 = .ok (.invokevirtual 368, 3) := da9_dX10_right_0.2.2.2.2.1
theorem dX10_right_9 : decode cX10_right 9 = .ok (.ireturn, 1) := da9_dX10_right_0.2.2.2.2.2
set_option maxRecDepth 20000 in
theorem ggX10_swap_X10_swapsKept : GoodIn wsX10_swap wsX10_swapsKept := wd_c vW10_ok mvW10_289
set_option maxRecDepth 20000 in
theorem gX10_swap_X10_swapsKept : GoodIn wsX10_swap (wsV RX10 374 RX10 yX10_swapsKept wsX10_swapsKept) := goodIn_app (wd_l vW10_ok _ pvW10_205) ggX10_swap_X10_swapsKept
set_option maxRecDepth 20000 in
theorem ggX10_swap_X10_goodOr : GoodIn wsX10_swap wsX10_goodOr := wd_c vW10_ok mvW10_329
set_option maxRecDepth 20000 in
theorem gX10_swap_X10_goodOr : GoodIn wsX10_swap (wsV RX10 368 RX10 yX10_goodOr wsX10_goodOr) := goodIn_app (wd_l vW10_ok _ pvW10_203) ggX10_swap_X10_goodOr
theorem da9_dX10_swap_0 : (decode cX10_swap 0 = .ok (.aload_n 0, 1)) ∧ (decode cX10_swap 1 = .ok (.aload_n 0, 1)) ∧ (decode cX10_swap 2 = .ok (.iload_n 1, 1)) ∧ (decode cX10_swap 3 = .ok (.invokevirtual 374, 3)) ∧ (decode cX10_swap 6 = .ok (.invokevirtual 368, 3)) ∧ (decode cX10_swap 9 = .ok (.ireturn, 1)) := by decide +kernel
theorem dX10_swap_0 : decode cX10_swap 0 = .ok (.aload_n 0, 1) := da9_dX10_swap_0.1
theorem dX10_swap_1 : decode cX10_swap 1 = .ok (.aload_n 0, 1) := da9_dX10_swap_0.2.1
theorem dX10_swap_2 : decode cX10_swap 2 = .ok (.iload_n 1, 1) := da9_dX10_swap_0.2.2.1
theorem dX10_swap_3 : decode cX10_swap 3 = .ok (.invokevirtual 374, 3) := da9_dX10_swap_0.2.2.2.1
theorem dX10_swap_6 : decode cX10_swap 6 = .ok (.invokevirtual 368, 3) := da9_dX10_swap_0.2.2.2.2.1
theorem dX10_swap_9 : decode cX10_swap 9 = .ok (.ireturn, 1) := da9_dX10_swap_0.2.2.2.2.2
set_option maxRecDepth 20000 in
theorem ggX10_pass_X10_passesKept : GoodIn wsX10_pass wsX10_passesKept := wd_c vW10_ok mvW10_297
set_option maxRecDepth 20000 in
theorem gX10_pass_X10_passesKept : GoodIn wsX10_pass (wsV RX10 377 RX10 yX10_passesKept wsX10_passesKept) := goodIn_app (wd_l vW10_ok _ pvW10_206) ggX10_pass_X10_passesKept
set_option maxRecDepth 20000 in
theorem ggX10_pass_X10_goodOr : GoodIn wsX10_pass wsX10_goodOr := wd_c vW10_ok mvW10_329
set_option maxRecDepth 20000 in
theorem gX10_pass_X10_goodOr : GoodIn wsX10_pass (wsV RX10 368 RX10 yX10_goodOr wsX10_goodOr) := goodIn_app (wd_l vW10_ok _ pvW10_203) ggX10_pass_X10_goodOr
theorem da9_dX10_pass_0 : (decode cX10_pass 0 = .ok (.aload_n 0, 1)) ∧ (decode cX10_pass 1 = .ok (.aload_n 0, 1)) ∧ (decode cX10_pass 2 = .ok (.invokevirtual 377, 3)) ∧ (decode cX10_pass 5 = .ok (.invokevirtual 368, 3)) ∧ (decode cX10_pass 8 = .ok (.ireturn, 1)) := by decide +kernel
theorem dX10_pass_0 : decode cX10_pass 0 = .ok (.aload_n 0, 1) := da9_dX10_pass_0.1
theorem dX10_pass_1 : decode cX10_pass 1 = .ok (.aload_n 0, 1) := da9_dX10_pass_0.2.1
theorem dX10_pass_2 : decode cX10_pass 2 = .ok (.invokevirtual 377, 3) := da9_dX10_pass_0.2.2.1
theorem dX10_pass_5 : decode cX10_pass 5 = .ok (.invokevirtual 368, 3) := da9_dX10_pass_0.2.2.2.1
theorem dX10_pass_8 : decode cX10_pass 8 = .ok (.ireturn, 1) := da9_dX10_pass_0.2.2.2.2
theorem da9_dX10_allOrders_0 : (decode cX10_allOrders 0 = .ok (.iconst 1, 1)) ∧ (decode cX10_allOrders 1 = .ok (.istore_n 1, 1)) ∧ (decode cX10_allOrders 2 = .ok (.iconst 2, 1)) ∧ (decode cX10_allOrders 3 = .ok (.istore_n 2, 1)) ∧ (decode cX10_allOrders 4 = .ok (.iload_n 2, 1)) ∧ (decode cX10_allOrders 5 = .ok (.iload_n 0, 1)) ∧ (decode cX10_allOrders 6 = .ok (.if_icmp .gt 13, 3)) ∧ (decode cX10_allOrders 9 = .ok (.iload_n 1, 1)) ∧ (decode cX10_allOrders 10 = .ok (.iload_n 2, 1)) ∧ (decode cX10_allOrders 11 = .ok (.imul, 1)) ∧ (decode cX10_allOrders 12 = .ok (.istore_n 1, 1)) ∧ (decode cX10_allOrders 13 = .ok (.iinc 2 1, 3)) ∧ (decode cX10_allOrders 16 = .ok (.goto (-12), 3)) ∧ (decode cX10_allOrders 19 = .ok (.iload_n 1, 1)) ∧ (decode cX10_allOrders 20 = .ok (.ireturn, 1)) := by decide +kernel
theorem dX10_allOrders_0 : decode cX10_allOrders 0 = .ok (.iconst 1, 1) := da9_dX10_allOrders_0.1
theorem dX10_allOrders_1 : decode cX10_allOrders 1 = .ok (.istore_n 1, 1) := da9_dX10_allOrders_0.2.1
theorem dX10_allOrders_2 : decode cX10_allOrders 2 = .ok (.iconst 2, 1) := da9_dX10_allOrders_0.2.2.1
theorem dX10_allOrders_3 : decode cX10_allOrders 3 = .ok (.istore_n 2, 1) := da9_dX10_allOrders_0.2.2.2.1
theorem dX10_allOrders_4 : decode cX10_allOrders 4 = .ok (.iload_n 2, 1) := da9_dX10_allOrders_0.2.2.2.2.1
theorem dX10_allOrders_5 : decode cX10_allOrders 5 = .ok (.iload_n 0, 1) := da9_dX10_allOrders_0.2.2.2.2.2.1
theorem dX10_allOrders_6 : decode cX10_allOrders 6 = .ok (.if_icmp .gt 13, 3) := da9_dX10_allOrders_0.2.2.2.2.2.2.1
theorem dX10_allOrders_9 : decode cX10_allOrders 9 = .ok (.iload_n 1, 1) := da9_dX10_allOrders_0.2.2.2.2.2.2.2.1
theorem dX10_allOrders_10 : decode cX10_allOrders 10 = .ok (.iload_n 2, 1) := da9_dX10_allOrders_0.2.2.2.2.2.2.2.2.1
theorem dX10_allOrders_11 : decode cX10_allOrders 11 = .ok (.imul, 1) := da9_dX10_allOrders_0.2.2.2.2.2.2.2.2.2.1
theorem dX10_allOrders_12 : decode cX10_allOrders 12 = .ok (.istore_n 1, 1) := da9_dX10_allOrders_0.2.2.2.2.2.2.2.2.2.2.1
theorem dX10_allOrders_13 : decode cX10_allOrders 13 = .ok (.iinc 2 1, 3) := da9_dX10_allOrders_0.2.2.2.2.2.2.2.2.2.2.2.1
theorem dX10_allOrders_16 : decode cX10_allOrders 16 = .ok (.goto (-12), 3) := da9_dX10_allOrders_0.2.2.2.2.2.2.2.2.2.2.2.2.1
theorem dX10_allOrders_19 : decode cX10_allOrders 19 = .ok (.iload_n 1, 1) := da9_dX10_allOrders_0.2.2.2.2.2.2.2.2.2.2.2.2.2.1
theorem dX10_allOrders_20 : decode cX10_allOrders 20 = .ok (.ireturn, 1) := da9_dX10_allOrders_0.2.2.2.2.2.2.2.2.2.2.2.2.2.2
end
