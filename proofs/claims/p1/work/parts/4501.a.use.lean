set_option maxRecDepth 20000 in
theorem ggX10_row_X10_refuses : GoodIn wsX10_row wsX10_refuses := goodIn_r _ [8, 9, 10, 42, 43, 44, 45, 46, 47, 48, 49, 50, 51, 52, 53, 54, 55, 56, 57, 58, 59, 60, 61, 62, 63, 64, 65, 66, 67, 68, 69, 70, 71, 72, 73, 74, 75, 76, 77, 78, 79, 80, 81, 82, 83, 84, 85, 86, 87, 88, 89, 90, 91, 92, 93, 94, 95, 96, 97] (by decide +kernel) (by decide +kernel)
set_option maxRecDepth 20000 in
theorem gX10_row_X10_refuses : GoodIn wsX10_row (wsV RX10 119 RX10 yX10_refuses wsX10_refuses) := goodIn_app (goodIn_of _ (by decide +kernel)) ggX10_row_X10_refuses
theorem dX10_row_0 : decode cX10_row 0 = .ok (.aload_n 0, 1) := by decide +kernel
theorem dX10_row_1 : decode cX10_row 1 = .ok (.getfield 169, 3) := by decide +kernel
theorem dX10_row_4 : decode cX10_row 4 = .ok (.istore_n 1, 1) := by decide +kernel
theorem dX10_row_5 : decode cX10_row 5 = .ok (.aload_n 0, 1) := by decide +kernel
theorem dX10_row_6 : decode cX10_row 6 = .ok (.iconst 0, 1) := by decide +kernel
theorem dX10_row_7 : decode cX10_row 7 = .ok (.putfield 169, 3) := by decide +kernel
theorem dX10_row_10 : decode cX10_row 10 = .ok (.iload_n 1, 1) := by decide +kernel
theorem dX10_row_11 : decode cX10_row 11 = .ok (.ifCond .ne 10, 3) := by decide +kernel
theorem dX10_row_14 : decode cX10_row 14 = .ok (.aload_n 0, 1) := by decide +kernel
theorem dX10_row_15 : decode cX10_row 15 = .ok (.bipush (-6), 2) := by decide +kernel
theorem dX10_row_17 : decode cX10_row 17 = .ok (.invokevirtual 119, 3) := by decide +kernel
theorem dX10_row_20 : decode cX10_row 20 = .ok (.ireturn, 1) := by decide +kernel
theorem dX10_bricks_0 : decode cX10_bricks 0 = .ok (.aload_n 0, 1) := by decide +kernel
theorem dX10_bricks_1 : decode cX10_bricks 1 = .ok (.getfield 172, 3) := by decide +kernel
theorem dX10_bricks_4 : decode cX10_bricks 4 = .ok (.ireturn, 1) := by decide +kernel
set_option maxRecDepth 20000 in
theorem ggX10_end_X10_lies : GoodIn wsX10_end wsX10_lies := goodIn_r _ [5] (by decide +kernel) (by decide +kernel)
set_option maxRecDepth 20000 in
theorem gX10_end_X10_lies : GoodIn wsX10_end (va_wsS RX10 18 yX10_lies wsX10_lies) := goodIn_app (goodIn_of _ (by decide +kernel)) ggX10_end_X10_lies
theorem dX10_end_0 : decode cX10_end 0 = .ok (.iload_n 1, 1) := by decide +kernel
theorem dX10_end_1 : decode cX10_end 1 = .ok (.iconst 0, 1) := by decide +kernel
theorem dX10_end_2 : decode cX10_end 2 = .ok (.aload_n 0, 1) := by decide +kernel
theorem dX10_end_3 : decode cX10_end 3 = .ok (.getfield 169, 3) := by decide +kernel
theorem dX10_end_6 : decode cX10_end 6 = .ok (.invokestatic 18, 3) := by decide +kernel
theorem dX10_end_9 : decode cX10_end 9 = .ok (.ifCond .ne 5, 3) := by decide +kernel
theorem dX10_end_12 : decode cX10_end 12 = .ok (.iconst (-1), 1) := by decide +kernel
theorem dX10_end_13 : decode cX10_end 13 = .ok (.ireturn, 1) := by decide +kernel
theorem dX10_end_14 : decode cX10_end 14 = .ok (.aload_n 0, 1) := by decide +kernel
theorem dX10_end_15 : decode cX10_end 15 = .ok (.iload_n 1, 1) := by decide +kernel
theorem dX10_end_16 : decode cX10_end 16 = .ok (.putfield 169, 3) := by decide +kernel
theorem dX10_end_19 : decode cX10_end 19 = .ok (.iload_n 1, 1) := by decide +kernel
theorem dX10_end_20 : decode cX10_end 20 = .ok (.ireturn, 1) := by decide +kernel
theorem dX10_isSmall_0 : decode cX10_isSmall 0 = .ok (.iload_n 0, 1) := by decide +kernel
theorem dX10_isSmall_1 : decode cX10_isSmall 1 = .ok (.bipush 97, 2) := by decide +kernel
theorem dX10_isSmall_3 : decode cX10_isSmall 3 = .ok (.if_icmp .lt 13, 3) := by decide +kernel
theorem dX10_isSmall_6 : decode cX10_isSmall 6 = .ok (.iload_n 0, 1) := by decide +kernel
theorem dX10_isSmall_7 : decode cX10_isSmall 7 = .ok (.bipush 122, 2) := by decide +kernel
theorem dX10_isSmall_9 : decode cX10_isSmall 9 = .ok (.if_icmp .gt 7, 3) := by decide +kernel
theorem dX10_isSmall_12 : decode cX10_isSmall 12 = .ok (.iconst 1, 1) := by decide +kernel
theorem dX10_isSmall_13 : decode cX10_isSmall 13 = .ok (.goto 4, 3) := by decide +kernel
theorem dX10_isSmall_16 : decode cX10_isSmall 16 = .ok (.iconst 0, 1) := by decide +kernel
theorem dX10_isSmall_17 : decode cX10_isSmall 17 = .ok (.ireturn, 1) := by decide +kernel
theorem dX10_isDigit_0 : decode cX10_isDigit 0 = .ok (.iload_n 0, 1) := by decide +kernel
theorem dX10_isDigit_1 : decode cX10_isDigit 1 = .ok (.bipush 48, 2) := by decide +kernel
theorem dX10_isDigit_3 : decode cX10_isDigit 3 = .ok (.if_icmp .lt 13, 3) := by decide +kernel
theorem dX10_isDigit_6 : decode cX10_isDigit 6 = .ok (.iload_n 0, 1) := by decide +kernel
theorem dX10_isDigit_7 : decode cX10_isDigit 7 = .ok (.bipush 57, 2) := by decide +kernel
theorem dX10_isDigit_9 : decode cX10_isDigit 9 = .ok (.if_icmp .gt 7, 3) := by decide +kernel
theorem dX10_isDigit_12 : decode cX10_isDigit 12 = .ok (.iconst 1, 1) := by decide +kernel
theorem dX10_isDigit_13 : decode cX10_isDigit 13 = .ok (.goto 4, 3) := by decide +kernel
theorem dX10_isDigit_16 : decode cX10_isDigit 16 = .ok (.iconst 0, 1) := by decide +kernel
theorem dX10_isDigit_17 : decode cX10_isDigit 17 = .ok (.ireturn, 1) := by decide +kernel
theorem dX10_splits_0 : decode cX10_splits 0 = .ok (.aload_n 0, 1) := by decide +kernel
theorem dX10_splits_1 : decode cX10_splits 1 = .ok (.iconst 0, 1) := by decide +kernel
theorem dX10_splits_2 : decode cX10_splits 2 = .ok (.putfield 175, 3) := by decide +kernel
theorem dX10_splits_5 : decode cX10_splits 5 = .ok (.iconst 0, 1) := by decide +kernel
theorem dX10_splits_6 : decode cX10_splits 6 = .ok (.istore_n 2, 1) := by decide +kernel
theorem dX10_splits_7 : decode cX10_splits 7 = .ok (.iload_n 2, 1) := by decide +kernel
theorem dX10_splits_8 : decode cX10_splits 8 = .ok (.iload_n 1, 1) := by decide +kernel
theorem dX10_splits_9 : decode cX10_splits 9 = .ok (.if_icmp .ge 254, 3) := by decide +kernel
theorem dX10_splits_263 : decode cX10_splits 263 = .ok (.aload_n 0, 1) := by decide +kernel
theorem dX10_splits_264 : decode cX10_splits 264 = .ok (.getfield 60, 3) := by decide +kernel
theorem dX10_splits_267 : decode cX10_splits 267 = .ok (.aload_n 0, 1) := by decide +kernel
theorem dX10_splits_268 : decode cX10_splits 268 = .ok (.getfield 175, 3) := by decide +kernel
theorem dX10_splits_271 : decode cX10_splits 271 = .ok (.iload_n 1, 1) := by decide +kernel
theorem dX10_splits_272 : decode cX10_splits 272 = .ok (.iastore, 1) := by decide +kernel
theorem dX10_splits_273 : decode cX10_splits 273 = .ok (.aload_n 0, 1) := by decide +kernel
theorem dX10_splits_274 : decode cX10_splits 274 = .ok (.getfield 54, 3) := by decide +kernel
theorem dX10_splits_277 : decode cX10_splits 277 = .ok (.aload_n 0, 1) := by decide +kernel
theorem dX10_splits_278 : decode cX10_splits 278 = .ok (.getfield 175, 3) := by decide +kernel
theorem dX10_splits_281 : decode cX10_splits 281 = .ok (.iconst 0, 1) := by decide +kernel
theorem dX10_splits_282 : decode cX10_splits 282 = .ok (.iastore, 1) := by decide +kernel
theorem dX10_splits_283 : decode cX10_splits 283 = .ok (.aload_n 0, 1) := by decide +kernel
theorem dX10_splits_284 : decode cX10_splits 284 = .ok (.getfield 57, 3) := by decide +kernel
theorem dX10_splits_287 : decode cX10_splits 287 = .ok (.aload_n 0, 1) := by decide +kernel
theorem dX10_splits_288 : decode cX10_splits 288 = .ok (.getfield 175, 3) := by decide +kernel
theorem dX10_splits_291 : decode cX10_splits 291 = .ok (.iconst 0, 1) := by decide +kernel
theorem dX10_splits_292 : decode cX10_splits 292 = .ok (.iastore, 1) := by decide +kernel
theorem dX10_splits_293 : decode cX10_splits 293 = .ok (.return_, 1) := by decide +kernel
theorem dX10_fine_0 : decode cX10_fine 0 = .ok (.aload_n 0, 1) := by decide +kernel
theorem dX10_fine_1 : decode cX10_fine 1 = .ok (.getfield 189, 3) := by decide +kernel
theorem dX10_fine_4 : decode cX10_fine 4 = .ok (.iconst (-1), 1) := by decide +kernel
theorem dX10_fine_5 : decode cX10_fine 5 = .ok (.if_icmp .ne 7, 3) := by decide +kernel
theorem dX10_fine_8 : decode cX10_fine 8 = .ok (.iconst 1, 1) := by decide +kernel
theorem dX10_fine_9 : decode cX10_fine 9 = .ok (.goto 4, 3) := by decide +kernel
theorem dX10_fine_12 : decode cX10_fine 12 = .ok (.iconst 0, 1) := by decide +kernel
theorem dX10_fine_13 : decode cX10_fine 13 = .ok (.ireturn, 1) := by decide +kernel
set_option maxRecDepth 20000 in
theorem ggX10_faults_X10_fine : GoodIn wsX10_faults wsX10_fine := goodIn_r _ [8, 3, 9, 10, 11, 12, 13, 14, 15, 16, 17, 18, 19, 20, 21, 22, 23, 24, 25, 26, 27, 28, 29, 30, 31, 32, 33, 34, 35, 36, 37, 38, 39, 40, 41, 42, 43, 44, 45, 46, 47, 48, 49, 50, 51, 52, 53, 54, 55, 56, 57, 58, 59, 60, 61, 62, 63, 64] (by decide +kernel) (by decide +kernel)
set_option maxRecDepth 20000 in
theorem gX10_faults_X10_fine : GoodIn wsX10_faults (wsV RX10 192 RX10 yX10_fine wsX10_fine) := goodIn_app (goodIn_of _ (by decide +kernel)) ggX10_faults_X10_fine
theorem dX10_faults_0 : decode cX10_faults 0 = .ok (.aload_n 0, 1) := by decide +kernel
theorem dX10_faults_1 : decode cX10_faults 1 = .ok (.invokevirtual 192, 3) := by decide +kernel
theorem dX10_faults_4 : decode cX10_faults 4 = .ok (.ifCond .eq 16, 3) := by decide +kernel
theorem dX10_faults_7 : decode cX10_faults 7 = .ok (.aload_n 0, 1) := by decide +kernel
theorem dX10_faults_8 : decode cX10_faults 8 = .ok (.aload_n 0, 1) := by decide +kernel
theorem dX10_faults_9 : decode cX10_faults 9 = .ok (.getfield 60, 3) := by decide +kernel
theorem dX10_faults_12 : decode cX10_faults 12 = .ok (.aload_n 0, 1) := by decide +kernel
theorem dX10_faults_13 : decode cX10_faults 13 = .ok (.getfield 196, 3) := by decide +kernel
theorem dX10_faults_16 : decode cX10_faults 16 = .ok (.iaload, 1) := by decide +kernel
theorem dX10_faults_17 : decode cX10_faults 17 = .ok (.putfield 189, 3) := by decide +kernel
theorem dX10_faults_20 : decode cX10_faults 20 = .ok (.return_, 1) := by decide +kernel
set_option maxRecDepth 20000 in
theorem ggX10_takes0_X10_fine : GoodIn wsX10_takes0 wsX10_fine := goodIn_r _ [7, 8, 9, 10, 11, 12, 13, 14, 15, 16, 17, 18, 19, 20, 21, 22, 23, 24, 25, 26, 27, 28, 29, 30, 31, 32, 33, 34, 35, 36, 37, 38, 39, 40, 41, 42, 43, 44, 45, 46, 47, 48, 49, 50, 51, 52, 53, 54, 55, 56, 57, 58, 59, 60, 61, 62, 63, 64] (by decide +kernel) (by decide +kernel)
set_option maxRecDepth 20000 in
theorem gX10_takes0_X10_fine : GoodIn wsX10_takes0 (wsV RX10 192 RX10 yX10_fine wsX10_fine) := goodIn_app (goodIn_of _ (by decide +kernel)) ggX10_takes0_X10_fine
theorem dX10_takes0_0 : decode cX10_takes0 0 = .ok (.aload_n 0, 1) := by decide +kernel
theorem dX10_takes0_1 : decode cX10_takes0 1 = .ok (.invokevirtual 192, 3) := by decide +kernel
theorem dX10_takes0_4 : decode cX10_takes0 4 = .ok (.ifCond .eq 20, 3) := by decide +kernel
theorem dX10_takes0_7 : decode cX10_takes0 7 = .ok (.aload_n 0, 1) := by decide +kernel
theorem dX10_takes0_8 : decode cX10_takes0 8 = .ok (.getfield 54, 3) := by decide +kernel
theorem dX10_takes0_11 : decode cX10_takes0 11 = .ok (.aload_n 0, 1) := by decide +kernel
theorem dX10_takes0_12 : decode cX10_takes0 12 = .ok (.getfield 196, 3) := by decide +kernel
theorem dX10_takes0_15 : decode cX10_takes0 15 = .ok (.iaload, 1) := by decide +kernel
theorem dX10_takes0_16 : decode cX10_takes0 16 = .ok (.iload_n 1, 1) := by decide +kernel
theorem dX10_takes0_17 : decode cX10_takes0 17 = .ok (.if_icmp .ne 7, 3) := by decide +kernel
theorem dX10_takes0_24 : decode cX10_takes0 24 = .ok (.iconst 0, 1) := by decide +kernel
theorem dX10_takes0_25 : decode cX10_takes0 25 = .ok (.istore_n 2, 1) := by decide +kernel
theorem dX10_takes0_26 : decode cX10_takes0 26 = .ok (.iload_n 2, 1) := by decide +kernel
theorem dX10_takes0_27 : decode cX10_takes0 27 = .ok (.ifCond .eq 13, 3) := by decide +kernel
theorem dX10_takes0_40 : decode cX10_takes0 40 = .ok (.iload_n 2, 1) := by decide +kernel
theorem dX10_takes0_41 : decode cX10_takes0 41 = .ok (.ireturn, 1) := by decide +kernel
set_option maxRecDepth 20000 in
theorem ggX10_must_X10_takes0 : GoodIn wsX10_must wsX10_takes0 := goodIn_r _ [5, 6, 7, 8, 9, 10, 4, 11, 12, 18, 19, 20, 21, 22, 23, 24, 25, 26, 27, 28, 29, 30, 31, 32, 33, 34, 35, 36, 37, 38, 39, 40, 41, 42, 43, 44, 45, 46, 47, 48, 49, 50, 51, 52, 53, 54, 55, 56, 57, 58, 59, 60, 61, 62, 63, 64, 65, 66, 67, 68, 69, 70, 71, 72, 73] (by decide +kernel) (by decide +kernel)
set_option maxRecDepth 20000 in
theorem gX10_must_X10_takes0 : GoodIn wsX10_must (wsV RX10 199 RX10 yX10_takes0 wsX10_takes0) := goodIn_app (goodIn_of _ (by decide +kernel)) ggX10_must_X10_takes0
set_option maxRecDepth 20000 in
theorem ggX10_must_X10_faults : GoodIn wsX10_must wsX10_faults := goodIn_r _ [16, 17, 7, 12, 8, 9, 10, 4, 11, 18, 19, 20, 21, 22, 23, 24, 25, 26, 27, 28, 29, 30, 31, 32, 33, 34, 35, 36, 37, 38, 39, 40, 41, 42, 43, 44, 45, 46, 47, 48, 49, 50, 51, 52, 53, 54, 55, 56, 57, 58, 59, 60, 61, 62, 63, 64, 65, 66, 67, 68, 69, 70, 71, 72, 73] (by decide +kernel) (by decide +kernel)
set_option maxRecDepth 20000 in
theorem gX10_must_X10_faults : GoodIn wsX10_must (wsV RX10 202 RX10 yX10_faults wsX10_faults) := goodIn_app (goodIn_of _ (by decide +kernel)) ggX10_must_X10_faults
theorem dX10_must_0 : decode cX10_must 0 = .ok (.aload_n 0, 1) := by decide +kernel
theorem dX10_must_1 : decode cX10_must 1 = .ok (.iload_n 1, 1) := by decide +kernel
theorem dX10_must_2 : decode cX10_must 2 = .ok (.invokevirtual 199, 3) := by decide +kernel
theorem dX10_must_5 : decode cX10_must 5 = .ok (.ifCond .ne 7, 3) := by decide +kernel
theorem dX10_must_8 : decode cX10_must 8 = .ok (.aload_n 0, 1) := by decide +kernel
theorem dX10_must_9 : decode cX10_must 9 = .ok (.invokevirtual 202, 3) := by decide +kernel
theorem dX10_must_12 : decode cX10_must 12 = .ok (.return_, 1) := by decide +kernel
set_option maxRecDepth 20000 in
theorem ggX10_readClause_X10_takes0 : GoodIn wsX10_readClause wsX10_takes0 := goodIn_r _ [5, 6, 7, 8, 9, 10, 4, 11, 12, 65, 66, 67, 68, 69, 70, 71, 72, 73, 74, 75, 76, 77, 78, 79, 80, 81, 82, 83, 84, 85, 86, 87, 88, 89, 90, 91, 92, 93, 94, 95, 96, 97, 98, 99, 100, 101, 102, 103, 104, 105, 106, 107, 108, 109, 110, 111, 112, 113, 114, 115, 116, 117, 118, 119, 120] (by decide +kernel) (by decide +kernel)
set_option maxRecDepth 20000 in
theorem gX10_readClause_X10_takes0 : GoodIn wsX10_readClause (wsV RX10 199 RX10 yX10_takes0 wsX10_takes0) := goodIn_app (goodIn_of _ (by decide +kernel)) ggX10_readClause_X10_takes0
set_option maxRecDepth 20000 in
theorem ggX10_readClause_X10_must : GoodIn wsX10_readClause wsX10_must := goodIn_r _ [36, 1, 2, 3, 4, 5, 6, 7, 8, 9, 10, 11, 12, 28, 29, 30, 31, 32, 65, 66, 67, 68, 69, 70, 71, 72, 73, 74, 75, 76, 77, 78, 79, 80, 81, 82, 83, 84, 85, 86, 87, 88, 89, 90, 91, 92, 93, 94, 95, 96, 97, 98, 99, 100, 101, 102, 103, 104, 105, 106, 107, 108, 109, 110, 111, 112, 113, 114, 115, 116, 117, 118, 119, 120] (by decide +kernel) (by decide +kernel)
set_option maxRecDepth 20000 in
theorem gX10_readClause_X10_must : GoodIn wsX10_readClause (wsV RX10 212 RX10 yX10_must wsX10_must) := goodIn_app (goodIn_of _ (by decide +kernel)) ggX10_readClause_X10_must
theorem dX10_readClause_0 : decode cX10_readClause 0 = .ok (.aload_n 0, 1) := by decide +kernel
theorem dX10_readClause_1 : decode cX10_readClause 1 = .ok (.iconst 1, 1) := by decide +kernel
theorem dX10_readClause_2 : decode cX10_readClause 2 = .ok (.invokevirtual 199, 3) := by decide +kernel
theorem dX10_readClause_5 : decode cX10_readClause 5 = .ok (.ifCond .eq 11, 3) := by decide +kernel
theorem dX10_readClause_16 : decode cX10_readClause 16 = .ok (.aload_n 0, 1) := by decide +kernel
theorem dX10_readClause_17 : decode cX10_readClause 17 = .ok (.iconst 2, 1) := by decide +kernel
theorem dX10_readClause_18 : decode cX10_readClause 18 = .ok (.invokevirtual 199, 3) := by decide +kernel
theorem dX10_readClause_21 : decode cX10_readClause 21 = .ok (.ifCond .ne 8, 3) := by decide +kernel
theorem dX10_readClause_24 : decode cX10_readClause 24 = .ok (.aload_n 0, 1) := by decide +kernel
theorem dX10_readClause_25 : decode cX10_readClause 25 = .ok (.iconst 3, 1) := by decide +kernel
theorem dX10_readClause_26 : decode cX10_readClause 26 = .ok (.invokevirtual 212, 3) := by decide +kernel
theorem dX10_readClause_29 : decode cX10_readClause 29 = .ok (.aload_n 0, 1) := by decide +kernel
theorem dX10_readClause_30 : decode cX10_readClause 30 = .ok (.iconst 4, 1) := by decide +kernel
theorem dX10_readClause_31 : decode cX10_readClause 31 = .ok (.invokevirtual 199, 3) := by decide +kernel
theorem dX10_readClause_34 : decode cX10_readClause 34 = .ok (.ifCond .eq 8, 3) := by decide +kernel
theorem dX10_readClause_42 : decode cX10_readClause 42 = .ok (.return_, 1) := by decide +kernel
set_option maxRecDepth 20000 in
theorem ggX10_readOne_X10_readClause : GoodIn wsX10_readOne wsX10_readClause := goodIn_r _ [72, 7, 8, 9, 5, 10, 11, 12, 13, 14, 15, 16, 17, 18, 19, 20, 21, 22, 23, 24, 25, 26, 27, 28, 29, 30, 31, 1, 32, 33, 34, 35, 36, 37, 38, 39, 40, 41, 42, 43, 44, 45, 46, 47, 48, 49, 50, 51, 52, 53, 54, 55, 56, 57, 58, 59, 60, 61, 62, 63, 64, 65, 66, 67, 68, 73, 74, 75, 76, 77, 78, 79, 80, 81, 82, 83, 84, 85, 86, 87, 88, 89, 90, 91, 92, 93, 94, 95, 96, 97, 98, 99, 100, 101, 102, 103, 104, 105, 106, 107, 108, 109, 110, 111, 112, 113, 114, 115, 116, 117, 118, 119, 120, 121, 122, 123, 124, 125, 126, 127, 128] (by decide +kernel) (by decide +kernel)
set_option maxRecDepth 20000 in
theorem gX10_readOne_X10_readClause : GoodIn wsX10_readOne (wsV RX10 228 RX10 yX10_readClause wsX10_readClause) := goodIn_app (goodIn_of _ (by decide +kernel)) ggX10_readOne_X10_readClause
theorem dX10_readOne_0 : decode cX10_readOne 0 = .ok (.aload_n 0, 1) := by decide +kernel
theorem dX10_readOne_1 : decode cX10_readOne 1 = .ok (.getfield 221, 3) := by decide +kernel
theorem dX10_readOne_4 : decode cX10_readOne 4 = .ok (.ifCond .eq 10, 3) := by decide +kernel
theorem dX10_readOne_14 : decode cX10_readOne 14 = .ok (.aload_n 0, 1) := by decide +kernel
theorem dX10_readOne_15 : decode cX10_readOne 15 = .ok (.invokevirtual 228, 3) := by decide +kernel
theorem dX10_readOne_18 : decode cX10_readOne 18 = .ok (.return_, 1) := by decide +kernel
set_option maxRecDepth 20000 in
theorem ggX10_reads_X10_splits : GoodIn wsX10_reads wsX10_splits := goodIn_r _ [11, 5, 12, 13, 14, 15, 16, 17, 18, 10, 19, 20, 21, 22, 23, 24, 25, 26, 27, 97, 98, 99, 100, 101, 102, 103, 104, 105, 106, 107, 108, 109, 110, 111, 112, 113, 114, 115, 116, 117, 118, 119, 120, 121, 122, 123, 124, 125, 126, 127, 128, 129, 130, 131, 132, 133, 134, 135, 136, 137, 138, 139, 140, 141, 142, 143, 144, 145, 146, 147, 148, 149, 150, 151, 152] (by decide +kernel) (by decide +kernel)
set_option maxRecDepth 20000 in
theorem gX10_reads_X10_splits : GoodIn wsX10_reads (wsV RX10 256 RX10 yX10_splits wsX10_splits) := goodIn_app (goodIn_of _ (by decide +kernel)) ggX10_reads_X10_splits
set_option maxRecDepth 20000 in
theorem ggX10_reads_X10_readOne : GoodIn wsX10_reads wsX10_readOne := goodIn_r _ [31, 32, 33, 34, 35, 10, 36, 37, 38, 39, 40, 15, 2, 41, 42, 43, 44, 4, 45, 46, 47, 48, 49, 50, 51, 52, 53, 54, 55, 14, 56, 57, 58, 59, 60, 61, 13, 62, 63, 64, 65, 66, 67, 68, 69, 3, 70, 71, 72, 73, 74, 75, 76, 77, 78, 79, 80, 81, 82, 83, 84, 85, 86, 87, 88, 89, 90, 91, 92, 93, 94, 95, 96, 97, 98, 99, 100, 101, 102, 103, 104, 105, 106, 107, 108, 109, 110, 111, 112, 113, 114, 115, 116, 117, 118, 119, 120, 121, 122, 123, 124, 125, 126, 127, 128, 129, 130, 131, 132, 133, 134, 135, 136, 137, 138, 139, 140, 141, 142, 143, 144, 145, 146, 147, 148, 149, 150, 151, 152] (by decide +kernel) (by decide +kernel)
set_option maxRecDepth 20000 in
theorem gX10_reads_X10_readOne : GoodIn wsX10_reads (wsV RX10 259 RX10 yX10_readOne wsX10_readOne) := goodIn_app (goodIn_of _ (by decide +kernel)) ggX10_reads_X10_readOne
set_option maxRecDepth 20000 in
theorem ggX10_reads_X10_sign : GoodIn wsX10_reads wsX10_sign := goodIn_r _ [54] (by decide +kernel) (by decide +kernel)
set_option maxRecDepth 20000 in
theorem gX10_reads_X10_sign : GoodIn wsX10_reads (va_wsS RX10 237 yX10_sign wsX10_sign) := goodIn_app (goodIn_of _ (by decide +kernel)) ggX10_reads_X10_sign
set_option maxRecDepth 20000 in
theorem ggX10_reads_X10_takes0 : GoodIn wsX10_reads wsX10_takes0 := goodIn_r _ [40, 15, 2, 41, 42, 43, 10, 44, 4, 97, 98, 99, 100, 101, 102, 103, 104, 105, 106, 107, 108, 109, 110, 111, 112, 113, 114, 115, 116, 117, 118, 119, 120, 121, 122, 123, 124, 125, 126, 127, 128, 129, 130, 131, 132, 133, 134, 135, 136, 137, 138, 139, 140, 141, 142, 143, 144, 145, 146, 147, 148, 149, 150, 151, 152] (by decide +kernel) (by decide +kernel)
set_option maxRecDepth 20000 in
theorem gX10_reads_X10_takes0 : GoodIn wsX10_reads (wsV RX10 199 RX10 yX10_takes0 wsX10_takes0) := goodIn_app (goodIn_of _ (by decide +kernel)) ggX10_reads_X10_takes0
set_option maxRecDepth 20000 in
theorem ggX10_reads_X10_fine : GoodIn wsX10_reads wsX10_fine := goodIn_r _ [44, 4, 97, 98, 99, 100, 101, 102, 103, 104, 105, 106, 107, 108, 109, 110, 111, 112, 113, 114, 115, 116, 117, 118, 119, 120, 121, 122, 123, 124, 125, 126, 127, 128, 129, 130, 131, 132, 133, 134, 135, 136, 137, 138, 139, 140, 141, 142, 143, 144, 145, 146, 147, 148, 149, 150, 151, 152] (by decide +kernel) (by decide +kernel)
set_option maxRecDepth 20000 in
theorem gX10_reads_X10_fine : GoodIn wsX10_reads (wsV RX10 192 RX10 yX10_fine wsX10_fine) := goodIn_app (goodIn_of _ (by decide +kernel)) ggX10_reads_X10_fine
theorem dX10_reads_0 : decode cX10_reads 0 = .ok (.aload_n 0, 1) := by decide +kernel
theorem dX10_reads_1 : decode cX10_reads 1 = .ok (.aload_n 0, 1) := by decide +kernel
theorem dX10_reads_2 : decode cX10_reads 2 = .ok (.getfield 169, 3) := by decide +kernel
theorem dX10_reads_5 : decode cX10_reads 5 = .ok (.invokevirtual 256, 3) := by decide +kernel
theorem dX10_reads_8 : decode cX10_reads 8 = .ok (.aload_n 0, 1) := by decide +kernel
theorem dX10_reads_9 : decode cX10_reads 9 = .ok (.iconst 0, 1) := by decide +kernel
theorem dX10_reads_10 : decode cX10_reads 10 = .ok (.putfield 169, 3) := by decide +kernel
theorem dX10_reads_13 : decode cX10_reads 13 = .ok (.aload_n 0, 1) := by decide +kernel
theorem dX10_reads_14 : decode cX10_reads 14 = .ok (.iconst 0, 1) := by decide +kernel
theorem dX10_reads_15 : decode cX10_reads 15 = .ok (.putfield 196, 3) := by decide +kernel
theorem dX10_reads_18 : decode cX10_reads 18 = .ok (.aload_n 0, 1) := by decide +kernel
theorem dX10_reads_19 : decode cX10_reads 19 = .ok (.iconst 0, 1) := by decide +kernel
theorem dX10_reads_20 : decode cX10_reads 20 = .ok (.putfield 205, 3) := by decide +kernel
theorem dX10_reads_23 : decode cX10_reads 23 = .ok (.aload_n 0, 1) := by decide +kernel
theorem dX10_reads_24 : decode cX10_reads 24 = .ok (.iconst (-1), 1) := by decide +kernel
theorem dX10_reads_25 : decode cX10_reads 25 = .ok (.putfield 189, 3) := by decide +kernel
theorem dX10_reads_28 : decode cX10_reads 28 = .ok (.aload_n 0, 1) := by decide +kernel
theorem dX10_reads_29 : decode cX10_reads 29 = .ok (.invokevirtual 259, 3) := by decide +kernel
theorem dX10_reads_32 : decode cX10_reads 32 = .ok (.iconst 1, 1) := by decide +kernel
theorem dX10_reads_33 : decode cX10_reads 33 = .ok (.istore_n 1, 1) := by decide +kernel
theorem dX10_reads_34 : decode cX10_reads 34 = .ok (.aload_n 0, 1) := by decide +kernel
theorem dX10_reads_35 : decode cX10_reads 35 = .ok (.bipush 59, 2) := by decide +kernel
theorem dX10_reads_37 : decode cX10_reads 37 = .ok (.invokestatic 237, 3) := by decide +kernel
theorem dX10_reads_40 : decode cX10_reads 40 = .ok (.invokevirtual 199, 3) := by decide +kernel
theorem dX10_reads_43 : decode cX10_reads 43 = .ok (.ifCond .eq 30, 3) := by decide +kernel
theorem dX10_reads_73 : decode cX10_reads 73 = .ok (.aload_n 0, 1) := by decide +kernel
theorem dX10_reads_74 : decode cX10_reads 74 = .ok (.invokevirtual 192, 3) := by decide +kernel
theorem dX10_reads_77 : decode cX10_reads 77 = .ok (.ifCond .eq 18, 3) := by decide +kernel
theorem dX10_reads_95 : decode cX10_reads 95 = .ok (.aload_n 0, 1) := by decide +kernel
theorem dX10_reads_96 : decode cX10_reads 96 = .ok (.aload_n 0, 1) := by decide +kernel
theorem dX10_reads_97 : decode cX10_reads 97 = .ok (.getfield 189, 3) := by decide +kernel
theorem dX10_reads_100 : decode cX10_reads 100 = .ok (.putfield 51, 3) := by decide +kernel
theorem dX10_reads_103 : decode cX10_reads 103 = .ok (.aload_n 0, 1) := by decide +kernel
theorem dX10_reads_104 : decode cX10_reads 104 = .ok (.invokevirtual 192, 3) := by decide +kernel
theorem dX10_reads_107 : decode cX10_reads 107 = .ok (.ireturn, 1) := by decide +kernel
set_option maxRecDepth 20000 in
theorem ggX10_readsAs_X10_reads : GoodIn wsX10_readsAs wsX10_reads := goodIn_r _ [8, 9, 10, 11, 12, 13, 14, 15, 16, 17, 7, 18, 19, 20, 21, 22, 23, 24, 25, 26, 27, 28, 29, 30, 31, 32, 33, 34, 35, 36, 37, 38, 1, 39, 40, 41, 42, 43, 44, 45, 46, 47, 48, 49, 50, 51, 52, 53, 54, 55, 56, 57, 58, 59, 60, 61, 2, 3, 62, 63, 64, 65, 66, 67, 68, 69, 70, 71, 72, 73, 74, 75, 76, 77, 78, 79, 80, 81, 82, 83, 84, 85, 86, 87, 88, 89, 90, 91, 92, 93, 94, 95, 96, 97, 98, 99, 100, 101, 102, 103, 104, 105, 106, 107, 108, 109, 110, 111, 112, 113, 114, 115, 116, 117, 118, 119, 120, 121, 122, 123, 124, 125, 126, 127, 128, 129, 130, 131, 132, 133, 134, 135, 136, 137, 138, 139, 140, 141, 142, 143, 144, 145, 146, 147, 148, 149, 150, 151, 152, 153, 154, 155, 156] (by decide +kernel) (by decide +kernel)
set_option maxRecDepth 20000 in
theorem gX10_readsAs_X10_reads : GoodIn wsX10_readsAs (wsV RX10 262 RX10 yX10_reads wsX10_reads) := goodIn_app (goodIn_of _ (by decide +kernel)) ggX10_readsAs_X10_reads
theorem dX10_readsAs_0 : decode cX10_readsAs 0 = .ok (.aload_n 0, 1) := by decide +kernel
theorem dX10_readsAs_1 : decode cX10_readsAs 1 = .ok (.iload_n 1, 1) := by decide +kernel
theorem dX10_readsAs_2 : decode cX10_readsAs 2 = .ok (.putfield 221, 3) := by decide +kernel
theorem dX10_readsAs_5 : decode cX10_readsAs 5 = .ok (.aload_n 0, 1) := by decide +kernel
theorem dX10_readsAs_6 : decode cX10_readsAs 6 = .ok (.iload_n 1, 1) := by decide +kernel
theorem dX10_readsAs_7 : decode cX10_readsAs 7 = .ok (.ifCond .eq 8, 3) := by decide +kernel
theorem dX10_readsAs_15 : decode cX10_readsAs 15 = .ok (.bipush 8, 2) := by decide +kernel
theorem dX10_readsAs_17 : decode cX10_readsAs 17 = .ok (.putfield 247, 3) := by decide +kernel
theorem dX10_readsAs_20 : decode cX10_readsAs 20 = .ok (.aload_n 0, 1) := by decide +kernel
theorem dX10_readsAs_21 : decode cX10_readsAs 21 = .ok (.iload_n 1, 1) := by decide +kernel
theorem dX10_readsAs_22 : decode cX10_readsAs 22 = .ok (.ifCond .eq 8, 3) := by decide +kernel
theorem dX10_readsAs_30 : decode cX10_readsAs 30 = .ok (.bipush 16, 2) := by decide +kernel
theorem dX10_readsAs_32 : decode cX10_readsAs 32 = .ok (.putfield 250, 3) := by decide +kernel
theorem dX10_readsAs_35 : decode cX10_readsAs 35 = .ok (.aload_n 0, 1) := by decide +kernel
theorem dX10_readsAs_36 : decode cX10_readsAs 36 = .ok (.invokevirtual 262, 3) := by decide +kernel
theorem dX10_readsAs_39 : decode cX10_readsAs 39 = .ok (.ireturn, 1) := by decide +kernel
set_option maxRecDepth 20000 in
theorem ggX10_law_X10_refuses : GoodIn wsX10_law wsX10_refuses := goodIn_r _ [7, 8, 9, 120, 121, 122, 123, 124, 125, 126, 127, 128, 129, 130, 131, 132, 133, 134, 135, 136, 137, 138, 139, 140, 141, 142, 143, 144, 145, 146, 147, 148, 149, 150, 151, 152, 153, 154, 155, 156, 157, 158, 159, 160, 161, 162, 163, 164, 165, 166, 167, 168, 169, 170, 171, 172, 173, 174, 175] (by decide +kernel) (by decide +kernel)
set_option maxRecDepth 20000 in
theorem gX10_law_X10_refuses : GoodIn wsX10_law (wsV RX10 119 RX10 yX10_refuses wsX10_refuses) := goodIn_app (goodIn_of _ (by decide +kernel)) ggX10_law_X10_refuses
set_option maxRecDepth 20000 in
theorem ggX10_law_X10_readsAs : GoodIn wsX10_law wsX10_readsAs := goodIn_r _ [13, 14, 15, 16, 17, 18, 19, 6, 20, 2, 21, 22, 23, 24, 25, 26, 27, 28, 29, 30, 31, 32, 33, 34, 35, 36, 37, 38, 39, 40, 41, 42, 43, 44, 45, 46, 47, 48, 49, 50, 51, 52, 53, 54, 55, 56, 57, 58, 59, 60, 61, 62, 63, 64, 65, 66, 67, 68, 69, 70, 71, 72, 73, 74, 75, 76, 77, 78, 79, 80, 81, 82, 83, 84, 85, 86, 87, 88, 89, 90, 91, 92, 93, 94, 95, 96, 97, 98, 99, 100, 101, 102, 103, 104, 105, 106, 107, 108, 109, 110, 111, 120, 121, 122, 123, 124, 125, 126, 127, 128, 129, 130, 131, 132, 133, 134, 135, 136, 137, 138, 139, 140, 141, 142, 143, 144, 145, 146, 147, 148, 149, 150, 151, 152, 153, 154, 155, 156, 157, 158, 159, 160, 161, 162, 163, 164, 165, 166, 167, 168, 169, 170, 171, 172, 173, 174, 175] (by decide +kernel) (by decide +kernel)
set_option maxRecDepth 20000 in
theorem gX10_law_X10_readsAs : GoodIn wsX10_law (wsV RX10 265 RX10 yX10_readsAs wsX10_readsAs) := goodIn_app (goodIn_of _ (by decide +kernel)) ggX10_law_X10_readsAs
theorem dX10_law_0 : decode cX10_law 0 = .ok (.aload_n 0, 1) := by decide +kernel
theorem dX10_law_1 : decode cX10_law 1 = .ok (.getfield 28, 3) := by decide +kernel
theorem dX10_law_4 : decode cX10_law 4 = .ok (.bipush 31, 2) := by decide +kernel
theorem dX10_law_6 : decode cX10_law 6 = .ok (.iaload, 1) := by decide +kernel
theorem dX10_law_7 : decode cX10_law 7 = .ok (.bipush 6, 2) := by decide +kernel
theorem dX10_law_9 : decode cX10_law 9 = .ok (.if_icmp .ne 15, 3) := by decide +kernel
theorem dX10_law_24 : decode cX10_law 24 = .ok (.aload_n 0, 1) := by decide +kernel
theorem dX10_law_25 : decode cX10_law 25 = .ok (.iconst 0, 1) := by decide +kernel
theorem dX10_law_26 : decode cX10_law 26 = .ok (.invokevirtual 265, 3) := by decide +kernel
theorem dX10_law_29 : decode cX10_law 29 = .ok (.ifCond .ne 10, 3) := by decide +kernel
theorem dX10_law_32 : decode cX10_law 32 = .ok (.aload_n 0, 1) := by decide +kernel
theorem dX10_law_33 : decode cX10_law 33 = .ok (.bipush (-6), 2) := by decide +kernel
theorem dX10_law_35 : decode cX10_law 35 = .ok (.invokevirtual 119, 3) := by decide +kernel
theorem dX10_law_38 : decode cX10_law 38 = .ok (.ireturn, 1) := by decide +kernel
