set_option maxRecDepth 20000 in
theorem ggX5_setWords_X8_gapCount : GoodIn wsX5_setWords wsX8_gapCount := goodIn_r _ [8, 9, 10, 11, 12, 13, 14, 15, 16, 17, 18, 19, 20, 7, 21, 22, 23, 24, 40, 41, 42, 43, 44] rfl (by decide +kernel)
set_option maxRecDepth 20000 in
theorem gX5_setWords_X8_gapCount : GoodIn wsX5_setWords (wsV RX5 92 RX8 yX8_gapCount wsX8_gapCount) := goodIn_app (goodIn_of _ (by decide +kernel)) ggX5_setWords_X8_gapCount
set_option maxRecDepth 20000 in
theorem ggX5_setWords_X8_tell : GoodIn wsX5_setWords wsX8_tell := goodIn_r _ [28, 10, 29, 30, 31, 32, 7, 33, 9, 34, 23, 35, 40, 41, 42, 43, 44] rfl (by decide +kernel)
set_option maxRecDepth 20000 in
theorem gX5_setWords_X8_tell : GoodIn wsX5_setWords (wsV RX5 96 RX8 yX8_tell wsX8_tell) := goodIn_app (goodIn_of _ (by decide +kernel)) ggX5_setWords_X8_tell
theorem da9_dX5_setWords_0 : (decode cX5_setWords 0 = .ok (.aload_n 0, 1)) ∧ (decode cX5_setWords 1 = .ok (.getfield 11, 3)) ∧ (decode cX5_setWords 4 = .ok (.iconst 0, 1)) ∧ (decode cX5_setWords 5 = .ok (.aload_n 1, 1)) ∧ (decode cX5_setWords 6 = .ok (.getfield 86, 3)) ∧ (decode cX5_setWords 9 = .ok (.iastore, 1)) ∧ (decode cX5_setWords 10 = .ok (.aload_n 0, 1)) ∧ (decode cX5_setWords 11 = .ok (.getfield 11, 3)) ∧ (decode cX5_setWords 14 = .ok (.iconst 1, 1)) ∧ (decode cX5_setWords 15 = .ok (.aload_n 0, 1)) ∧ (decode cX5_setWords 16 = .ok (.getfield 15, 3)) ∧ (decode cX5_setWords 19 = .ok (.iastore, 1)) ∧ (decode cX5_setWords 20 = .ok (.aload_n 0, 1)) ∧ (decode cX5_setWords 21 = .ok (.getfield 11, 3)) ∧ (decode cX5_setWords 24 = .ok (.iconst 2, 1)) ∧ (decode cX5_setWords 25 = .ok (.aload_n 0, 1)) := by decide +kernel
theorem dX5_setWords_0 : decode cX5_setWords 0 = .ok (.aload_n 0, 1) := da9_dX5_setWords_0.1
theorem dX5_setWords_1 : decode cX5_setWords 1 = .ok (.getfield 11, 3) := da9_dX5_setWords_0.2.1
theorem dX5_setWords_4 : decode cX5_setWords 4 = .ok (.iconst 0, 1) := da9_dX5_setWords_0.2.2.1
theorem dX5_setWords_5 : decode cX5_setWords 5 = .ok (.aload_n 1, 1) := da9_dX5_setWords_0.2.2.2.1
theorem dX5_setWords_6 : decode cX5_setWords 6 = .ok (.getfield 86, 3) := da9_dX5_setWords_0.2.2.2.2.1
theorem dX5_setWords_9 : decode cX5_setWords 9 = .ok (.iastore, 1) := da9_dX5_setWords_0.2.2.2.2.2.1
theorem dX5_setWords_10 : decode cX5_setWords 10 = .ok (.aload_n 0, 1) := da9_dX5_setWords_0.2.2.2.2.2.2.1
theorem dX5_setWords_11 : decode cX5_setWords 11 = .ok (.getfield 11, 3) := da9_dX5_setWords_0.2.2.2.2.2.2.2.1
theorem dX5_setWords_14 : decode cX5_setWords 14 = .ok (.iconst 1, 1) := da9_dX5_setWords_0.2.2.2.2.2.2.2.2.1
theorem dX5_setWords_15 : decode cX5_setWords 15 = .ok (.aload_n 0, 1) := da9_dX5_setWords_0.2.2.2.2.2.2.2.2.2.1
theorem dX5_setWords_16 : decode cX5_setWords 16 = .ok (.getfield 15, 3) := da9_dX5_setWords_0.2.2.2.2.2.2.2.2.2.2.1
theorem dX5_setWords_19 : decode cX5_setWords 19 = .ok (.iastore, 1) := da9_dX5_setWords_0.2.2.2.2.2.2.2.2.2.2.2.1
theorem dX5_setWords_20 : decode cX5_setWords 20 = .ok (.aload_n 0, 1) := da9_dX5_setWords_0.2.2.2.2.2.2.2.2.2.2.2.2.1
theorem dX5_setWords_21 : decode cX5_setWords 21 = .ok (.getfield 11, 3) := da9_dX5_setWords_0.2.2.2.2.2.2.2.2.2.2.2.2.2.1
theorem dX5_setWords_24 : decode cX5_setWords 24 = .ok (.iconst 2, 1) := da9_dX5_setWords_0.2.2.2.2.2.2.2.2.2.2.2.2.2.2.1
theorem dX5_setWords_25 : decode cX5_setWords 25 = .ok (.aload_n 0, 1) := da9_dX5_setWords_0.2.2.2.2.2.2.2.2.2.2.2.2.2.2.2
theorem da9_dX5_setWords_26 : (decode cX5_setWords 26 = .ok (.getfield 19, 3)) ∧ (decode cX5_setWords 29 = .ok (.iastore, 1)) ∧ (decode cX5_setWords 30 = .ok (.aload_n 0, 1)) ∧ (decode cX5_setWords 31 = .ok (.getfield 11, 3)) ∧ (decode cX5_setWords 34 = .ok (.iconst 3, 1)) ∧ (decode cX5_setWords 35 = .ok (.aload_n 1, 1)) ∧ (decode cX5_setWords 36 = .ok (.getfield 89, 3)) ∧ (decode cX5_setWords 39 = .ok (.iastore, 1)) ∧ (decode cX5_setWords 40 = .ok (.aload_n 0, 1)) ∧ (decode cX5_setWords 41 = .ok (.getfield 11, 3)) ∧ (decode cX5_setWords 44 = .ok (.iconst 4, 1)) ∧ (decode cX5_setWords 45 = .ok (.aload_n 1, 1)) ∧ (decode cX5_setWords 46 = .ok (.invokevirtual 92, 3)) ∧ (decode cX5_setWords 49 = .ok (.iastore, 1)) ∧ (decode cX5_setWords 50 = .ok (.iconst 0, 1)) ∧ (decode cX5_setWords 51 = .ok (.istore_n 2, 1)) := by decide +kernel
theorem dX5_setWords_26 : decode cX5_setWords 26 = .ok (.getfield 19, 3) := da9_dX5_setWords_26.1
theorem dX5_setWords_29 : decode cX5_setWords 29 = .ok (.iastore, 1) := da9_dX5_setWords_26.2.1
theorem dX5_setWords_30 : decode cX5_setWords 30 = .ok (.aload_n 0, 1) := da9_dX5_setWords_26.2.2.1
theorem dX5_setWords_31 : decode cX5_setWords 31 = .ok (.getfield 11, 3) := da9_dX5_setWords_26.2.2.2.1
theorem dX5_setWords_34 : decode cX5_setWords 34 = .ok (.iconst 3, 1) := da9_dX5_setWords_26.2.2.2.2.1
theorem dX5_setWords_35 : decode cX5_setWords 35 = .ok (.aload_n 1, 1) := da9_dX5_setWords_26.2.2.2.2.2.1
theorem dX5_setWords_36 : decode cX5_setWords 36 = .ok (.getfield 89, 3) := da9_dX5_setWords_26.2.2.2.2.2.2.1
theorem dX5_setWords_39 : decode cX5_setWords 39 = .ok (.iastore, 1) := da9_dX5_setWords_26.2.2.2.2.2.2.2.1
theorem dX5_setWords_40 : decode cX5_setWords 40 = .ok (.aload_n 0, 1) := da9_dX5_setWords_26.2.2.2.2.2.2.2.2.1
theorem dX5_setWords_41 : decode cX5_setWords 41 = .ok (.getfield 11, 3) := da9_dX5_setWords_26.2.2.2.2.2.2.2.2.2.1
theorem dX5_setWords_44 : decode cX5_setWords 44 = .ok (.iconst 4, 1) := da9_dX5_setWords_26.2.2.2.2.2.2.2.2.2.2.1
theorem dX5_setWords_45 : decode cX5_setWords 45 = .ok (.aload_n 1, 1) := da9_dX5_setWords_26.2.2.2.2.2.2.2.2.2.2.2.1
theorem dX5_setWords_46 : decode cX5_setWords 46 = .ok (.invokevirtual 92, 3) := da9_dX5_setWords_26.2.2.2.2.2.2.2.2.2.2.2.2.1
theorem dX5_setWords_49 : decode cX5_setWords 49 = .ok (.iastore, 1) := da9_dX5_setWords_26.2.2.2.2.2.2.2.2.2.2.2.2.2.1
theorem dX5_setWords_50 : decode cX5_setWords 50 = .ok (.iconst 0, 1) := da9_dX5_setWords_26.2.2.2.2.2.2.2.2.2.2.2.2.2.2.1
theorem dX5_setWords_51 : decode cX5_setWords 51 = .ok (.istore_n 2, 1) := da9_dX5_setWords_26.2.2.2.2.2.2.2.2.2.2.2.2.2.2.2
theorem da9_dX5_setWords_52 : (decode cX5_setWords 52 = .ok (.iload_n 2, 1)) ∧ (decode cX5_setWords 53 = .ok (.bipush 6, 2)) ∧ (decode cX5_setWords 55 = .ok (.if_icmp .ge 38, 3)) ∧ (decode cX5_setWords 58 = .ok (.aload_n 0, 1)) ∧ (decode cX5_setWords 59 = .ok (.getfield 11, 3)) ∧ (decode cX5_setWords 62 = .ok (.iconst 5, 1)) ∧ (decode cX5_setWords 63 = .ok (.iload_n 2, 1)) ∧ (decode cX5_setWords 64 = .ok (.iadd, 1)) ∧ (decode cX5_setWords 65 = .ok (.aload_n 1, 1)) ∧ (decode cX5_setWords 66 = .ok (.iload_n 2, 1)) ∧ (decode cX5_setWords 67 = .ok (.iconst 0, 1)) ∧ (decode cX5_setWords 68 = .ok (.invokevirtual 96, 3)) ∧ (decode cX5_setWords 71 = .ok (.iastore, 1)) ∧ (decode cX5_setWords 72 = .ok (.aload_n 0, 1)) ∧ (decode cX5_setWords 73 = .ok (.getfield 11, 3)) ∧ (decode cX5_setWords 76 = .ok (.bipush 11, 2)) := by decide +kernel
theorem dX5_setWords_52 : decode cX5_setWords 52 = .ok (.iload_n 2, 1) := da9_dX5_setWords_52.1
theorem dX5_setWords_53 : decode cX5_setWords 53 = .ok (.bipush 6, 2) := da9_dX5_setWords_52.2.1
theorem dX5_setWords_55 : decode cX5_setWords 55 = .ok (.if_icmp .ge 38, 3) := da9_dX5_setWords_52.2.2.1
theorem dX5_setWords_58 : decode cX5_setWords 58 = .ok (.aload_n 0, 1) := da9_dX5_setWords_52.2.2.2.1
theorem dX5_setWords_59 : decode cX5_setWords 59 = .ok (.getfield 11, 3) := da9_dX5_setWords_52.2.2.2.2.1
theorem dX5_setWords_62 : decode cX5_setWords 62 = .ok (.iconst 5, 1) := da9_dX5_setWords_52.2.2.2.2.2.1
theorem dX5_setWords_63 : decode cX5_setWords 63 = .ok (.iload_n 2, 1) := da9_dX5_setWords_52.2.2.2.2.2.2.1
theorem dX5_setWords_64 : decode cX5_setWords 64 = .ok (.iadd, 1) := da9_dX5_setWords_52.2.2.2.2.2.2.2.1
theorem dX5_setWords_65 : decode cX5_setWords 65 = .ok (.aload_n 1, 1) := da9_dX5_setWords_52.2.2.2.2.2.2.2.2.1
theorem dX5_setWords_66 : decode cX5_setWords 66 = .ok (.iload_n 2, 1) := da9_dX5_setWords_52.2.2.2.2.2.2.2.2.2.1
theorem dX5_setWords_67 : decode cX5_setWords 67 = .ok (.iconst 0, 1) := da9_dX5_setWords_52.2.2.2.2.2.2.2.2.2.2.1
theorem dX5_setWords_68 : decode cX5_setWords 68 = .ok (.invokevirtual 96, 3) := da9_dX5_setWords_52.2.2.2.2.2.2.2.2.2.2.2.1
theorem dX5_setWords_71 : decode cX5_setWords 71 = .ok (.iastore, 1) := da9_dX5_setWords_52.2.2.2.2.2.2.2.2.2.2.2.2.1
theorem dX5_setWords_72 : decode cX5_setWords 72 = .ok (.aload_n 0, 1) := da9_dX5_setWords_52.2.2.2.2.2.2.2.2.2.2.2.2.2.1
theorem dX5_setWords_73 : decode cX5_setWords 73 = .ok (.getfield 11, 3) := da9_dX5_setWords_52.2.2.2.2.2.2.2.2.2.2.2.2.2.2.1
theorem dX5_setWords_76 : decode cX5_setWords 76 = .ok (.bipush 11, 2) := da9_dX5_setWords_52.2.2.2.2.2.2.2.2.2.2.2.2.2.2.2
theorem da9_dX5_setWords_78 : (decode cX5_setWords 78 = .ok (.iload_n 2, 1)) ∧ (decode cX5_setWords 79 = .ok (.iadd, 1)) ∧ (decode cX5_setWords 80 = .ok (.aload_n 1, 1)) ∧ (decode cX5_setWords 81 = .ok (.iload_n 2, 1)) ∧ (decode cX5_setWords 82 = .ok (.iconst 1, 1)) ∧ (decode cX5_setWords 83 = .ok (.invokevirtual 96, 3)) ∧ (decode cX5_setWords 86 = .ok (.iastore, 1)) ∧ (decode cX5_setWords 87 = .ok (.iinc 2 1, 3)) ∧ (decode cX5_setWords 90 = .ok (.goto (-38), 3)) ∧ (decode cX5_setWords 93 = .ok (.return_, 1)) := by decide +kernel
theorem dX5_setWords_78 : decode cX5_setWords 78 = .ok (.iload_n 2, 1) := da9_dX5_setWords_78.1
theorem dX5_setWords_79 : decode cX5_setWords 79 = .ok (.iadd, 1) := da9_dX5_setWords_78.2.1
theorem dX5_setWords_80 : decode cX5_setWords 80 = .ok (.aload_n 1, 1) := da9_dX5_setWords_78.2.2.1
theorem dX5_setWords_81 : decode cX5_setWords 81 = .ok (.iload_n 2, 1) := da9_dX5_setWords_78.2.2.2.1
theorem dX5_setWords_82 : decode cX5_setWords 82 = .ok (.iconst 1, 1) := da9_dX5_setWords_78.2.2.2.2.1
theorem dX5_setWords_83 : decode cX5_setWords 83 = .ok (.invokevirtual 96, 3) := da9_dX5_setWords_78.2.2.2.2.2.1
theorem dX5_setWords_86 : decode cX5_setWords 86 = .ok (.iastore, 1) := da9_dX5_setWords_78.2.2.2.2.2.2.1
theorem dX5_setWords_87 : decode cX5_setWords 87 = .ok (.iinc 2 1, 3) := da9_dX5_setWords_78.2.2.2.2.2.2.2.1
theorem dX5_setWords_90 : decode cX5_setWords 90 = .ok (.goto (-38), 3) := da9_dX5_setWords_78.2.2.2.2.2.2.2.2.1
theorem dX5_setWords_93 : decode cX5_setWords 93 = .ok (.return_, 1) := da9_dX5_setWords_78.2.2.2.2.2.2.2.2.2
theorem da9_dX8_exchange_0 : (decode cX8_exchange 0 = .ok (.aload_n 0, 1)) ∧ (decode cX8_exchange 1 = .ok (.getfield 9, 3)) ∧ (decode cX8_exchange 4 = .ok (.iload_n 1, 1)) ∧ (decode cX8_exchange 5 = .ok (.iaload, 1)) ∧ (decode cX8_exchange 6 = .ok (.istore_n 3, 1)) ∧ (decode cX8_exchange 7 = .ok (.aload_n 0, 1)) ∧ (decode cX8_exchange 8 = .ok (.getfield 15, 3)) ∧ (decode cX8_exchange 11 = .ok (.iload_n 1, 1)) ∧ (decode cX8_exchange 12 = .ok (.iaload, 1)) ∧ (decode cX8_exchange 13 = .ok (.istore 4, 2)) ∧ (decode cX8_exchange 15 = .ok (.aload_n 0, 1)) ∧ (decode cX8_exchange 16 = .ok (.getfield 9, 3)) ∧ (decode cX8_exchange 19 = .ok (.iload_n 1, 1)) ∧ (decode cX8_exchange 20 = .ok (.aload_n 0, 1)) ∧ (decode cX8_exchange 21 = .ok (.getfield 9, 3)) ∧ (decode cX8_exchange 24 = .ok (.iload_n 2, 1)) := by decide +kernel
theorem dX8_exchange_0 : decode cX8_exchange 0 = .ok (.aload_n 0, 1) := da9_dX8_exchange_0.1
theorem dX8_exchange_1 : decode cX8_exchange 1 = .ok (.getfield 9, 3) := da9_dX8_exchange_0.2.1
theorem dX8_exchange_4 : decode cX8_exchange 4 = .ok (.iload_n 1, 1) := da9_dX8_exchange_0.2.2.1
theorem dX8_exchange_5 : decode cX8_exchange 5 = .ok (.iaload, 1) := da9_dX8_exchange_0.2.2.2.1
theorem dX8_exchange_6 : decode cX8_exchange 6 = .ok (.istore_n 3, 1) := da9_dX8_exchange_0.2.2.2.2.1
theorem dX8_exchange_7 : decode cX8_exchange 7 = .ok (.aload_n 0, 1) := da9_dX8_exchange_0.2.2.2.2.2.1
theorem dX8_exchange_8 : decode cX8_exchange 8 = .ok (.getfield 15, 3) := da9_dX8_exchange_0.2.2.2.2.2.2.1
theorem dX8_exchange_11 : decode cX8_exchange 11 = .ok (.iload_n 1, 1) := da9_dX8_exchange_0.2.2.2.2.2.2.2.1
theorem dX8_exchange_12 : decode cX8_exchange 12 = .ok (.iaload, 1) := da9_dX8_exchange_0.2.2.2.2.2.2.2.2.1
theorem dX8_exchange_13 : decode cX8_exchange 13 = .ok (.istore 4, 2) := da9_dX8_exchange_0.2.2.2.2.2.2.2.2.2.1
theorem dX8_exchange_15 : decode cX8_exchange 15 = .ok (.aload_n 0, 1) := da9_dX8_exchange_0.2.2.2.2.2.2.2.2.2.2.1
theorem dX8_exchange_16 : decode cX8_exchange 16 = .ok (.getfield 9, 3) := da9_dX8_exchange_0.2.2.2.2.2.2.2.2.2.2.2.1
theorem dX8_exchange_19 : decode cX8_exchange 19 = .ok (.iload_n 1, 1) := da9_dX8_exchange_0.2.2.2.2.2.2.2.2.2.2.2.2.1
theorem dX8_exchange_20 : decode cX8_exchange 20 = .ok (.aload_n 0, 1) := da9_dX8_exchange_0.2.2.2.2.2.2.2.2.2.2.2.2.2.1
theorem dX8_exchange_21 : decode cX8_exchange 21 = .ok (.getfield 9, 3) := da9_dX8_exchange_0.2.2.2.2.2.2.2.2.2.2.2.2.2.2.1
theorem dX8_exchange_24 : decode cX8_exchange 24 = .ok (.iload_n 2, 1) := da9_dX8_exchange_0.2.2.2.2.2.2.2.2.2.2.2.2.2.2.2
theorem da9_dX8_exchange_25 : (decode cX8_exchange 25 = .ok (.iaload, 1)) ∧ (decode cX8_exchange 26 = .ok (.iastore, 1)) ∧ (decode cX8_exchange 27 = .ok (.aload_n 0, 1)) ∧ (decode cX8_exchange 28 = .ok (.getfield 15, 3)) ∧ (decode cX8_exchange 31 = .ok (.iload_n 1, 1)) ∧ (decode cX8_exchange 32 = .ok (.aload_n 0, 1)) ∧ (decode cX8_exchange 33 = .ok (.getfield 15, 3)) ∧ (decode cX8_exchange 36 = .ok (.iload_n 2, 1)) ∧ (decode cX8_exchange 37 = .ok (.iaload, 1)) ∧ (decode cX8_exchange 38 = .ok (.iastore, 1)) ∧ (decode cX8_exchange 39 = .ok (.aload_n 0, 1)) ∧ (decode cX8_exchange 40 = .ok (.getfield 9, 3)) ∧ (decode cX8_exchange 43 = .ok (.iload_n 2, 1)) ∧ (decode cX8_exchange 44 = .ok (.iload_n 3, 1)) ∧ (decode cX8_exchange 45 = .ok (.iastore, 1)) ∧ (decode cX8_exchange 46 = .ok (.aload_n 0, 1)) := by decide +kernel
theorem dX8_exchange_25 : decode cX8_exchange 25 = .ok (.iaload, 1) := da9_dX8_exchange_25.1
theorem dX8_exchange_26 : decode cX8_exchange 26 = .ok (.iastore, 1) := da9_dX8_exchange_25.2.1
theorem dX8_exchange_27 : decode cX8_exchange 27 = .ok (.aload_n 0, 1) := da9_dX8_exchange_25.2.2.1
theorem dX8_exchange_28 : decode cX8_exchange 28 = .ok (.getfield 15, 3) := da9_dX8_exchange_25.2.2.2.1
theorem dX8_exchange_31 : decode cX8_exchange 31 = .ok (.iload_n 1, 1) := da9_dX8_exchange_25.2.2.2.2.1
theorem dX8_exchange_32 : decode cX8_exchange 32 = .ok (.aload_n 0, 1) := da9_dX8_exchange_25.2.2.2.2.2.1
theorem dX8_exchange_33 : decode cX8_exchange 33 = .ok (.getfield 15, 3) := da9_dX8_exchange_25.2.2.2.2.2.2.1
theorem dX8_exchange_36 : decode cX8_exchange 36 = .ok (.iload_n 2, 1) := da9_dX8_exchange_25.2.2.2.2.2.2.2.1
theorem dX8_exchange_37 : decode cX8_exchange 37 = .ok (.iaload, 1) := da9_dX8_exchange_25.2.2.2.2.2.2.2.2.1
theorem dX8_exchange_38 : decode cX8_exchange 38 = .ok (.iastore, 1) := da9_dX8_exchange_25.2.2.2.2.2.2.2.2.2.1
theorem dX8_exchange_39 : decode cX8_exchange 39 = .ok (.aload_n 0, 1) := da9_dX8_exchange_25.2.2.2.2.2.2.2.2.2.2.1
theorem dX8_exchange_40 : decode cX8_exchange 40 = .ok (.getfield 9, 3) := da9_dX8_exchange_25.2.2.2.2.2.2.2.2.2.2.2.1
theorem dX8_exchange_43 : decode cX8_exchange 43 = .ok (.iload_n 2, 1) := da9_dX8_exchange_25.2.2.2.2.2.2.2.2.2.2.2.2.1
theorem dX8_exchange_44 : decode cX8_exchange 44 = .ok (.iload_n 3, 1) := da9_dX8_exchange_25.2.2.2.2.2.2.2.2.2.2.2.2.2.1
theorem dX8_exchange_45 : decode cX8_exchange 45 = .ok (.iastore, 1) := da9_dX8_exchange_25.2.2.2.2.2.2.2.2.2.2.2.2.2.2.1
theorem dX8_exchange_46 : decode cX8_exchange 46 = .ok (.aload_n 0, 1) := da9_dX8_exchange_25.2.2.2.2.2.2.2.2.2.2.2.2.2.2.2
theorem da9_dX8_exchange_47 : (decode cX8_exchange 47 = .ok (.getfield 15, 3)) ∧ (decode cX8_exchange 50 = .ok (.iload_n 2, 1)) ∧ (decode cX8_exchange 51 = .ok (.iload 4, 2)) ∧ (decode cX8_exchange 53 = .ok (.iastore, 1)) ∧ (decode cX8_exchange 54 = .ok (.return_, 1)) := by decide +kernel
theorem dX8_exchange_47 : decode cX8_exchange 47 = .ok (.getfield 15, 3) := da9_dX8_exchange_47.1
theorem dX8_exchange_50 : decode cX8_exchange 50 = .ok (.iload_n 2, 1) := da9_dX8_exchange_47.2.1
theorem dX8_exchange_51 : decode cX8_exchange 51 = .ok (.iload 4, 2) := da9_dX8_exchange_47.2.2.1
theorem dX8_exchange_53 : decode cX8_exchange 53 = .ok (.iastore, 1) := da9_dX8_exchange_47.2.2.2.1
theorem dX8_exchange_54 : decode cX8_exchange 54 = .ok (.return_, 1) := da9_dX8_exchange_47.2.2.2.2
