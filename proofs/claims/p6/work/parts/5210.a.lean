theorem da9_dX0_mark_0 : (decode cX0_mark 0 = .ok (.aload_n 0, 1)) ∧ (decode cX0_mark 1 = .ok (.getfield 9, 3)) ∧ (decode cX0_mark 4 = .ok (.iconst 0, 1)) ∧ (decode cX0_mark 5 = .ok (.aload_n 0, 1)) ∧ (decode cX0_mark 6 = .ok (.getfield 23, 3)) ∧ (decode cX0_mark 9 = .ok (.iconst 0, 1)) ∧ (decode cX0_mark 10 = .ok (.bipush 16, 2)) ∧ (decode cX0_mark 12 = .ok (.invokestatic 32, 3)) ∧ (decode cX0_mark 15 = .ok (.aload_n 0, 1)) ∧ (decode cX0_mark 16 = .ok (.getfield 15, 3)) ∧ (decode cX0_mark 19 = .ok (.iconst 0, 1)) ∧ (decode cX0_mark 20 = .ok (.aload_n 0, 1)) ∧ (decode cX0_mark 21 = .ok (.getfield 26, 3)) ∧ (decode cX0_mark 24 = .ok (.iconst 0, 1)) ∧ (decode cX0_mark 25 = .ok (.bipush 16, 2)) ∧ (decode cX0_mark 27 = .ok (.invokestatic 32, 3)) := by decide +kernel
theorem dX0_mark_0 : decode cX0_mark 0 = .ok (.aload_n 0, 1) := da9_dX0_mark_0.1
theorem dX0_mark_1 : decode cX0_mark 1 = .ok (.getfield 9, 3) := da9_dX0_mark_0.2.1
theorem dX0_mark_4 : decode cX0_mark 4 = .ok (.iconst 0, 1) := da9_dX0_mark_0.2.2.1
theorem dX0_mark_5 : decode cX0_mark 5 = .ok (.aload_n 0, 1) := da9_dX0_mark_0.2.2.2.1
theorem dX0_mark_6 : decode cX0_mark 6 = .ok (.getfield 23, 3) := da9_dX0_mark_0.2.2.2.2.1
theorem dX0_mark_9 : decode cX0_mark 9 = .ok (.iconst 0, 1) := da9_dX0_mark_0.2.2.2.2.2.1
theorem dX0_mark_10 : decode cX0_mark 10 = .ok (.bipush 16, 2) := da9_dX0_mark_0.2.2.2.2.2.2.1
theorem dX0_mark_12 : decode cX0_mark 12 = .ok (.invokestatic 32, 3) := da9_dX0_mark_0.2.2.2.2.2.2.2.1
theorem dX0_mark_15 : decode cX0_mark 15 = .ok (.aload_n 0, 1) := da9_dX0_mark_0.2.2.2.2.2.2.2.2.1
theorem dX0_mark_16 : decode cX0_mark 16 = .ok (.getfield 15, 3) := da9_dX0_mark_0.2.2.2.2.2.2.2.2.2.1
theorem dX0_mark_19 : decode cX0_mark 19 = .ok (.iconst 0, 1) := da9_dX0_mark_0.2.2.2.2.2.2.2.2.2.2.1
theorem dX0_mark_20 : decode cX0_mark 20 = .ok (.aload_n 0, 1) := da9_dX0_mark_0.2.2.2.2.2.2.2.2.2.2.2.1
theorem dX0_mark_21 : decode cX0_mark 21 = .ok (.getfield 26, 3) := da9_dX0_mark_0.2.2.2.2.2.2.2.2.2.2.2.2.1
theorem dX0_mark_24 : decode cX0_mark 24 = .ok (.iconst 0, 1) := da9_dX0_mark_0.2.2.2.2.2.2.2.2.2.2.2.2.2.1
theorem dX0_mark_25 : decode cX0_mark 25 = .ok (.bipush 16, 2) := da9_dX0_mark_0.2.2.2.2.2.2.2.2.2.2.2.2.2.2.1
theorem dX0_mark_27 : decode cX0_mark 27 = .ok (.invokestatic 32, 3) := da9_dX0_mark_0.2.2.2.2.2.2.2.2.2.2.2.2.2.2.2
theorem da9_dX0_mark_30 : (decode cX0_mark 30 = .ok (.aload_n 0, 1)) ∧ (decode cX0_mark 31 = .ok (.aload_n 0, 1)) ∧ (decode cX0_mark 32 = .ok (.getfield 19, 3)) ∧ (decode cX0_mark 35 = .ok (.putfield 29, 3)) ∧ (decode cX0_mark 38 = .ok (.return_, 1)) := by decide +kernel
theorem dX0_mark_30 : decode cX0_mark 30 = .ok (.aload_n 0, 1) := da9_dX0_mark_30.1
theorem dX0_mark_31 : decode cX0_mark 31 = .ok (.aload_n 0, 1) := da9_dX0_mark_30.2.1
theorem dX0_mark_32 : decode cX0_mark 32 = .ok (.getfield 19, 3) := da9_dX0_mark_30.2.2.1
theorem dX0_mark_35 : decode cX0_mark 35 = .ok (.putfield 29, 3) := da9_dX0_mark_30.2.2.2.1
theorem dX0_mark_38 : decode cX0_mark 38 = .ok (.return_, 1) := da9_dX0_mark_30.2.2.2.2
set_option maxRecDepth 20000 in
theorem ggX7_copyOfIt_X7_init : GoodIn wsX7_copyOfIt wsX7_init := goodIn_r _ [18, 19, 20, 21, 4, 5, 22, 6, 7, 8, 9, 10, 11, 23, 24, 25, 26, 27, 28, 29, 30] rfl (by decide +kernel)
set_option maxRecDepth 20000 in
theorem gX7_copyOfIt_X7_init : GoodIn wsX7_copyOfIt (wsX7_init) := ggX7_copyOfIt_X7_init
theorem da9_dX7_copyOfIt_0 : (decode cX7_copyOfIt 0 = .ok (.new 8, 3)) ∧ (decode cX7_copyOfIt 3 = .ok (.dup, 1)) ∧ (decode cX7_copyOfIt 4 = .ok (.aload_n 0, 1)) ∧ (decode cX7_copyOfIt 5 = .ok (.getfield 7, 3)) ∧ (decode cX7_copyOfIt 8 = .ok (.aload_n 0, 1)) ∧ (decode cX7_copyOfIt 9 = .ok (.getfield 13, 3)) ∧ (decode cX7_copyOfIt 12 = .ok (.invokespecial 35, 3)) ∧ (decode cX7_copyOfIt 15 = .ok (.astore_n 1, 1)) ∧ (decode cX7_copyOfIt 16 = .ok (.aload_n 1, 1)) ∧ (decode cX7_copyOfIt 17 = .ok (.aload_n 0, 1)) ∧ (decode cX7_copyOfIt 18 = .ok (.getfield 7, 3)) ∧ (decode cX7_copyOfIt 21 = .ok (.putfield 7, 3)) ∧ (decode cX7_copyOfIt 24 = .ok (.aload_n 1, 1)) ∧ (decode cX7_copyOfIt 25 = .ok (.aload_n 0, 1)) ∧ (decode cX7_copyOfIt 26 = .ok (.getfield 13, 3)) ∧ (decode cX7_copyOfIt 29 = .ok (.putfield 13, 3)) := by decide +kernel
theorem dX7_copyOfIt_0 : decode cX7_copyOfIt 0 = .ok (.new 8, 3) := da9_dX7_copyOfIt_0.1
theorem dX7_copyOfIt_3 : decode cX7_copyOfIt 3 = .ok (.dup, 1) := da9_dX7_copyOfIt_0.2.1
theorem dX7_copyOfIt_4 : decode cX7_copyOfIt 4 = .ok (.aload_n 0, 1) := da9_dX7_copyOfIt_0.2.2.1
theorem dX7_copyOfIt_5 : decode cX7_copyOfIt 5 = .ok (.getfield 7, 3) := da9_dX7_copyOfIt_0.2.2.2.1
theorem dX7_copyOfIt_8 : decode cX7_copyOfIt 8 = .ok (.aload_n 0, 1) := da9_dX7_copyOfIt_0.2.2.2.2.1
theorem dX7_copyOfIt_9 : decode cX7_copyOfIt 9 = .ok (.getfield 13, 3) := da9_dX7_copyOfIt_0.2.2.2.2.2.1
theorem dX7_copyOfIt_12 : decode cX7_copyOfIt 12 = .ok (.invokespecial 35, 3) := da9_dX7_copyOfIt_0.2.2.2.2.2.2.1
theorem dX7_copyOfIt_15 : decode cX7_copyOfIt 15 = .ok (.astore_n 1, 1) := da9_dX7_copyOfIt_0.2.2.2.2.2.2.2.1
theorem dX7_copyOfIt_16 : decode cX7_copyOfIt 16 = .ok (.aload_n 1, 1) := da9_dX7_copyOfIt_0.2.2.2.2.2.2.2.2.1
theorem dX7_copyOfIt_17 : decode cX7_copyOfIt 17 = .ok (.aload_n 0, 1) := da9_dX7_copyOfIt_0.2.2.2.2.2.2.2.2.2.1
theorem dX7_copyOfIt_18 : decode cX7_copyOfIt 18 = .ok (.getfield 7, 3) := da9_dX7_copyOfIt_0.2.2.2.2.2.2.2.2.2.2.1
theorem dX7_copyOfIt_21 : decode cX7_copyOfIt 21 = .ok (.putfield 7, 3) := da9_dX7_copyOfIt_0.2.2.2.2.2.2.2.2.2.2.2.1
theorem dX7_copyOfIt_24 : decode cX7_copyOfIt 24 = .ok (.aload_n 1, 1) := da9_dX7_copyOfIt_0.2.2.2.2.2.2.2.2.2.2.2.2.1
theorem dX7_copyOfIt_25 : decode cX7_copyOfIt 25 = .ok (.aload_n 0, 1) := da9_dX7_copyOfIt_0.2.2.2.2.2.2.2.2.2.2.2.2.2.1
theorem dX7_copyOfIt_26 : decode cX7_copyOfIt 26 = .ok (.getfield 13, 3) := da9_dX7_copyOfIt_0.2.2.2.2.2.2.2.2.2.2.2.2.2.2.1
theorem dX7_copyOfIt_29 : decode cX7_copyOfIt 29 = .ok (.putfield 13, 3) := da9_dX7_copyOfIt_0.2.2.2.2.2.2.2.2.2.2.2.2.2.2.2
theorem da9_dX7_copyOfIt_32 : (decode cX7_copyOfIt 32 = .ok (.iconst 0, 1)) ∧ (decode cX7_copyOfIt 33 = .ok (.istore_n 2, 1)) ∧ (decode cX7_copyOfIt 34 = .ok (.iload_n 2, 1)) ∧ (decode cX7_copyOfIt 35 = .ok (.aload_n 0, 1)) ∧ (decode cX7_copyOfIt 36 = .ok (.getfield 7, 3)) ∧ (decode cX7_copyOfIt 39 = .ok (.if_icmp .ge 69, 3)) ∧ (decode cX7_copyOfIt 42 = .ok (.aload_n 1, 1)) ∧ (decode cX7_copyOfIt 43 = .ok (.getfield 16, 3)) ∧ (decode cX7_copyOfIt 46 = .ok (.iload_n 2, 1)) ∧ (decode cX7_copyOfIt 47 = .ok (.aload_n 0, 1)) ∧ (decode cX7_copyOfIt 48 = .ok (.getfield 16, 3)) ∧ (decode cX7_copyOfIt 51 = .ok (.iload_n 2, 1)) ∧ (decode cX7_copyOfIt 52 = .ok (.iaload, 1)) ∧ (decode cX7_copyOfIt 53 = .ok (.iastore, 1)) ∧ (decode cX7_copyOfIt 54 = .ok (.aload_n 1, 1)) ∧ (decode cX7_copyOfIt 55 = .ok (.getfield 20, 3)) := by decide +kernel
theorem dX7_copyOfIt_32 : decode cX7_copyOfIt 32 = .ok (.iconst 0, 1) := da9_dX7_copyOfIt_32.1
theorem dX7_copyOfIt_33 : decode cX7_copyOfIt 33 = .ok (.istore_n 2, 1) := da9_dX7_copyOfIt_32.2.1
theorem dX7_copyOfIt_34 : decode cX7_copyOfIt 34 = .ok (.iload_n 2, 1) := da9_dX7_copyOfIt_32.2.2.1
theorem dX7_copyOfIt_35 : decode cX7_copyOfIt 35 = .ok (.aload_n 0, 1) := da9_dX7_copyOfIt_32.2.2.2.1
theorem dX7_copyOfIt_36 : decode cX7_copyOfIt 36 = .ok (.getfield 7, 3) := da9_dX7_copyOfIt_32.2.2.2.2.1
theorem dX7_copyOfIt_39 : decode cX7_copyOfIt 39 = .ok (.if_icmp .ge 69, 3) := da9_dX7_copyOfIt_32.2.2.2.2.2.1
theorem dX7_copyOfIt_42 : decode cX7_copyOfIt 42 = .ok (.aload_n 1, 1) := da9_dX7_copyOfIt_32.2.2.2.2.2.2.1
theorem dX7_copyOfIt_43 : decode cX7_copyOfIt 43 = .ok (.getfield 16, 3) := da9_dX7_copyOfIt_32.2.2.2.2.2.2.2.1
theorem dX7_copyOfIt_46 : decode cX7_copyOfIt 46 = .ok (.iload_n 2, 1) := da9_dX7_copyOfIt_32.2.2.2.2.2.2.2.2.1
theorem dX7_copyOfIt_47 : decode cX7_copyOfIt 47 = .ok (.aload_n 0, 1) := da9_dX7_copyOfIt_32.2.2.2.2.2.2.2.2.2.1
theorem dX7_copyOfIt_48 : decode cX7_copyOfIt 48 = .ok (.getfield 16, 3) := da9_dX7_copyOfIt_32.2.2.2.2.2.2.2.2.2.2.1
theorem dX7_copyOfIt_51 : decode cX7_copyOfIt 51 = .ok (.iload_n 2, 1) := da9_dX7_copyOfIt_32.2.2.2.2.2.2.2.2.2.2.2.1
theorem dX7_copyOfIt_52 : decode cX7_copyOfIt 52 = .ok (.iaload, 1) := da9_dX7_copyOfIt_32.2.2.2.2.2.2.2.2.2.2.2.2.1
theorem dX7_copyOfIt_53 : decode cX7_copyOfIt 53 = .ok (.iastore, 1) := da9_dX7_copyOfIt_32.2.2.2.2.2.2.2.2.2.2.2.2.2.1
theorem dX7_copyOfIt_54 : decode cX7_copyOfIt 54 = .ok (.aload_n 1, 1) := da9_dX7_copyOfIt_32.2.2.2.2.2.2.2.2.2.2.2.2.2.2.1
theorem dX7_copyOfIt_55 : decode cX7_copyOfIt 55 = .ok (.getfield 20, 3) := da9_dX7_copyOfIt_32.2.2.2.2.2.2.2.2.2.2.2.2.2.2.2
theorem da9_dX7_copyOfIt_58 : (decode cX7_copyOfIt 58 = .ok (.iload_n 2, 1)) ∧ (decode cX7_copyOfIt 59 = .ok (.aload_n 0, 1)) ∧ (decode cX7_copyOfIt 60 = .ok (.getfield 20, 3)) ∧ (decode cX7_copyOfIt 63 = .ok (.iload_n 2, 1)) ∧ (decode cX7_copyOfIt 64 = .ok (.iaload, 1)) ∧ (decode cX7_copyOfIt 65 = .ok (.iastore, 1)) ∧ (decode cX7_copyOfIt 66 = .ok (.aload_n 1, 1)) ∧ (decode cX7_copyOfIt 67 = .ok (.getfield 23, 3)) ∧ (decode cX7_copyOfIt 70 = .ok (.iload_n 2, 1)) ∧ (decode cX7_copyOfIt 71 = .ok (.aload_n 0, 1)) ∧ (decode cX7_copyOfIt 72 = .ok (.getfield 23, 3)) ∧ (decode cX7_copyOfIt 75 = .ok (.iload_n 2, 1)) ∧ (decode cX7_copyOfIt 76 = .ok (.iaload, 1)) ∧ (decode cX7_copyOfIt 77 = .ok (.iastore, 1)) ∧ (decode cX7_copyOfIt 78 = .ok (.aload_n 1, 1)) ∧ (decode cX7_copyOfIt 79 = .ok (.getfield 26, 3)) := by decide +kernel
theorem dX7_copyOfIt_58 : decode cX7_copyOfIt 58 = .ok (.iload_n 2, 1) := da9_dX7_copyOfIt_58.1
theorem dX7_copyOfIt_59 : decode cX7_copyOfIt 59 = .ok (.aload_n 0, 1) := da9_dX7_copyOfIt_58.2.1
theorem dX7_copyOfIt_60 : decode cX7_copyOfIt 60 = .ok (.getfield 20, 3) := da9_dX7_copyOfIt_58.2.2.1
theorem dX7_copyOfIt_63 : decode cX7_copyOfIt 63 = .ok (.iload_n 2, 1) := da9_dX7_copyOfIt_58.2.2.2.1
theorem dX7_copyOfIt_64 : decode cX7_copyOfIt 64 = .ok (.iaload, 1) := da9_dX7_copyOfIt_58.2.2.2.2.1
theorem dX7_copyOfIt_65 : decode cX7_copyOfIt 65 = .ok (.iastore, 1) := da9_dX7_copyOfIt_58.2.2.2.2.2.1
theorem dX7_copyOfIt_66 : decode cX7_copyOfIt 66 = .ok (.aload_n 1, 1) := da9_dX7_copyOfIt_58.2.2.2.2.2.2.1
theorem dX7_copyOfIt_67 : decode cX7_copyOfIt 67 = .ok (.getfield 23, 3) := da9_dX7_copyOfIt_58.2.2.2.2.2.2.2.1
theorem dX7_copyOfIt_70 : decode cX7_copyOfIt 70 = .ok (.iload_n 2, 1) := da9_dX7_copyOfIt_58.2.2.2.2.2.2.2.2.1
theorem dX7_copyOfIt_71 : decode cX7_copyOfIt 71 = .ok (.aload_n 0, 1) := da9_dX7_copyOfIt_58.2.2.2.2.2.2.2.2.2.1
theorem dX7_copyOfIt_72 : decode cX7_copyOfIt 72 = .ok (.getfield 23, 3) := da9_dX7_copyOfIt_58.2.2.2.2.2.2.2.2.2.2.1
theorem dX7_copyOfIt_75 : decode cX7_copyOfIt 75 = .ok (.iload_n 2, 1) := da9_dX7_copyOfIt_58.2.2.2.2.2.2.2.2.2.2.2.1
theorem dX7_copyOfIt_76 : decode cX7_copyOfIt 76 = .ok (.iaload, 1) := da9_dX7_copyOfIt_58.2.2.2.2.2.2.2.2.2.2.2.2.1
theorem dX7_copyOfIt_77 : decode cX7_copyOfIt 77 = .ok (.iastore, 1) := da9_dX7_copyOfIt_58.2.2.2.2.2.2.2.2.2.2.2.2.2.1
theorem dX7_copyOfIt_78 : decode cX7_copyOfIt 78 = .ok (.aload_n 1, 1) := da9_dX7_copyOfIt_58.2.2.2.2.2.2.2.2.2.2.2.2.2.2.1
theorem dX7_copyOfIt_79 : decode cX7_copyOfIt 79 = .ok (.getfield 26, 3) := da9_dX7_copyOfIt_58.2.2.2.2.2.2.2.2.2.2.2.2.2.2.2
theorem da9_dX7_copyOfIt_82 : (decode cX7_copyOfIt 82 = .ok (.iload_n 2, 1)) ∧ (decode cX7_copyOfIt 83 = .ok (.aload_n 0, 1)) ∧ (decode cX7_copyOfIt 84 = .ok (.getfield 26, 3)) ∧ (decode cX7_copyOfIt 87 = .ok (.iload_n 2, 1)) ∧ (decode cX7_copyOfIt 88 = .ok (.iaload, 1)) ∧ (decode cX7_copyOfIt 89 = .ok (.iastore, 1)) ∧ (decode cX7_copyOfIt 90 = .ok (.aload_n 1, 1)) ∧ (decode cX7_copyOfIt 91 = .ok (.getfield 29, 3)) ∧ (decode cX7_copyOfIt 94 = .ok (.iload_n 2, 1)) ∧ (decode cX7_copyOfIt 95 = .ok (.aload_n 0, 1)) ∧ (decode cX7_copyOfIt 96 = .ok (.getfield 29, 3)) ∧ (decode cX7_copyOfIt 99 = .ok (.iload_n 2, 1)) ∧ (decode cX7_copyOfIt 100 = .ok (.iaload, 1)) ∧ (decode cX7_copyOfIt 101 = .ok (.iastore, 1)) ∧ (decode cX7_copyOfIt 102 = .ok (.iinc 2 1, 3)) ∧ (decode cX7_copyOfIt 105 = .ok (.goto (-71), 3)) := by decide +kernel
theorem dX7_copyOfIt_82 : decode cX7_copyOfIt 82 = .ok (.iload_n 2, 1) := da9_dX7_copyOfIt_82.1
theorem dX7_copyOfIt_83 : decode cX7_copyOfIt 83 = .ok (.aload_n 0, 1) := da9_dX7_copyOfIt_82.2.1
theorem dX7_copyOfIt_84 : decode cX7_copyOfIt 84 = .ok (.getfield 26, 3) := da9_dX7_copyOfIt_82.2.2.1
theorem dX7_copyOfIt_87 : decode cX7_copyOfIt 87 = .ok (.iload_n 2, 1) := da9_dX7_copyOfIt_82.2.2.2.1
theorem dX7_copyOfIt_88 : decode cX7_copyOfIt 88 = .ok (.iaload, 1) := da9_dX7_copyOfIt_82.2.2.2.2.1
theorem dX7_copyOfIt_89 : decode cX7_copyOfIt 89 = .ok (.iastore, 1) := da9_dX7_copyOfIt_82.2.2.2.2.2.1
theorem dX7_copyOfIt_90 : decode cX7_copyOfIt 90 = .ok (.aload_n 1, 1) := da9_dX7_copyOfIt_82.2.2.2.2.2.2.1
theorem dX7_copyOfIt_91 : decode cX7_copyOfIt 91 = .ok (.getfield 29, 3) := da9_dX7_copyOfIt_82.2.2.2.2.2.2.2.1
theorem dX7_copyOfIt_94 : decode cX7_copyOfIt 94 = .ok (.iload_n 2, 1) := da9_dX7_copyOfIt_82.2.2.2.2.2.2.2.2.1
theorem dX7_copyOfIt_95 : decode cX7_copyOfIt 95 = .ok (.aload_n 0, 1) := da9_dX7_copyOfIt_82.2.2.2.2.2.2.2.2.2.1
theorem dX7_copyOfIt_96 : decode cX7_copyOfIt 96 = .ok (.getfield 29, 3) := da9_dX7_copyOfIt_82.2.2.2.2.2.2.2.2.2.2.1
theorem dX7_copyOfIt_99 : decode cX7_copyOfIt 99 = .ok (.iload_n 2, 1) := da9_dX7_copyOfIt_82.2.2.2.2.2.2.2.2.2.2.2.1
theorem dX7_copyOfIt_100 : decode cX7_copyOfIt 100 = .ok (.iaload, 1) := da9_dX7_copyOfIt_82.2.2.2.2.2.2.2.2.2.2.2.2.1
theorem dX7_copyOfIt_101 : decode cX7_copyOfIt 101 = .ok (.iastore, 1) := da9_dX7_copyOfIt_82.2.2.2.2.2.2.2.2.2.2.2.2.2.1
theorem dX7_copyOfIt_102 : decode cX7_copyOfIt 102 = .ok (.iinc 2 1, 3) := da9_dX7_copyOfIt_82.2.2.2.2.2.2.2.2.2.2.2.2.2.2.1
theorem dX7_copyOfIt_105 : decode cX7_copyOfIt 105 = .ok (.goto (-71), 3) := da9_dX7_copyOfIt_82.2.2.2.2.2.2.2.2.2.2.2.2.2.2.2
theorem da9_dX7_copyOfIt_108 : (decode cX7_copyOfIt 108 = .ok (.aload_n 0, 1)) ∧ (decode cX7_copyOfIt 109 = .ok (.getfield 32, 3)) ∧ (decode cX7_copyOfIt 112 = .ok (.iconst 0, 1)) ∧ (decode cX7_copyOfIt 113 = .ok (.aload_n 1, 1)) ∧ (decode cX7_copyOfIt 114 = .ok (.getfield 32, 3)) ∧ (decode cX7_copyOfIt 117 = .ok (.iconst 0, 1)) ∧ (decode cX7_copyOfIt 118 = .ok (.aload_n 0, 1)) ∧ (decode cX7_copyOfIt 119 = .ok (.getfield 13, 3)) ∧ (decode cX7_copyOfIt 122 = .ok (.invokestatic 38, 3)) ∧ (decode cX7_copyOfIt 125 = .ok (.aload_n 1, 1)) ∧ (decode cX7_copyOfIt 126 = .ok (.areturn, 1)) := by decide +kernel
theorem dX7_copyOfIt_108 : decode cX7_copyOfIt 108 = .ok (.aload_n 0, 1) := da9_dX7_copyOfIt_108.1
theorem dX7_copyOfIt_109 : decode cX7_copyOfIt 109 = .ok (.getfield 32, 3) := da9_dX7_copyOfIt_108.2.1
theorem dX7_copyOfIt_112 : decode cX7_copyOfIt 112 = .ok (.iconst 0, 1) := da9_dX7_copyOfIt_108.2.2.1
theorem dX7_copyOfIt_113 : decode cX7_copyOfIt 113 = .ok (.aload_n 1, 1) := da9_dX7_copyOfIt_108.2.2.2.1
theorem dX7_copyOfIt_114 : decode cX7_copyOfIt 114 = .ok (.getfield 32, 3) := da9_dX7_copyOfIt_108.2.2.2.2.1
theorem dX7_copyOfIt_117 : decode cX7_copyOfIt 117 = .ok (.iconst 0, 1) := da9_dX7_copyOfIt_108.2.2.2.2.2.1
theorem dX7_copyOfIt_118 : decode cX7_copyOfIt 118 = .ok (.aload_n 0, 1) := da9_dX7_copyOfIt_108.2.2.2.2.2.2.1
theorem dX7_copyOfIt_119 : decode cX7_copyOfIt 119 = .ok (.getfield 13, 3) := da9_dX7_copyOfIt_108.2.2.2.2.2.2.2.1
theorem dX7_copyOfIt_122 : decode cX7_copyOfIt 122 = .ok (.invokestatic 38, 3) := da9_dX7_copyOfIt_108.2.2.2.2.2.2.2.2.1
theorem dX7_copyOfIt_125 : decode cX7_copyOfIt 125 = .ok (.aload_n 1, 1) := da9_dX7_copyOfIt_108.2.2.2.2.2.2.2.2.2.1
theorem dX7_copyOfIt_126 : decode cX7_copyOfIt 126 = .ok (.areturn, 1) := da9_dX7_copyOfIt_108.2.2.2.2.2.2.2.2.2.2
theorem da9_dX8_pack_0 : (decode cX8_pack 0 = .ok (.aload_n 0, 1)) ∧ (decode cX8_pack 1 = .ok (.getfield 18, 3)) ∧ (decode cX8_pack 4 = .ok (.i2l, 1)) ∧ (decode cX8_pack 5 = .ok (.lstore_n 1, 1)) ∧ (decode cX8_pack 6 = .ok (.iconst 0, 1)) ∧ (decode cX8_pack 7 = .ok (.istore_n 3, 1)) ∧ (decode cX8_pack 8 = .ok (.iload_n 3, 1)) ∧ (decode cX8_pack 9 = .ok (.bipush 6, 2)) ∧ (decode cX8_pack 11 = .ok (.if_icmp .ge 31, 3)) ∧ (decode cX8_pack 14 = .ok (.lload_n 1, 1)) ∧ (decode cX8_pack 15 = .ok (.iconst 4, 1)) ∧ (decode cX8_pack 16 = .ok (.lshl, 1)) ∧ (decode cX8_pack 17 = .ok (.aload_n 0, 1)) ∧ (decode cX8_pack 18 = .ok (.getfield 9, 3)) ∧ (decode cX8_pack 21 = .ok (.iload_n 3, 1)) ∧ (decode cX8_pack 22 = .ok (.iaload, 1)) := by decide +kernel
theorem dX8_pack_0 : decode cX8_pack 0 = .ok (.aload_n 0, 1) := da9_dX8_pack_0.1
theorem dX8_pack_1 : decode cX8_pack 1 = .ok (.getfield 18, 3) := da9_dX8_pack_0.2.1
theorem dX8_pack_4 : decode cX8_pack 4 = .ok (.i2l, 1) := da9_dX8_pack_0.2.2.1
theorem dX8_pack_5 : decode cX8_pack 5 = .ok (.lstore_n 1, 1) := da9_dX8_pack_0.2.2.2.1
theorem dX8_pack_6 : decode cX8_pack 6 = .ok (.iconst 0, 1) := da9_dX8_pack_0.2.2.2.2.1
theorem dX8_pack_7 : decode cX8_pack 7 = .ok (.istore_n 3, 1) := da9_dX8_pack_0.2.2.2.2.2.1
theorem dX8_pack_8 : decode cX8_pack 8 = .ok (.iload_n 3, 1) := da9_dX8_pack_0.2.2.2.2.2.2.1
theorem dX8_pack_9 : decode cX8_pack 9 = .ok (.bipush 6, 2) := da9_dX8_pack_0.2.2.2.2.2.2.2.1
theorem dX8_pack_11 : decode cX8_pack 11 = .ok (.if_icmp .ge 31, 3) := da9_dX8_pack_0.2.2.2.2.2.2.2.2.1
theorem dX8_pack_14 : decode cX8_pack 14 = .ok (.lload_n 1, 1) := da9_dX8_pack_0.2.2.2.2.2.2.2.2.2.1
theorem dX8_pack_15 : decode cX8_pack 15 = .ok (.iconst 4, 1) := da9_dX8_pack_0.2.2.2.2.2.2.2.2.2.2.1
theorem dX8_pack_16 : decode cX8_pack 16 = .ok (.lshl, 1) := da9_dX8_pack_0.2.2.2.2.2.2.2.2.2.2.2.1
theorem dX8_pack_17 : decode cX8_pack 17 = .ok (.aload_n 0, 1) := da9_dX8_pack_0.2.2.2.2.2.2.2.2.2.2.2.2.1
theorem dX8_pack_18 : decode cX8_pack 18 = .ok (.getfield 9, 3) := da9_dX8_pack_0.2.2.2.2.2.2.2.2.2.2.2.2.2.1
theorem dX8_pack_21 : decode cX8_pack 21 = .ok (.iload_n 3, 1) := da9_dX8_pack_0.2.2.2.2.2.2.2.2.2.2.2.2.2.2.1
theorem dX8_pack_22 : decode cX8_pack 22 = .ok (.iaload, 1) := da9_dX8_pack_0.2.2.2.2.2.2.2.2.2.2.2.2.2.2.2
theorem da9_dX8_pack_23 : (decode cX8_pack 23 = .ok (.iconst 1, 1)) ∧ (decode cX8_pack 24 = .ok (.ishl, 1)) ∧ (decode cX8_pack 25 = .ok (.i2l, 1)) ∧ (decode cX8_pack 26 = .ok (.lor, 1)) ∧ (decode cX8_pack 27 = .ok (.aload_n 0, 1)) ∧ (decode cX8_pack 28 = .ok (.getfield 15, 3)) ∧ (decode cX8_pack 31 = .ok (.iload_n 3, 1)) ∧ (decode cX8_pack 32 = .ok (.iaload, 1)) ∧ (decode cX8_pack 33 = .ok (.i2l, 1)) ∧ (decode cX8_pack 34 = .ok (.lor, 1)) ∧ (decode cX8_pack 35 = .ok (.lstore_n 1, 1)) ∧ (decode cX8_pack 36 = .ok (.iinc 3 1, 3)) ∧ (decode cX8_pack 39 = .ok (.goto (-31), 3)) ∧ (decode cX8_pack 42 = .ok (.lload_n 1, 1)) ∧ (decode cX8_pack 43 = .ok (.bipush 14, 2)) ∧ (decode cX8_pack 45 = .ok (.lshl, 1)) := by decide +kernel
theorem dX8_pack_23 : decode cX8_pack 23 = .ok (.iconst 1, 1) := da9_dX8_pack_23.1
theorem dX8_pack_24 : decode cX8_pack 24 = .ok (.ishl, 1) := da9_dX8_pack_23.2.1
theorem dX8_pack_25 : decode cX8_pack 25 = .ok (.i2l, 1) := da9_dX8_pack_23.2.2.1
theorem dX8_pack_26 : decode cX8_pack 26 = .ok (.lor, 1) := da9_dX8_pack_23.2.2.2.1
theorem dX8_pack_27 : decode cX8_pack 27 = .ok (.aload_n 0, 1) := da9_dX8_pack_23.2.2.2.2.1
theorem dX8_pack_28 : decode cX8_pack 28 = .ok (.getfield 15, 3) := da9_dX8_pack_23.2.2.2.2.2.1
theorem dX8_pack_31 : decode cX8_pack 31 = .ok (.iload_n 3, 1) := da9_dX8_pack_23.2.2.2.2.2.2.1
theorem dX8_pack_32 : decode cX8_pack 32 = .ok (.iaload, 1) := da9_dX8_pack_23.2.2.2.2.2.2.2.1
theorem dX8_pack_33 : decode cX8_pack 33 = .ok (.i2l, 1) := da9_dX8_pack_23.2.2.2.2.2.2.2.2.1
theorem dX8_pack_34 : decode cX8_pack 34 = .ok (.lor, 1) := da9_dX8_pack_23.2.2.2.2.2.2.2.2.2.1
theorem dX8_pack_35 : decode cX8_pack 35 = .ok (.lstore_n 1, 1) := da9_dX8_pack_23.2.2.2.2.2.2.2.2.2.2.1
theorem dX8_pack_36 : decode cX8_pack 36 = .ok (.iinc 3 1, 3) := da9_dX8_pack_23.2.2.2.2.2.2.2.2.2.2.2.1
theorem dX8_pack_39 : decode cX8_pack 39 = .ok (.goto (-31), 3) := da9_dX8_pack_23.2.2.2.2.2.2.2.2.2.2.2.2.1
theorem dX8_pack_42 : decode cX8_pack 42 = .ok (.lload_n 1, 1) := da9_dX8_pack_23.2.2.2.2.2.2.2.2.2.2.2.2.2.1
theorem dX8_pack_43 : decode cX8_pack 43 = .ok (.bipush 14, 2) := da9_dX8_pack_23.2.2.2.2.2.2.2.2.2.2.2.2.2.2.1
theorem dX8_pack_45 : decode cX8_pack 45 = .ok (.lshl, 1) := da9_dX8_pack_23.2.2.2.2.2.2.2.2.2.2.2.2.2.2.2
theorem da9_dX8_pack_46 : (decode cX8_pack 46 = .ok (.aload_n 0, 1)) ∧ (decode cX8_pack 47 = .ok (.getfield 22, 3)) ∧ (decode cX8_pack 50 = .ok (.i2l, 1)) ∧ (decode cX8_pack 51 = .ok (.lor, 1)) ∧ (decode cX8_pack 52 = .ok (.bipush 10, 2)) ∧ (decode cX8_pack 54 = .ok (.lshl, 1)) ∧ (decode cX8_pack 55 = .ok (.aload_n 0, 1)) ∧ (decode cX8_pack 56 = .ok (.getfield 25, 3)) ∧ (decode cX8_pack 59 = .ok (.i2l, 1)) ∧ (decode cX8_pack 60 = .ok (.lor, 1)) ∧ (decode cX8_pack 61 = .ok (.lreturn, 1)) := by decide +kernel
theorem dX8_pack_46 : decode cX8_pack 46 = .ok (.aload_n 0, 1) := da9_dX8_pack_46.1
theorem dX8_pack_47 : decode cX8_pack 47 = .ok (.getfield 22, 3) := da9_dX8_pack_46.2.1
theorem dX8_pack_50 : decode cX8_pack 50 = .ok (.i2l, 1) := da9_dX8_pack_46.2.2.1
theorem dX8_pack_51 : decode cX8_pack 51 = .ok (.lor, 1) := da9_dX8_pack_46.2.2.2.1
theorem dX8_pack_52 : decode cX8_pack 52 = .ok (.bipush 10, 2) := da9_dX8_pack_46.2.2.2.2.1
theorem dX8_pack_54 : decode cX8_pack 54 = .ok (.lshl, 1) := da9_dX8_pack_46.2.2.2.2.2.1
theorem dX8_pack_55 : decode cX8_pack 55 = .ok (.aload_n 0, 1) := da9_dX8_pack_46.2.2.2.2.2.2.1
theorem dX8_pack_56 : decode cX8_pack 56 = .ok (.getfield 25, 3) := da9_dX8_pack_46.2.2.2.2.2.2.2.1
theorem dX8_pack_59 : decode cX8_pack 59 = .ok (.i2l, 1) := da9_dX8_pack_46.2.2.2.2.2.2.2.2.1
theorem dX8_pack_60 : decode cX8_pack 60 = .ok (.lor, 1) := da9_dX8_pack_46.2.2.2.2.2.2.2.2.2.1
theorem dX8_pack_61 : decode cX8_pack 61 = .ok (.lreturn, 1) := da9_dX8_pack_46.2.2.2.2.2.2.2.2.2.2
set_option maxRecDepth 20000 in
theorem ggX8_gapCount_X8_anyBetween : GoodIn wsX8_gapCount wsX8_anyBetween := goodIn_r _ [14, 1, 2, 18, 19, 20, 21, 22] rfl (by decide +kernel)
set_option maxRecDepth 20000 in
theorem gX8_gapCount_X8_anyBetween : GoodIn wsX8_gapCount (wsV RX8 91 RX8 yX8_anyBetween wsX8_anyBetween) := goodIn_app (goodIn_of _ (by decide +kernel)) ggX8_gapCount_X8_anyBetween
set_option maxRecDepth 20000 in
theorem ggX8_gapCount_X9_bit : GoodIn wsX8_gapCount wsX9_bit := goodIn_r _ [17] rfl (by decide +kernel)
set_option maxRecDepth 20000 in
theorem gX8_gapCount_X9_bit_n79 : GoodIn wsX8_gapCount (wsX9_bit) := ggX8_gapCount_X9_bit
theorem da9_dX8_gapCount_0 : (decode cX8_gapCount 0 = .ok (.iconst 0, 1)) ∧ (decode cX8_gapCount 1 = .ok (.istore_n 1, 1)) ∧ (decode cX8_gapCount 2 = .ok (.iconst 0, 1)) ∧ (decode cX8_gapCount 3 = .ok (.istore_n 2, 1)) ∧ (decode cX8_gapCount 4 = .ok (.iload_n 2, 1)) ∧ (decode cX8_gapCount 5 = .ok (.iconst 1, 1)) ∧ (decode cX8_gapCount 6 = .ok (.iadd, 1)) ∧ (decode cX8_gapCount 7 = .ok (.aload_n 0, 1)) ∧ (decode cX8_gapCount 8 = .ok (.getfield 18, 3)) ∧ (decode cX8_gapCount 11 = .ok (.if_icmp .ge 53, 3)) ∧ (decode cX8_gapCount 14 = .ok (.iload_n 1, 1)) ∧ (decode cX8_gapCount 15 = .ok (.aload_n 0, 1)) ∧ (decode cX8_gapCount 16 = .ok (.aload_n 0, 1)) ∧ (decode cX8_gapCount 17 = .ok (.getfield 9, 3)) ∧ (decode cX8_gapCount 20 = .ok (.iload_n 2, 1)) ∧ (decode cX8_gapCount 21 = .ok (.iaload, 1)) := by decide +kernel
theorem dX8_gapCount_0 : decode cX8_gapCount 0 = .ok (.iconst 0, 1) := da9_dX8_gapCount_0.1
theorem dX8_gapCount_1 : decode cX8_gapCount 1 = .ok (.istore_n 1, 1) := da9_dX8_gapCount_0.2.1
theorem dX8_gapCount_2 : decode cX8_gapCount 2 = .ok (.iconst 0, 1) := da9_dX8_gapCount_0.2.2.1
theorem dX8_gapCount_3 : decode cX8_gapCount 3 = .ok (.istore_n 2, 1) := da9_dX8_gapCount_0.2.2.2.1
theorem dX8_gapCount_4 : decode cX8_gapCount 4 = .ok (.iload_n 2, 1) := da9_dX8_gapCount_0.2.2.2.2.1
theorem dX8_gapCount_5 : decode cX8_gapCount 5 = .ok (.iconst 1, 1) := da9_dX8_gapCount_0.2.2.2.2.2.1
theorem dX8_gapCount_6 : decode cX8_gapCount 6 = .ok (.iadd, 1) := da9_dX8_gapCount_0.2.2.2.2.2.2.1
theorem dX8_gapCount_7 : decode cX8_gapCount 7 = .ok (.aload_n 0, 1) := da9_dX8_gapCount_0.2.2.2.2.2.2.2.1
theorem dX8_gapCount_8 : decode cX8_gapCount 8 = .ok (.getfield 18, 3) := da9_dX8_gapCount_0.2.2.2.2.2.2.2.2.1
theorem dX8_gapCount_11 : decode cX8_gapCount 11 = .ok (.if_icmp .ge 53, 3) := da9_dX8_gapCount_0.2.2.2.2.2.2.2.2.2.1
theorem dX8_gapCount_14 : decode cX8_gapCount 14 = .ok (.iload_n 1, 1) := da9_dX8_gapCount_0.2.2.2.2.2.2.2.2.2.2.1
theorem dX8_gapCount_15 : decode cX8_gapCount 15 = .ok (.aload_n 0, 1) := da9_dX8_gapCount_0.2.2.2.2.2.2.2.2.2.2.2.1
theorem dX8_gapCount_16 : decode cX8_gapCount 16 = .ok (.aload_n 0, 1) := da9_dX8_gapCount_0.2.2.2.2.2.2.2.2.2.2.2.2.1
theorem dX8_gapCount_17 : decode cX8_gapCount 17 = .ok (.getfield 9, 3) := da9_dX8_gapCount_0.2.2.2.2.2.2.2.2.2.2.2.2.2.1
theorem dX8_gapCount_20 : decode cX8_gapCount 20 = .ok (.iload_n 2, 1) := da9_dX8_gapCount_0.2.2.2.2.2.2.2.2.2.2.2.2.2.2.1
theorem dX8_gapCount_21 : decode cX8_gapCount 21 = .ok (.iaload, 1) := da9_dX8_gapCount_0.2.2.2.2.2.2.2.2.2.2.2.2.2.2.2
theorem da9_dX8_gapCount_22 : (decode cX8_gapCount 22 = .ok (.aload_n 0, 1)) ∧ (decode cX8_gapCount 23 = .ok (.getfield 9, 3)) ∧ (decode cX8_gapCount 26 = .ok (.iload_n 2, 1)) ∧ (decode cX8_gapCount 27 = .ok (.iconst 1, 1)) ∧ (decode cX8_gapCount 28 = .ok (.iadd, 1)) ∧ (decode cX8_gapCount 29 = .ok (.iaload, 1)) ∧ (decode cX8_gapCount 30 = .ok (.invokestatic 41, 3)) ∧ (decode cX8_gapCount 33 = .ok (.aload_n 0, 1)) ∧ (decode cX8_gapCount 34 = .ok (.getfield 9, 3)) ∧ (decode cX8_gapCount 37 = .ok (.iload_n 2, 1)) ∧ (decode cX8_gapCount 38 = .ok (.iaload, 1)) ∧ (decode cX8_gapCount 39 = .ok (.aload_n 0, 1)) ∧ (decode cX8_gapCount 40 = .ok (.getfield 9, 3)) ∧ (decode cX8_gapCount 43 = .ok (.iload_n 2, 1)) ∧ (decode cX8_gapCount 44 = .ok (.iconst 1, 1)) ∧ (decode cX8_gapCount 45 = .ok (.iadd, 1)) := by decide +kernel
theorem dX8_gapCount_22 : decode cX8_gapCount 22 = .ok (.aload_n 0, 1) := da9_dX8_gapCount_22.1
theorem dX8_gapCount_23 : decode cX8_gapCount 23 = .ok (.getfield 9, 3) := da9_dX8_gapCount_22.2.1
theorem dX8_gapCount_26 : decode cX8_gapCount 26 = .ok (.iload_n 2, 1) := da9_dX8_gapCount_22.2.2.1
theorem dX8_gapCount_27 : decode cX8_gapCount 27 = .ok (.iconst 1, 1) := da9_dX8_gapCount_22.2.2.2.1
theorem dX8_gapCount_28 : decode cX8_gapCount 28 = .ok (.iadd, 1) := da9_dX8_gapCount_22.2.2.2.2.1
theorem dX8_gapCount_29 : decode cX8_gapCount 29 = .ok (.iaload, 1) := da9_dX8_gapCount_22.2.2.2.2.2.1
theorem dX8_gapCount_30 : decode cX8_gapCount 30 = .ok (.invokestatic 41, 3) := da9_dX8_gapCount_22.2.2.2.2.2.2.1
theorem dX8_gapCount_33 : decode cX8_gapCount 33 = .ok (.aload_n 0, 1) := da9_dX8_gapCount_22.2.2.2.2.2.2.2.1
theorem dX8_gapCount_34 : decode cX8_gapCount 34 = .ok (.getfield 9, 3) := da9_dX8_gapCount_22.2.2.2.2.2.2.2.2.1
theorem dX8_gapCount_37 : decode cX8_gapCount 37 = .ok (.iload_n 2, 1) := da9_dX8_gapCount_22.2.2.2.2.2.2.2.2.2.1
theorem dX8_gapCount_38 : decode cX8_gapCount 38 = .ok (.iaload, 1) := da9_dX8_gapCount_22.2.2.2.2.2.2.2.2.2.2.1
theorem dX8_gapCount_39 : decode cX8_gapCount 39 = .ok (.aload_n 0, 1) := da9_dX8_gapCount_22.2.2.2.2.2.2.2.2.2.2.2.1
theorem dX8_gapCount_40 : decode cX8_gapCount 40 = .ok (.getfield 9, 3) := da9_dX8_gapCount_22.2.2.2.2.2.2.2.2.2.2.2.2.1
theorem dX8_gapCount_43 : decode cX8_gapCount 43 = .ok (.iload_n 2, 1) := da9_dX8_gapCount_22.2.2.2.2.2.2.2.2.2.2.2.2.2.1
theorem dX8_gapCount_44 : decode cX8_gapCount 44 = .ok (.iconst 1, 1) := da9_dX8_gapCount_22.2.2.2.2.2.2.2.2.2.2.2.2.2.2.1
theorem dX8_gapCount_45 : decode cX8_gapCount 45 = .ok (.iadd, 1) := da9_dX8_gapCount_22.2.2.2.2.2.2.2.2.2.2.2.2.2.2.2
theorem da9_dX8_gapCount_46 : (decode cX8_gapCount 46 = .ok (.iaload, 1)) ∧ (decode cX8_gapCount 47 = .ok (.invokestatic 88, 3)) ∧ (decode cX8_gapCount 50 = .ok (.invokevirtual 91, 3)) ∧ (decode cX8_gapCount 53 = .ok (.invokestatic 79, 3)) ∧ (decode cX8_gapCount 56 = .ok (.iadd, 1)) ∧ (decode cX8_gapCount 57 = .ok (.istore_n 1, 1)) ∧ (decode cX8_gapCount 58 = .ok (.iinc 2 1, 3)) ∧ (decode cX8_gapCount 61 = .ok (.goto (-57), 3)) ∧ (decode cX8_gapCount 64 = .ok (.aload_n 0, 1)) ∧ (decode cX8_gapCount 65 = .ok (.getfield 18, 3)) ∧ (decode cX8_gapCount 68 = .ok (.ifCond .ne 7, 3)) ∧ (decode cX8_gapCount 71 = .ok (.iconst 0, 1)) ∧ (decode cX8_gapCount 72 = .ok (.goto 25, 3)) ∧ (decode cX8_gapCount 75 = .ok (.iload_n 1, 1)) ∧ (decode cX8_gapCount 76 = .ok (.aload_n 0, 1)) ∧ (decode cX8_gapCount 77 = .ok (.aload_n 0, 1)) := by decide +kernel
theorem dX8_gapCount_46 : decode cX8_gapCount 46 = .ok (.iaload, 1) := da9_dX8_gapCount_46.1
theorem dX8_gapCount_47 : decode cX8_gapCount 47 = .ok (.invokestatic 88, 3) := da9_dX8_gapCount_46.2.1
theorem dX8_gapCount_50 : decode cX8_gapCount 50 = .ok (.invokevirtual 91, 3) := da9_dX8_gapCount_46.2.2.1
theorem dX8_gapCount_53 : decode cX8_gapCount 53 = .ok (.invokestatic 79, 3) := da9_dX8_gapCount_46.2.2.2.1
theorem dX8_gapCount_56 : decode cX8_gapCount 56 = .ok (.iadd, 1) := da9_dX8_gapCount_46.2.2.2.2.1
theorem dX8_gapCount_57 : decode cX8_gapCount 57 = .ok (.istore_n 1, 1) := da9_dX8_gapCount_46.2.2.2.2.2.1
theorem dX8_gapCount_58 : decode cX8_gapCount 58 = .ok (.iinc 2 1, 3) := da9_dX8_gapCount_46.2.2.2.2.2.2.1
theorem dX8_gapCount_61 : decode cX8_gapCount 61 = .ok (.goto (-57), 3) := da9_dX8_gapCount_46.2.2.2.2.2.2.2.1
theorem dX8_gapCount_64 : decode cX8_gapCount 64 = .ok (.aload_n 0, 1) := da9_dX8_gapCount_46.2.2.2.2.2.2.2.2.1
theorem dX8_gapCount_65 : decode cX8_gapCount 65 = .ok (.getfield 18, 3) := da9_dX8_gapCount_46.2.2.2.2.2.2.2.2.2.1
theorem dX8_gapCount_68 : decode cX8_gapCount 68 = .ok (.ifCond .ne 7, 3) := da9_dX8_gapCount_46.2.2.2.2.2.2.2.2.2.2.1
theorem dX8_gapCount_71 : decode cX8_gapCount 71 = .ok (.iconst 0, 1) := da9_dX8_gapCount_46.2.2.2.2.2.2.2.2.2.2.2.1
theorem dX8_gapCount_72 : decode cX8_gapCount 72 = .ok (.goto 25, 3) := da9_dX8_gapCount_46.2.2.2.2.2.2.2.2.2.2.2.2.1
theorem dX8_gapCount_75 : decode cX8_gapCount 75 = .ok (.iload_n 1, 1) := da9_dX8_gapCount_46.2.2.2.2.2.2.2.2.2.2.2.2.2.1
theorem dX8_gapCount_76 : decode cX8_gapCount 76 = .ok (.aload_n 0, 1) := da9_dX8_gapCount_46.2.2.2.2.2.2.2.2.2.2.2.2.2.2.1
theorem dX8_gapCount_77 : decode cX8_gapCount 77 = .ok (.aload_n 0, 1) := da9_dX8_gapCount_46.2.2.2.2.2.2.2.2.2.2.2.2.2.2.2
theorem da9_dX8_gapCount_78 : (decode cX8_gapCount 78 = .ok (.getfield 9, 3)) ∧ (decode cX8_gapCount 81 = .ok (.aload_n 0, 1)) ∧ (decode cX8_gapCount 82 = .ok (.getfield 18, 3)) ∧ (decode cX8_gapCount 85 = .ok (.iconst 1, 1)) ∧ (decode cX8_gapCount 86 = .ok (.isub, 1)) ∧ (decode cX8_gapCount 87 = .ok (.iaload, 1)) ∧ (decode cX8_gapCount 88 = .ok (.bipush 6, 2)) ∧ (decode cX8_gapCount 90 = .ok (.invokevirtual 91, 3)) ∧ (decode cX8_gapCount 93 = .ok (.invokestatic 79, 3)) ∧ (decode cX8_gapCount 96 = .ok (.iadd, 1)) ∧ (decode cX8_gapCount 97 = .ok (.ireturn, 1)) := by decide +kernel
theorem dX8_gapCount_78 : decode cX8_gapCount 78 = .ok (.getfield 9, 3) := da9_dX8_gapCount_78.1
theorem dX8_gapCount_81 : decode cX8_gapCount 81 = .ok (.aload_n 0, 1) := da9_dX8_gapCount_78.2.1
theorem dX8_gapCount_82 : decode cX8_gapCount 82 = .ok (.getfield 18, 3) := da9_dX8_gapCount_78.2.2.1
theorem dX8_gapCount_85 : decode cX8_gapCount 85 = .ok (.iconst 1, 1) := da9_dX8_gapCount_78.2.2.2.1
theorem dX8_gapCount_86 : decode cX8_gapCount 86 = .ok (.isub, 1) := da9_dX8_gapCount_78.2.2.2.2.1
theorem dX8_gapCount_87 : decode cX8_gapCount 87 = .ok (.iaload, 1) := da9_dX8_gapCount_78.2.2.2.2.2.1
theorem dX8_gapCount_88 : decode cX8_gapCount 88 = .ok (.bipush 6, 2) := da9_dX8_gapCount_78.2.2.2.2.2.2.1
theorem dX8_gapCount_90 : decode cX8_gapCount 90 = .ok (.invokevirtual 91, 3) := da9_dX8_gapCount_78.2.2.2.2.2.2.2.1
theorem dX8_gapCount_93 : decode cX8_gapCount 93 = .ok (.invokestatic 79, 3) := da9_dX8_gapCount_78.2.2.2.2.2.2.2.2.1
theorem dX8_gapCount_96 : decode cX8_gapCount 96 = .ok (.iadd, 1) := da9_dX8_gapCount_78.2.2.2.2.2.2.2.2.2.1
theorem dX8_gapCount_97 : decode cX8_gapCount 97 = .ok (.ireturn, 1) := da9_dX8_gapCount_78.2.2.2.2.2.2.2.2.2.2
theorem da9_dX8_anyBetween_0 : (decode cX8_anyBetween 0 = .ok (.iconst 0, 1)) ∧ (decode cX8_anyBetween 1 = .ok (.istore_n 3, 1)) ∧ (decode cX8_anyBetween 2 = .ok (.iload_n 3, 1)) ∧ (decode cX8_anyBetween 3 = .ok (.aload_n 0, 1)) ∧ (decode cX8_anyBetween 4 = .ok (.getfield 18, 3)) ∧ (decode cX8_anyBetween 7 = .ok (.if_icmp .ge 31, 3)) ∧ (decode cX8_anyBetween 10 = .ok (.aload_n 0, 1)) ∧ (decode cX8_anyBetween 11 = .ok (.getfield 9, 3)) ∧ (decode cX8_anyBetween 14 = .ok (.iload_n 3, 1)) ∧ (decode cX8_anyBetween 15 = .ok (.iaload, 1)) ∧ (decode cX8_anyBetween 16 = .ok (.iload_n 1, 1)) ∧ (decode cX8_anyBetween 17 = .ok (.if_icmp .le 15, 3)) ∧ (decode cX8_anyBetween 20 = .ok (.aload_n 0, 1)) ∧ (decode cX8_anyBetween 21 = .ok (.getfield 9, 3)) ∧ (decode cX8_anyBetween 24 = .ok (.iload_n 3, 1)) ∧ (decode cX8_anyBetween 25 = .ok (.iaload, 1)) := by decide +kernel
theorem dX8_anyBetween_0 : decode cX8_anyBetween 0 = .ok (.iconst 0, 1) := da9_dX8_anyBetween_0.1
theorem dX8_anyBetween_1 : decode cX8_anyBetween 1 = .ok (.istore_n 3, 1) := da9_dX8_anyBetween_0.2.1
theorem dX8_anyBetween_2 : decode cX8_anyBetween 2 = .ok (.iload_n 3, 1) := da9_dX8_anyBetween_0.2.2.1
theorem dX8_anyBetween_3 : decode cX8_anyBetween 3 = .ok (.aload_n 0, 1) := da9_dX8_anyBetween_0.2.2.2.1
theorem dX8_anyBetween_4 : decode cX8_anyBetween 4 = .ok (.getfield 18, 3) := da9_dX8_anyBetween_0.2.2.2.2.1
theorem dX8_anyBetween_7 : decode cX8_anyBetween 7 = .ok (.if_icmp .ge 31, 3) := da9_dX8_anyBetween_0.2.2.2.2.2.1
theorem dX8_anyBetween_10 : decode cX8_anyBetween 10 = .ok (.aload_n 0, 1) := da9_dX8_anyBetween_0.2.2.2.2.2.2.1
theorem dX8_anyBetween_11 : decode cX8_anyBetween 11 = .ok (.getfield 9, 3) := da9_dX8_anyBetween_0.2.2.2.2.2.2.2.1
theorem dX8_anyBetween_14 : decode cX8_anyBetween 14 = .ok (.iload_n 3, 1) := da9_dX8_anyBetween_0.2.2.2.2.2.2.2.2.1
theorem dX8_anyBetween_15 : decode cX8_anyBetween 15 = .ok (.iaload, 1) := da9_dX8_anyBetween_0.2.2.2.2.2.2.2.2.2.1
theorem dX8_anyBetween_16 : decode cX8_anyBetween 16 = .ok (.iload_n 1, 1) := da9_dX8_anyBetween_0.2.2.2.2.2.2.2.2.2.2.1
theorem dX8_anyBetween_17 : decode cX8_anyBetween 17 = .ok (.if_icmp .le 15, 3) := da9_dX8_anyBetween_0.2.2.2.2.2.2.2.2.2.2.2.1
theorem dX8_anyBetween_20 : decode cX8_anyBetween 20 = .ok (.aload_n 0, 1) := da9_dX8_anyBetween_0.2.2.2.2.2.2.2.2.2.2.2.2.1
theorem dX8_anyBetween_21 : decode cX8_anyBetween 21 = .ok (.getfield 9, 3) := da9_dX8_anyBetween_0.2.2.2.2.2.2.2.2.2.2.2.2.2.1
theorem dX8_anyBetween_24 : decode cX8_anyBetween 24 = .ok (.iload_n 3, 1) := da9_dX8_anyBetween_0.2.2.2.2.2.2.2.2.2.2.2.2.2.2.1
theorem dX8_anyBetween_25 : decode cX8_anyBetween 25 = .ok (.iaload, 1) := da9_dX8_anyBetween_0.2.2.2.2.2.2.2.2.2.2.2.2.2.2.2
theorem da9_dX8_anyBetween_26 : (decode cX8_anyBetween 26 = .ok (.iload_n 2, 1)) ∧ (decode cX8_anyBetween 27 = .ok (.if_icmp .ge 5, 3)) ∧ (decode cX8_anyBetween 30 = .ok (.iconst 1, 1)) ∧ (decode cX8_anyBetween 31 = .ok (.ireturn, 1)) ∧ (decode cX8_anyBetween 32 = .ok (.iinc 3 1, 3)) ∧ (decode cX8_anyBetween 35 = .ok (.goto (-33), 3)) ∧ (decode cX8_anyBetween 38 = .ok (.iconst 0, 1)) ∧ (decode cX8_anyBetween 39 = .ok (.ireturn, 1)) := by decide +kernel
theorem dX8_anyBetween_26 : decode cX8_anyBetween 26 = .ok (.iload_n 2, 1) := da9_dX8_anyBetween_26.1
theorem dX8_anyBetween_27 : decode cX8_anyBetween 27 = .ok (.if_icmp .ge 5, 3) := da9_dX8_anyBetween_26.2.1
theorem dX8_anyBetween_30 : decode cX8_anyBetween 30 = .ok (.iconst 1, 1) := da9_dX8_anyBetween_26.2.2.1
theorem dX8_anyBetween_31 : decode cX8_anyBetween 31 = .ok (.ireturn, 1) := da9_dX8_anyBetween_26.2.2.2.1
theorem dX8_anyBetween_32 : decode cX8_anyBetween 32 = .ok (.iinc 3 1, 3) := da9_dX8_anyBetween_26.2.2.2.2.1
theorem dX8_anyBetween_35 : decode cX8_anyBetween 35 = .ok (.goto (-33), 3) := da9_dX8_anyBetween_26.2.2.2.2.2.1
theorem dX8_anyBetween_38 : decode cX8_anyBetween 38 = .ok (.iconst 0, 1) := da9_dX8_anyBetween_26.2.2.2.2.2.2.1
theorem dX8_anyBetween_39 : decode cX8_anyBetween 39 = .ok (.ireturn, 1) := da9_dX8_anyBetween_26.2.2.2.2.2.2.2
set_option maxRecDepth 20000 in
theorem ggX9_law_X9_refuse : GoodIn wsX9_law wsX9_refuse := goodIn_r _ [11, 12, 13, 216, 217, 218, 219, 220, 221, 222, 223, 224, 225, 226, 227, 228, 229, 230, 231, 232, 233, 234] rfl (by decide +kernel)
set_option maxRecDepth 20000 in
theorem gX9_law_X9_refuse : GoodIn wsX9_law (wsV RX9 118 RX9 yX9_refuse wsX9_refuse) := goodIn_app (goodIn_of _ (by decide +kernel)) ggX9_law_X9_refuse
set_option maxRecDepth 20000 in
theorem ggX9_law_X4_read : GoodIn wsX9_law wsX4_read := goodIn_r _ [18, 19, 20, 21, 22, 23, 24, 25, 26, 27, 28, 29, 30, 31, 32, 33, 34, 35, 36, 37, 38, 39, 40, 41, 17, 42, 43, 44, 45, 46, 47, 48, 49, 50, 51, 52, 53, 54, 55, 56, 57, 58, 59, 60, 61, 62, 63, 64, 65, 66, 67, 68, 69, 70, 71, 72, 73, 74, 75, 76, 77, 78, 79, 80, 81, 82, 83, 84, 85, 86, 87, 88, 89, 90, 91, 92, 93, 94, 95, 96, 97, 98, 99, 100, 101, 102, 103, 104, 105, 106, 107, 108, 109, 110, 111, 112, 113, 114, 115, 116, 117, 118, 119, 120, 121, 122, 123, 124, 125, 126, 127, 128, 129, 130, 131, 132, 133, 134, 135, 136, 137, 138, 139, 140, 141, 142, 143, 144, 145, 146, 147, 148, 149, 150, 151, 152, 153, 154, 155, 156, 157, 158, 159, 160, 161, 162, 163, 164, 165, 166, 167, 168, 169, 170, 171, 172, 173, 174, 175, 176, 177, 178, 179, 180, 181, 182, 183, 184, 185, 186, 187, 188, 189, 190, 191, 192, 193, 194, 245, 246, 247, 248, 249, 250, 251, 252, 253, 254, 255, 256, 257, 258, 259, 260, 261, 262, 263] rfl (by decide +kernel)
set_option maxRecDepth 20000 in
theorem gX9_law_X4_read : GoodIn wsX9_law (wsV RX9 186 RX4 yX4_read wsX4_read) := goodIn_app (goodIn_of _ (by decide +kernel)) ggX9_law_X4_read
set_option maxRecDepth 20000 in
theorem ggX9_law_X7_copyOfIt : GoodIn wsX9_law wsX7_copyOfIt := goodIn_r _ [198, 199, 200, 35, 37, 38, 117, 118, 119, 120, 121, 141, 201, 202, 203, 204, 205, 206, 207, 208, 209, 210, 211, 256, 257, 258, 259, 260, 261, 262, 263] rfl (by decide +kernel)
set_option maxRecDepth 20000 in
theorem gX9_law_X7_copyOfIt : GoodIn wsX9_law (wsV RX9 194 RX7 yX7_copyOfIt wsX7_copyOfIt) := goodIn_app (goodIn_of _ (by decide +kernel)) ggX9_law_X7_copyOfIt
set_option maxRecDepth 20000 in
theorem ggX9_law_X9_accept : GoodIn wsX9_law wsX9_accept := goodIn_r _ [215, 12, 216, 217, 218, 219, 220, 221, 222, 223, 224, 225, 226, 227, 228, 229, 230, 231, 232, 233, 234] rfl (by decide +kernel)
set_option maxRecDepth 20000 in
theorem gX9_law_X9_accept : GoodIn wsX9_law (wsV RX9 138 RX9 yX9_accept wsX9_accept) := goodIn_app (goodIn_of _ (by decide +kernel)) ggX9_law_X9_accept
theorem da9_dX9_law_0 : (decode cX9_law 0 = .ok (.aload_n 0, 1)) ∧ (decode cX9_law 1 = .ok (.getfield 88, 3)) ∧ (decode cX9_law 4 = .ok (.istore_n 1, 1)) ∧ (decode cX9_law 5 = .ok (.aload_n 0, 1)) ∧ (decode cX9_law 6 = .ok (.iconst 0, 1)) ∧ (decode cX9_law 7 = .ok (.putfield 88, 3)) ∧ (decode cX9_law 10 = .ok (.aload_n 0, 1)) ∧ (decode cX9_law 11 = .ok (.getfield 10, 3)) ∧ (decode cX9_law 14 = .ok (.getfield 183, 3)) ∧ (decode cX9_law 17 = .ok (.bipush 6, 2)) ∧ (decode cX9_law 19 = .ok (.if_icmp .lt 10, 3)) ∧ (decode cX9_law 22 = .ok (.aload_n 0, 1)) ∧ (decode cX9_law 23 = .ok (.bipush (-5), 2)) ∧ (decode cX9_law 25 = .ok (.invokevirtual 118, 3)) ∧ (decode cX9_law 28 = .ok (.ireturn, 1)) ∧ (decode cX9_law 29 = .ok (.aload_n 0, 1)) := by decide +kernel
theorem dX9_law_0 : decode cX9_law 0 = .ok (.aload_n 0, 1) := da9_dX9_law_0.1
theorem dX9_law_1 : decode cX9_law 1 = .ok (.getfield 88, 3) := da9_dX9_law_0.2.1
theorem dX9_law_4 : decode cX9_law 4 = .ok (.istore_n 1, 1) := da9_dX9_law_0.2.2.1
theorem dX9_law_5 : decode cX9_law 5 = .ok (.aload_n 0, 1) := da9_dX9_law_0.2.2.2.1
theorem dX9_law_6 : decode cX9_law 6 = .ok (.iconst 0, 1) := da9_dX9_law_0.2.2.2.2.1
theorem dX9_law_7 : decode cX9_law 7 = .ok (.putfield 88, 3) := da9_dX9_law_0.2.2.2.2.2.1
theorem dX9_law_10 : decode cX9_law 10 = .ok (.aload_n 0, 1) := da9_dX9_law_0.2.2.2.2.2.2.1
theorem dX9_law_11 : decode cX9_law 11 = .ok (.getfield 10, 3) := da9_dX9_law_0.2.2.2.2.2.2.2.1
theorem dX9_law_14 : decode cX9_law 14 = .ok (.getfield 183, 3) := da9_dX9_law_0.2.2.2.2.2.2.2.2.1
theorem dX9_law_17 : decode cX9_law 17 = .ok (.bipush 6, 2) := da9_dX9_law_0.2.2.2.2.2.2.2.2.2.1
theorem dX9_law_19 : decode cX9_law 19 = .ok (.if_icmp .lt 10, 3) := da9_dX9_law_0.2.2.2.2.2.2.2.2.2.2.1
theorem dX9_law_22 : decode cX9_law 22 = .ok (.aload_n 0, 1) := da9_dX9_law_0.2.2.2.2.2.2.2.2.2.2.2.1
theorem dX9_law_23 : decode cX9_law 23 = .ok (.bipush (-5), 2) := da9_dX9_law_0.2.2.2.2.2.2.2.2.2.2.2.2.1
theorem dX9_law_25 : decode cX9_law 25 = .ok (.invokevirtual 118, 3) := da9_dX9_law_0.2.2.2.2.2.2.2.2.2.2.2.2.2.1
theorem dX9_law_28 : decode cX9_law 28 = .ok (.ireturn, 1) := da9_dX9_law_0.2.2.2.2.2.2.2.2.2.2.2.2.2.2.1
theorem dX9_law_29 : decode cX9_law 29 = .ok (.aload_n 0, 1) := da9_dX9_law_0.2.2.2.2.2.2.2.2.2.2.2.2.2.2.2
theorem da9_dX9_law_30 : (decode cX9_law 30 = .ok (.aload_n 0, 1)) ∧ (decode cX9_law 31 = .ok (.getfield 64, 3)) ∧ (decode cX9_law 34 = .ok (.aload_n 0, 1)) ∧ (decode cX9_law 35 = .ok (.getfield 84, 3)) ∧ (decode cX9_law 38 = .ok (.iload_n 1, 1)) ∧ (decode cX9_law 39 = .ok (.iconst 0, 1)) ∧ (decode cX9_law 40 = .ok (.aload_n 0, 1)) ∧ (decode cX9_law 41 = .ok (.getfield 73, 3)) ∧ (decode cX9_law 44 = .ok (.invokevirtual 186, 3)) ∧ (decode cX9_law 47 = .ok (.putfield 92, 3)) ∧ (decode cX9_law 50 = .ok (.aload_n 0, 1)) ∧ (decode cX9_law 51 = .ok (.getfield 92, 3)) ∧ (decode cX9_law 54 = .ok (.iconst (-1), 1)) ∧ (decode cX9_law 55 = .ok (.if_icmp .eq 10, 3)) ∧ (decode cX9_law 58 = .ok (.aload_n 0, 1)) ∧ (decode cX9_law 59 = .ok (.bipush (-6), 2)) := by decide +kernel
theorem dX9_law_30 : decode cX9_law 30 = .ok (.aload_n 0, 1) := da9_dX9_law_30.1
theorem dX9_law_31 : decode cX9_law 31 = .ok (.getfield 64, 3) := da9_dX9_law_30.2.1
theorem dX9_law_34 : decode cX9_law 34 = .ok (.aload_n 0, 1) := da9_dX9_law_30.2.2.1
theorem dX9_law_35 : decode cX9_law 35 = .ok (.getfield 84, 3) := da9_dX9_law_30.2.2.2.1
theorem dX9_law_38 : decode cX9_law 38 = .ok (.iload_n 1, 1) := da9_dX9_law_30.2.2.2.2.1
theorem dX9_law_39 : decode cX9_law 39 = .ok (.iconst 0, 1) := da9_dX9_law_30.2.2.2.2.2.1
theorem dX9_law_40 : decode cX9_law 40 = .ok (.aload_n 0, 1) := da9_dX9_law_30.2.2.2.2.2.2.1
theorem dX9_law_41 : decode cX9_law 41 = .ok (.getfield 73, 3) := da9_dX9_law_30.2.2.2.2.2.2.2.1
theorem dX9_law_44 : decode cX9_law 44 = .ok (.invokevirtual 186, 3) := da9_dX9_law_30.2.2.2.2.2.2.2.2.1
theorem dX9_law_47 : decode cX9_law 47 = .ok (.putfield 92, 3) := da9_dX9_law_30.2.2.2.2.2.2.2.2.2.1
theorem dX9_law_50 : decode cX9_law 50 = .ok (.aload_n 0, 1) := da9_dX9_law_30.2.2.2.2.2.2.2.2.2.2.1
theorem dX9_law_51 : decode cX9_law 51 = .ok (.getfield 92, 3) := da9_dX9_law_30.2.2.2.2.2.2.2.2.2.2.2.1
theorem dX9_law_54 : decode cX9_law 54 = .ok (.iconst (-1), 1) := da9_dX9_law_30.2.2.2.2.2.2.2.2.2.2.2.2.1
theorem dX9_law_55 : decode cX9_law 55 = .ok (.if_icmp .eq 10, 3) := da9_dX9_law_30.2.2.2.2.2.2.2.2.2.2.2.2.2.1
theorem dX9_law_58 : decode cX9_law 58 = .ok (.aload_n 0, 1) := da9_dX9_law_30.2.2.2.2.2.2.2.2.2.2.2.2.2.2.1
theorem dX9_law_59 : decode cX9_law 59 = .ok (.bipush (-6), 2) := da9_dX9_law_30.2.2.2.2.2.2.2.2.2.2.2.2.2.2.2
theorem da9_dX9_law_61 : (decode cX9_law 61 = .ok (.invokevirtual 118, 3)) ∧ (decode cX9_law 64 = .ok (.ireturn, 1)) ∧ (decode cX9_law 65 = .ok (.aload_n 0, 1)) ∧ (decode cX9_law 66 = .ok (.getfield 10, 3)) ∧ (decode cX9_law 69 = .ok (.getfield 190, 3)) ∧ (decode cX9_law 72 = .ok (.aload_n 0, 1)) ∧ (decode cX9_law 73 = .ok (.getfield 10, 3)) ∧ (decode cX9_law 76 = .ok (.getfield 183, 3)) ∧ (decode cX9_law 79 = .ok (.aload_n 0, 1)) ∧ (decode cX9_law 80 = .ok (.getfield 73, 3)) ∧ (decode cX9_law 83 = .ok (.invokevirtual 194, 3)) ∧ (decode cX9_law 86 = .ok (.aastore, 1)) ∧ (decode cX9_law 87 = .ok (.aload_n 0, 1)) ∧ (decode cX9_law 88 = .ok (.getfield 10, 3)) ∧ (decode cX9_law 91 = .ok (.dup, 1)) ∧ (decode cX9_law 92 = .ok (.getfield 183, 3)) := by decide +kernel
theorem dX9_law_61 : decode cX9_law 61 = .ok (.invokevirtual 118, 3) := da9_dX9_law_61.1
theorem dX9_law_64 : decode cX9_law 64 = .ok (.ireturn, 1) := da9_dX9_law_61.2.1
theorem dX9_law_65 : decode cX9_law 65 = .ok (.aload_n 0, 1) := da9_dX9_law_61.2.2.1
theorem dX9_law_66 : decode cX9_law 66 = .ok (.getfield 10, 3) := da9_dX9_law_61.2.2.2.1
theorem dX9_law_69 : decode cX9_law 69 = .ok (.getfield 190, 3) := da9_dX9_law_61.2.2.2.2.1
theorem dX9_law_72 : decode cX9_law 72 = .ok (.aload_n 0, 1) := da9_dX9_law_61.2.2.2.2.2.1
theorem dX9_law_73 : decode cX9_law 73 = .ok (.getfield 10, 3) := da9_dX9_law_61.2.2.2.2.2.2.1
theorem dX9_law_76 : decode cX9_law 76 = .ok (.getfield 183, 3) := da9_dX9_law_61.2.2.2.2.2.2.2.1
theorem dX9_law_79 : decode cX9_law 79 = .ok (.aload_n 0, 1) := da9_dX9_law_61.2.2.2.2.2.2.2.2.1
theorem dX9_law_80 : decode cX9_law 80 = .ok (.getfield 73, 3) := da9_dX9_law_61.2.2.2.2.2.2.2.2.2.1
theorem dX9_law_83 : decode cX9_law 83 = .ok (.invokevirtual 194, 3) := da9_dX9_law_61.2.2.2.2.2.2.2.2.2.2.1
theorem dX9_law_86 : decode cX9_law 86 = .ok (.aastore, 1) := da9_dX9_law_61.2.2.2.2.2.2.2.2.2.2.2.1
theorem dX9_law_87 : decode cX9_law 87 = .ok (.aload_n 0, 1) := da9_dX9_law_61.2.2.2.2.2.2.2.2.2.2.2.2.1
theorem dX9_law_88 : decode cX9_law 88 = .ok (.getfield 10, 3) := da9_dX9_law_61.2.2.2.2.2.2.2.2.2.2.2.2.2.1
theorem dX9_law_91 : decode cX9_law 91 = .ok (.dup, 1) := da9_dX9_law_61.2.2.2.2.2.2.2.2.2.2.2.2.2.2.1
theorem dX9_law_92 : decode cX9_law 92 = .ok (.getfield 183, 3) := da9_dX9_law_61.2.2.2.2.2.2.2.2.2.2.2.2.2.2.2
theorem da9_dX9_law_95 : (decode cX9_law 95 = .ok (.iconst 1, 1)) ∧ (decode cX9_law 96 = .ok (.iadd, 1)) ∧ (decode cX9_law 97 = .ok (.putfield 183, 3)) ∧ (decode cX9_law 100 = .ok (.aload_n 0, 1)) ∧ (decode cX9_law 101 = .ok (.aload_n 0, 1)) ∧ (decode cX9_law 102 = .ok (.getfield 10, 3)) ∧ (decode cX9_law 105 = .ok (.getfield 183, 3)) ∧ (decode cX9_law 108 = .ok (.iconst 1, 1)) ∧ (decode cX9_law 109 = .ok (.isub, 1)) ∧ (decode cX9_law 110 = .ok (.invokevirtual 138, 3)) ∧ (decode cX9_law 113 = .ok (.ireturn, 1)) := by decide +kernel
theorem dX9_law_95 : decode cX9_law 95 = .ok (.iconst 1, 1) := da9_dX9_law_95.1
theorem dX9_law_96 : decode cX9_law 96 = .ok (.iadd, 1) := da9_dX9_law_95.2.1
theorem dX9_law_97 : decode cX9_law 97 = .ok (.putfield 183, 3) := da9_dX9_law_95.2.2.1
theorem dX9_law_100 : decode cX9_law 100 = .ok (.aload_n 0, 1) := da9_dX9_law_95.2.2.2.1
theorem dX9_law_101 : decode cX9_law 101 = .ok (.aload_n 0, 1) := da9_dX9_law_95.2.2.2.2.1
theorem dX9_law_102 : decode cX9_law 102 = .ok (.getfield 10, 3) := da9_dX9_law_95.2.2.2.2.2.1
theorem dX9_law_105 : decode cX9_law 105 = .ok (.getfield 183, 3) := da9_dX9_law_95.2.2.2.2.2.2.1
theorem dX9_law_108 : decode cX9_law 108 = .ok (.iconst 1, 1) := da9_dX9_law_95.2.2.2.2.2.2.2.1
theorem dX9_law_109 : decode cX9_law 109 = .ok (.isub, 1) := da9_dX9_law_95.2.2.2.2.2.2.2.2.1
theorem dX9_law_110 : decode cX9_law 110 = .ok (.invokevirtual 138, 3) := da9_dX9_law_95.2.2.2.2.2.2.2.2.2.1
theorem dX9_law_113 : decode cX9_law 113 = .ok (.ireturn, 1) := da9_dX9_law_95.2.2.2.2.2.2.2.2.2.2
