theorem da9_dX0_init_0 : (decode cX0_init 0 = .ok (.aload_n 0, 1)) ∧ (decode cX0_init 1 = .ok (.invokespecial 3, 3)) ∧ (decode cX0_init 4 = .ok (.aload_n 0, 1)) ∧ (decode cX0_init 5 = .ok (.bipush 16, 2)) ∧ (decode cX0_init 7 = .ok (.newarray .long, 2)) ∧ (decode cX0_init 9 = .ok (.putfield 9, 3)) ∧ (decode cX0_init 12 = .ok (.aload_n 0, 1)) ∧ (decode cX0_init 13 = .ok (.bipush 16, 2)) ∧ (decode cX0_init 15 = .ok (.newarray .int, 2)) ∧ (decode cX0_init 17 = .ok (.putfield 15, 3)) ∧ (decode cX0_init 20 = .ok (.aload_n 0, 1)) ∧ (decode cX0_init 21 = .ok (.iconst 0, 1)) ∧ (decode cX0_init 22 = .ok (.putfield 19, 3)) ∧ (decode cX0_init 25 = .ok (.aload_n 0, 1)) ∧ (decode cX0_init 26 = .ok (.bipush 16, 2)) ∧ (decode cX0_init 28 = .ok (.newarray .long, 2)) := by decide +kernel
theorem dX0_init_0 : decode cX0_init 0 = .ok (.aload_n 0, 1) := da9_dX0_init_0.1
theorem dX0_init_1 : decode cX0_init 1 = .ok (.invokespecial 3, 3) := da9_dX0_init_0.2.1
theorem dX0_init_4 : decode cX0_init 4 = .ok (.aload_n 0, 1) := da9_dX0_init_0.2.2.1
theorem dX0_init_5 : decode cX0_init 5 = .ok (.bipush 16, 2) := da9_dX0_init_0.2.2.2.1
theorem dX0_init_7 : decode cX0_init 7 = .ok (.newarray .long, 2) := da9_dX0_init_0.2.2.2.2.1
theorem dX0_init_9 : decode cX0_init 9 = .ok (.putfield 9, 3) := da9_dX0_init_0.2.2.2.2.2.1
theorem dX0_init_12 : decode cX0_init 12 = .ok (.aload_n 0, 1) := da9_dX0_init_0.2.2.2.2.2.2.1
theorem dX0_init_13 : decode cX0_init 13 = .ok (.bipush 16, 2) := da9_dX0_init_0.2.2.2.2.2.2.2.1
theorem dX0_init_15 : decode cX0_init 15 = .ok (.newarray .int, 2) := da9_dX0_init_0.2.2.2.2.2.2.2.2.1
theorem dX0_init_17 : decode cX0_init 17 = .ok (.putfield 15, 3) := da9_dX0_init_0.2.2.2.2.2.2.2.2.2.1
theorem dX0_init_20 : decode cX0_init 20 = .ok (.aload_n 0, 1) := da9_dX0_init_0.2.2.2.2.2.2.2.2.2.2.1
theorem dX0_init_21 : decode cX0_init 21 = .ok (.iconst 0, 1) := da9_dX0_init_0.2.2.2.2.2.2.2.2.2.2.2.1
theorem dX0_init_22 : decode cX0_init 22 = .ok (.putfield 19, 3) := da9_dX0_init_0.2.2.2.2.2.2.2.2.2.2.2.2.1
theorem dX0_init_25 : decode cX0_init 25 = .ok (.aload_n 0, 1) := da9_dX0_init_0.2.2.2.2.2.2.2.2.2.2.2.2.2.1
theorem dX0_init_26 : decode cX0_init 26 = .ok (.bipush 16, 2) := da9_dX0_init_0.2.2.2.2.2.2.2.2.2.2.2.2.2.2.1
theorem dX0_init_28 : decode cX0_init 28 = .ok (.newarray .long, 2) := da9_dX0_init_0.2.2.2.2.2.2.2.2.2.2.2.2.2.2.2
theorem da9_dX0_init_30 : (decode cX0_init 30 = .ok (.putfield 23, 3)) ∧ (decode cX0_init 33 = .ok (.aload_n 0, 1)) ∧ (decode cX0_init 34 = .ok (.bipush 16, 2)) ∧ (decode cX0_init 36 = .ok (.newarray .int, 2)) ∧ (decode cX0_init 38 = .ok (.putfield 26, 3)) ∧ (decode cX0_init 41 = .ok (.aload_n 0, 1)) ∧ (decode cX0_init 42 = .ok (.iconst 0, 1)) ∧ (decode cX0_init 43 = .ok (.putfield 29, 3)) ∧ (decode cX0_init 46 = .ok (.return_, 1)) := by decide +kernel
theorem dX0_init_30 : decode cX0_init 30 = .ok (.putfield 23, 3) := da9_dX0_init_30.1
theorem dX0_init_33 : decode cX0_init 33 = .ok (.aload_n 0, 1) := da9_dX0_init_30.2.1
theorem dX0_init_34 : decode cX0_init 34 = .ok (.bipush 16, 2) := da9_dX0_init_30.2.2.1
theorem dX0_init_36 : decode cX0_init 36 = .ok (.newarray .int, 2) := da9_dX0_init_30.2.2.2.1
theorem dX0_init_38 : decode cX0_init 38 = .ok (.putfield 26, 3) := da9_dX0_init_30.2.2.2.2.1
theorem dX0_init_41 : decode cX0_init 41 = .ok (.aload_n 0, 1) := da9_dX0_init_30.2.2.2.2.2.1
theorem dX0_init_42 : decode cX0_init 42 = .ok (.iconst 0, 1) := da9_dX0_init_30.2.2.2.2.2.2.1
theorem dX0_init_43 : decode cX0_init 43 = .ok (.putfield 29, 3) := da9_dX0_init_30.2.2.2.2.2.2.2.1
theorem dX0_init_46 : decode cX0_init 46 = .ok (.return_, 1) := da9_dX0_init_30.2.2.2.2.2.2.2.2
theorem da9_dX1_init_0 : (decode cX1_init 0 = .ok (.aload_n 0, 1)) ∧ (decode cX1_init 1 = .ok (.invokespecial 3, 3)) ∧ (decode cX1_init 4 = .ok (.aload_n 0, 1)) ∧ (decode cX1_init 5 = .ok (.bipush 9, 2)) ∧ (decode cX1_init 7 = .ok (.newarray .int, 2)) ∧ (decode cX1_init 9 = .ok (.putfield 11, 3)) ∧ (decode cX1_init 12 = .ok (.aload_n 0, 1)) ∧ (decode cX1_init 13 = .ok (.aconst_null, 1)) ∧ (decode cX1_init 14 = .ok (.putfield 15, 3)) ∧ (decode cX1_init 17 = .ok (.aload_n 0, 1)) ∧ (decode cX1_init 18 = .ok (.aload_n 1, 1)) ∧ (decode cX1_init 19 = .ok (.putfield 19, 3)) ∧ (decode cX1_init 22 = .ok (.return_, 1)) := by decide +kernel
theorem dX1_init_0 : decode cX1_init 0 = .ok (.aload_n 0, 1) := da9_dX1_init_0.1
theorem dX1_init_1 : decode cX1_init 1 = .ok (.invokespecial 3, 3) := da9_dX1_init_0.2.1
theorem dX1_init_4 : decode cX1_init 4 = .ok (.aload_n 0, 1) := da9_dX1_init_0.2.2.1
theorem dX1_init_5 : decode cX1_init 5 = .ok (.bipush 9, 2) := da9_dX1_init_0.2.2.2.1
theorem dX1_init_7 : decode cX1_init 7 = .ok (.newarray .int, 2) := da9_dX1_init_0.2.2.2.2.1
theorem dX1_init_9 : decode cX1_init 9 = .ok (.putfield 11, 3) := da9_dX1_init_0.2.2.2.2.2.1
theorem dX1_init_12 : decode cX1_init 12 = .ok (.aload_n 0, 1) := da9_dX1_init_0.2.2.2.2.2.2.1
theorem dX1_init_13 : decode cX1_init 13 = .ok (.aconst_null, 1) := da9_dX1_init_0.2.2.2.2.2.2.2.1
theorem dX1_init_14 : decode cX1_init 14 = .ok (.putfield 15, 3) := da9_dX1_init_0.2.2.2.2.2.2.2.2.1
theorem dX1_init_17 : decode cX1_init 17 = .ok (.aload_n 0, 1) := da9_dX1_init_0.2.2.2.2.2.2.2.2.2.1
theorem dX1_init_18 : decode cX1_init 18 = .ok (.aload_n 1, 1) := da9_dX1_init_0.2.2.2.2.2.2.2.2.2.2.1
theorem dX1_init_19 : decode cX1_init 19 = .ok (.putfield 19, 3) := da9_dX1_init_0.2.2.2.2.2.2.2.2.2.2.2.1
theorem dX1_init_22 : decode cX1_init 22 = .ok (.return_, 1) := da9_dX1_init_0.2.2.2.2.2.2.2.2.2.2.2.2
theorem da9_dX2_init_0 : (decode cX2_init 0 = .ok (.aload_n 0, 1)) ∧ (decode cX2_init 1 = .ok (.invokespecial 1, 3)) ∧ (decode cX2_init 4 = .ok (.aload_n 0, 1)) ∧ (decode cX2_init 5 = .ok (.bipush 64, 2)) ∧ (decode cX2_init 7 = .ok (.newarray .int, 2)) ∧ (decode cX2_init 9 = .ok (.putfield 9, 3)) ∧ (decode cX2_init 12 = .ok (.aload_n 0, 1)) ∧ (decode cX2_init 13 = .ok (.iconst 0, 1)) ∧ (decode cX2_init 14 = .ok (.putfield 13, 3)) ∧ (decode cX2_init 17 = .ok (.return_, 1)) := by decide +kernel
theorem dX2_init_0 : decode cX2_init 0 = .ok (.aload_n 0, 1) := da9_dX2_init_0.1
theorem dX2_init_1 : decode cX2_init 1 = .ok (.invokespecial 1, 3) := da9_dX2_init_0.2.1
theorem dX2_init_4 : decode cX2_init 4 = .ok (.aload_n 0, 1) := da9_dX2_init_0.2.2.1
theorem dX2_init_5 : decode cX2_init 5 = .ok (.bipush 64, 2) := da9_dX2_init_0.2.2.2.1
theorem dX2_init_7 : decode cX2_init 7 = .ok (.newarray .int, 2) := da9_dX2_init_0.2.2.2.2.1
theorem dX2_init_9 : decode cX2_init 9 = .ok (.putfield 9, 3) := da9_dX2_init_0.2.2.2.2.2.1
theorem dX2_init_12 : decode cX2_init 12 = .ok (.aload_n 0, 1) := da9_dX2_init_0.2.2.2.2.2.2.1
theorem dX2_init_13 : decode cX2_init 13 = .ok (.iconst 0, 1) := da9_dX2_init_0.2.2.2.2.2.2.2.1
theorem dX2_init_14 : decode cX2_init 14 = .ok (.putfield 13, 3) := da9_dX2_init_0.2.2.2.2.2.2.2.2.1
theorem dX2_init_17 : decode cX2_init 17 = .ok (.return_, 1) := da9_dX2_init_0.2.2.2.2.2.2.2.2.2
theorem da9_dX3_init_0 : (decode cX3_init 0 = .ok (.aload_n 0, 1)) ∧ (decode cX3_init 1 = .ok (.invokespecial 3, 3)) ∧ (decode cX3_init 4 = .ok (.aload_n 0, 1)) ∧ (decode cX3_init 5 = .ok (.bipush 6, 2)) ∧ (decode cX3_init 7 = .ok (.newarray .int, 2)) ∧ (decode cX3_init 9 = .ok (.putfield 9, 3)) ∧ (decode cX3_init 12 = .ok (.aload_n 0, 1)) ∧ (decode cX3_init 13 = .ok (.bipush 6, 2)) ∧ (decode cX3_init 15 = .ok (.newarray .int, 2)) ∧ (decode cX3_init 17 = .ok (.putfield 15, 3)) ∧ (decode cX3_init 20 = .ok (.aload_n 0, 1)) ∧ (decode cX3_init 21 = .ok (.sipush 504, 3)) ∧ (decode cX3_init 24 = .ok (.newarray .int, 2)) ∧ (decode cX3_init 26 = .ok (.putfield 18, 3)) ∧ (decode cX3_init 29 = .ok (.aload_n 0, 1)) ∧ (decode cX3_init 30 = .ok (.sipush 504, 3)) := by decide +kernel
theorem dX3_init_0 : decode cX3_init 0 = .ok (.aload_n 0, 1) := da9_dX3_init_0.1
theorem dX3_init_1 : decode cX3_init 1 = .ok (.invokespecial 3, 3) := da9_dX3_init_0.2.1
theorem dX3_init_4 : decode cX3_init 4 = .ok (.aload_n 0, 1) := da9_dX3_init_0.2.2.1
theorem dX3_init_5 : decode cX3_init 5 = .ok (.bipush 6, 2) := da9_dX3_init_0.2.2.2.1
theorem dX3_init_7 : decode cX3_init 7 = .ok (.newarray .int, 2) := da9_dX3_init_0.2.2.2.2.1
theorem dX3_init_9 : decode cX3_init 9 = .ok (.putfield 9, 3) := da9_dX3_init_0.2.2.2.2.2.1
theorem dX3_init_12 : decode cX3_init 12 = .ok (.aload_n 0, 1) := da9_dX3_init_0.2.2.2.2.2.2.1
theorem dX3_init_13 : decode cX3_init 13 = .ok (.bipush 6, 2) := da9_dX3_init_0.2.2.2.2.2.2.2.1
theorem dX3_init_15 : decode cX3_init 15 = .ok (.newarray .int, 2) := da9_dX3_init_0.2.2.2.2.2.2.2.2.1
theorem dX3_init_17 : decode cX3_init 17 = .ok (.putfield 15, 3) := da9_dX3_init_0.2.2.2.2.2.2.2.2.2.1
theorem dX3_init_20 : decode cX3_init 20 = .ok (.aload_n 0, 1) := da9_dX3_init_0.2.2.2.2.2.2.2.2.2.2.1
theorem dX3_init_21 : decode cX3_init 21 = .ok (.sipush 504, 3) := da9_dX3_init_0.2.2.2.2.2.2.2.2.2.2.2.1
theorem dX3_init_24 : decode cX3_init 24 = .ok (.newarray .int, 2) := da9_dX3_init_0.2.2.2.2.2.2.2.2.2.2.2.2.1
theorem dX3_init_26 : decode cX3_init 26 = .ok (.putfield 18, 3) := da9_dX3_init_0.2.2.2.2.2.2.2.2.2.2.2.2.2.1
theorem dX3_init_29 : decode cX3_init 29 = .ok (.aload_n 0, 1) := da9_dX3_init_0.2.2.2.2.2.2.2.2.2.2.2.2.2.2.1
theorem dX3_init_30 : decode cX3_init 30 = .ok (.sipush 504, 3) := da9_dX3_init_0.2.2.2.2.2.2.2.2.2.2.2.2.2.2.2
theorem da9_dX3_init_33 : (decode cX3_init 33 = .ok (.newarray .int, 2)) ∧ (decode cX3_init 35 = .ok (.putfield 21, 3)) ∧ (decode cX3_init 38 = .ok (.aload_n 0, 1)) ∧ (decode cX3_init 39 = .ok (.sipush 504, 3)) ∧ (decode cX3_init 42 = .ok (.newarray .int, 2)) ∧ (decode cX3_init 44 = .ok (.putfield 24, 3)) ∧ (decode cX3_init 47 = .ok (.aload_n 0, 1)) ∧ (decode cX3_init 48 = .ok (.bipush 100, 2)) ∧ (decode cX3_init 50 = .ok (.newarray .int, 2)) ∧ (decode cX3_init 52 = .ok (.putfield 27, 3)) ∧ (decode cX3_init 55 = .ok (.aload_n 0, 1)) ∧ (decode cX3_init 56 = .ok (.iconst 0, 1)) ∧ (decode cX3_init 57 = .ok (.newarray .int, 2)) ∧ (decode cX3_init 59 = .ok (.putfield 30, 3)) ∧ (decode cX3_init 62 = .ok (.aload_n 0, 1)) ∧ (decode cX3_init 63 = .ok (.iconst 0, 1)) := by decide +kernel
theorem dX3_init_33 : decode cX3_init 33 = .ok (.newarray .int, 2) := da9_dX3_init_33.1
theorem dX3_init_35 : decode cX3_init 35 = .ok (.putfield 21, 3) := da9_dX3_init_33.2.1
theorem dX3_init_38 : decode cX3_init 38 = .ok (.aload_n 0, 1) := da9_dX3_init_33.2.2.1
theorem dX3_init_39 : decode cX3_init 39 = .ok (.sipush 504, 3) := da9_dX3_init_33.2.2.2.1
theorem dX3_init_42 : decode cX3_init 42 = .ok (.newarray .int, 2) := da9_dX3_init_33.2.2.2.2.1
theorem dX3_init_44 : decode cX3_init 44 = .ok (.putfield 24, 3) := da9_dX3_init_33.2.2.2.2.2.1
theorem dX3_init_47 : decode cX3_init 47 = .ok (.aload_n 0, 1) := da9_dX3_init_33.2.2.2.2.2.2.1
theorem dX3_init_48 : decode cX3_init 48 = .ok (.bipush 100, 2) := da9_dX3_init_33.2.2.2.2.2.2.2.1
theorem dX3_init_50 : decode cX3_init 50 = .ok (.newarray .int, 2) := da9_dX3_init_33.2.2.2.2.2.2.2.2.1
theorem dX3_init_52 : decode cX3_init 52 = .ok (.putfield 27, 3) := da9_dX3_init_33.2.2.2.2.2.2.2.2.2.1
theorem dX3_init_55 : decode cX3_init 55 = .ok (.aload_n 0, 1) := da9_dX3_init_33.2.2.2.2.2.2.2.2.2.2.1
theorem dX3_init_56 : decode cX3_init 56 = .ok (.iconst 0, 1) := da9_dX3_init_33.2.2.2.2.2.2.2.2.2.2.2.1
theorem dX3_init_57 : decode cX3_init 57 = .ok (.newarray .int, 2) := da9_dX3_init_33.2.2.2.2.2.2.2.2.2.2.2.2.1
theorem dX3_init_59 : decode cX3_init 59 = .ok (.putfield 30, 3) := da9_dX3_init_33.2.2.2.2.2.2.2.2.2.2.2.2.2.1
theorem dX3_init_62 : decode cX3_init 62 = .ok (.aload_n 0, 1) := da9_dX3_init_33.2.2.2.2.2.2.2.2.2.2.2.2.2.2.1
theorem dX3_init_63 : decode cX3_init 63 = .ok (.iconst 0, 1) := da9_dX3_init_33.2.2.2.2.2.2.2.2.2.2.2.2.2.2.2
theorem da9_dX3_init_64 : (decode cX3_init 64 = .ok (.newarray .int, 2)) ∧ (decode cX3_init 66 = .ok (.putfield 33, 3)) ∧ (decode cX3_init 69 = .ok (.aload_n 0, 1)) ∧ (decode cX3_init 70 = .ok (.iconst 0, 1)) ∧ (decode cX3_init 71 = .ok (.newarray .int, 2)) ∧ (decode cX3_init 73 = .ok (.putfield 36, 3)) ∧ (decode cX3_init 76 = .ok (.aload_n 0, 1)) ∧ (decode cX3_init 77 = .ok (.iconst 0, 1)) ∧ (decode cX3_init 78 = .ok (.newarray .int, 2)) ∧ (decode cX3_init 80 = .ok (.putfield 39, 3)) ∧ (decode cX3_init 83 = .ok (.aload_n 0, 1)) ∧ (decode cX3_init 84 = .ok (.iconst 0, 1)) ∧ (decode cX3_init 85 = .ok (.newarray .int, 2)) ∧ (decode cX3_init 87 = .ok (.putfield 42, 3)) ∧ (decode cX3_init 90 = .ok (.aload_n 0, 1)) ∧ (decode cX3_init 91 = .ok (.iconst 0, 1)) := by decide +kernel
theorem dX3_init_64 : decode cX3_init 64 = .ok (.newarray .int, 2) := da9_dX3_init_64.1
theorem dX3_init_66 : decode cX3_init 66 = .ok (.putfield 33, 3) := da9_dX3_init_64.2.1
theorem dX3_init_69 : decode cX3_init 69 = .ok (.aload_n 0, 1) := da9_dX3_init_64.2.2.1
theorem dX3_init_70 : decode cX3_init 70 = .ok (.iconst 0, 1) := da9_dX3_init_64.2.2.2.1
theorem dX3_init_71 : decode cX3_init 71 = .ok (.newarray .int, 2) := da9_dX3_init_64.2.2.2.2.1
theorem dX3_init_73 : decode cX3_init 73 = .ok (.putfield 36, 3) := da9_dX3_init_64.2.2.2.2.2.1
theorem dX3_init_76 : decode cX3_init 76 = .ok (.aload_n 0, 1) := da9_dX3_init_64.2.2.2.2.2.2.1
theorem dX3_init_77 : decode cX3_init 77 = .ok (.iconst 0, 1) := da9_dX3_init_64.2.2.2.2.2.2.2.1
theorem dX3_init_78 : decode cX3_init 78 = .ok (.newarray .int, 2) := da9_dX3_init_64.2.2.2.2.2.2.2.2.1
theorem dX3_init_80 : decode cX3_init 80 = .ok (.putfield 39, 3) := da9_dX3_init_64.2.2.2.2.2.2.2.2.2.1
theorem dX3_init_83 : decode cX3_init 83 = .ok (.aload_n 0, 1) := da9_dX3_init_64.2.2.2.2.2.2.2.2.2.2.1
theorem dX3_init_84 : decode cX3_init 84 = .ok (.iconst 0, 1) := da9_dX3_init_64.2.2.2.2.2.2.2.2.2.2.2.1
theorem dX3_init_85 : decode cX3_init 85 = .ok (.newarray .int, 2) := da9_dX3_init_64.2.2.2.2.2.2.2.2.2.2.2.2.1
theorem dX3_init_87 : decode cX3_init 87 = .ok (.putfield 42, 3) := da9_dX3_init_64.2.2.2.2.2.2.2.2.2.2.2.2.2.1
theorem dX3_init_90 : decode cX3_init 90 = .ok (.aload_n 0, 1) := da9_dX3_init_64.2.2.2.2.2.2.2.2.2.2.2.2.2.2.1
theorem dX3_init_91 : decode cX3_init 91 = .ok (.iconst 0, 1) := da9_dX3_init_64.2.2.2.2.2.2.2.2.2.2.2.2.2.2.2
theorem da9_dX3_init_92 : (decode cX3_init 92 = .ok (.newarray .int, 2)) ∧ (decode cX3_init 94 = .ok (.putfield 45, 3)) ∧ (decode cX3_init 97 = .ok (.aload_n 0, 1)) ∧ (decode cX3_init 98 = .ok (.iconst 0, 1)) ∧ (decode cX3_init 99 = .ok (.newarray .int, 2)) ∧ (decode cX3_init 101 = .ok (.putfield 48, 3)) ∧ (decode cX3_init 104 = .ok (.aload_n 0, 1)) ∧ (decode cX3_init 105 = .ok (.iconst 0, 1)) ∧ (decode cX3_init 106 = .ok (.putfield 51, 3)) ∧ (decode cX3_init 109 = .ok (.aload_n 0, 1)) ∧ (decode cX3_init 110 = .ok (.iconst 0, 1)) ∧ (decode cX3_init 111 = .ok (.putfield 55, 3)) ∧ (decode cX3_init 114 = .ok (.aload_n 0, 1)) ∧ (decode cX3_init 115 = .ok (.iconst 0, 1)) ∧ (decode cX3_init 116 = .ok (.putfield 58, 3)) ∧ (decode cX3_init 119 = .ok (.aload_n 0, 1)) := by decide +kernel
theorem dX3_init_92 : decode cX3_init 92 = .ok (.newarray .int, 2) := da9_dX3_init_92.1
theorem dX3_init_94 : decode cX3_init 94 = .ok (.putfield 45, 3) := da9_dX3_init_92.2.1
theorem dX3_init_97 : decode cX3_init 97 = .ok (.aload_n 0, 1) := da9_dX3_init_92.2.2.1
theorem dX3_init_98 : decode cX3_init 98 = .ok (.iconst 0, 1) := da9_dX3_init_92.2.2.2.1
theorem dX3_init_99 : decode cX3_init 99 = .ok (.newarray .int, 2) := da9_dX3_init_92.2.2.2.2.1
theorem dX3_init_101 : decode cX3_init 101 = .ok (.putfield 48, 3) := da9_dX3_init_92.2.2.2.2.2.1
theorem dX3_init_104 : decode cX3_init 104 = .ok (.aload_n 0, 1) := da9_dX3_init_92.2.2.2.2.2.2.1
theorem dX3_init_105 : decode cX3_init 105 = .ok (.iconst 0, 1) := da9_dX3_init_92.2.2.2.2.2.2.2.1
theorem dX3_init_106 : decode cX3_init 106 = .ok (.putfield 51, 3) := da9_dX3_init_92.2.2.2.2.2.2.2.2.1
theorem dX3_init_109 : decode cX3_init 109 = .ok (.aload_n 0, 1) := da9_dX3_init_92.2.2.2.2.2.2.2.2.2.1
theorem dX3_init_110 : decode cX3_init 110 = .ok (.iconst 0, 1) := da9_dX3_init_92.2.2.2.2.2.2.2.2.2.2.1
theorem dX3_init_111 : decode cX3_init 111 = .ok (.putfield 55, 3) := da9_dX3_init_92.2.2.2.2.2.2.2.2.2.2.2.1
theorem dX3_init_114 : decode cX3_init 114 = .ok (.aload_n 0, 1) := da9_dX3_init_92.2.2.2.2.2.2.2.2.2.2.2.2.1
theorem dX3_init_115 : decode cX3_init 115 = .ok (.iconst 0, 1) := da9_dX3_init_92.2.2.2.2.2.2.2.2.2.2.2.2.2.1
theorem dX3_init_116 : decode cX3_init 116 = .ok (.putfield 58, 3) := da9_dX3_init_92.2.2.2.2.2.2.2.2.2.2.2.2.2.2.1
theorem dX3_init_119 : decode cX3_init 119 = .ok (.aload_n 0, 1) := da9_dX3_init_92.2.2.2.2.2.2.2.2.2.2.2.2.2.2.2
theorem da9_dX3_init_120 : (decode cX3_init 120 = .ok (.iconst 0, 1)) ∧ (decode cX3_init 121 = .ok (.putfield 61, 3)) ∧ (decode cX3_init 124 = .ok (.aload_n 0, 1)) ∧ (decode cX3_init 125 = .ok (.iconst (-1), 1)) ∧ (decode cX3_init 126 = .ok (.putfield 64, 3)) ∧ (decode cX3_init 129 = .ok (.aload_n 0, 1)) ∧ (decode cX3_init 130 = .ok (.iconst (-1), 1)) ∧ (decode cX3_init 131 = .ok (.putfield 67, 3)) ∧ (decode cX3_init 134 = .ok (.aload_n 0, 1)) ∧ (decode cX3_init 135 = .ok (.iconst 0, 1)) ∧ (decode cX3_init 136 = .ok (.putfield 70, 3)) ∧ (decode cX3_init 139 = .ok (.return_, 1)) := by decide +kernel
theorem dX3_init_120 : decode cX3_init 120 = .ok (.iconst 0, 1) := da9_dX3_init_120.1
theorem dX3_init_121 : decode cX3_init 121 = .ok (.putfield 61, 3) := da9_dX3_init_120.2.1
theorem dX3_init_124 : decode cX3_init 124 = .ok (.aload_n 0, 1) := da9_dX3_init_120.2.2.1
theorem dX3_init_125 : decode cX3_init 125 = .ok (.iconst (-1), 1) := da9_dX3_init_120.2.2.2.1
theorem dX3_init_126 : decode cX3_init 126 = .ok (.putfield 64, 3) := da9_dX3_init_120.2.2.2.2.1
theorem dX3_init_129 : decode cX3_init 129 = .ok (.aload_n 0, 1) := da9_dX3_init_120.2.2.2.2.2.1
theorem dX3_init_130 : decode cX3_init 130 = .ok (.iconst (-1), 1) := da9_dX3_init_120.2.2.2.2.2.2.1
theorem dX3_init_131 : decode cX3_init 131 = .ok (.putfield 67, 3) := da9_dX3_init_120.2.2.2.2.2.2.2.1
theorem dX3_init_134 : decode cX3_init 134 = .ok (.aload_n 0, 1) := da9_dX3_init_120.2.2.2.2.2.2.2.2.1
theorem dX3_init_135 : decode cX3_init 135 = .ok (.iconst 0, 1) := da9_dX3_init_120.2.2.2.2.2.2.2.2.2.1
theorem dX3_init_136 : decode cX3_init 136 = .ok (.putfield 70, 3) := da9_dX3_init_120.2.2.2.2.2.2.2.2.2.2.1
theorem dX3_init_139 : decode cX3_init 139 = .ok (.return_, 1) := da9_dX3_init_120.2.2.2.2.2.2.2.2.2.2.2
theorem da9_dX4_init_0 : (decode cX4_init 0 = .ok (.aload_n 0, 1)) ∧ (decode cX4_init 1 = .ok (.invokespecial 3, 3)) ∧ (decode cX4_init 4 = .ok (.aload_n 0, 1)) ∧ (decode cX4_init 5 = .ok (.aconst_null, 1)) ∧ (decode cX4_init 6 = .ok (.putfield 9, 3)) ∧ (decode cX4_init 9 = .ok (.aload_n 0, 1)) ∧ (decode cX4_init 10 = .ok (.iconst 0, 1)) ∧ (decode cX4_init 11 = .ok (.putfield 15, 3)) ∧ (decode cX4_init 14 = .ok (.aload_n 0, 1)) ∧ (decode cX4_init 15 = .ok (.iconst 0, 1)) ∧ (decode cX4_init 16 = .ok (.putfield 19, 3)) ∧ (decode cX4_init 19 = .ok (.aload_n 0, 1)) ∧ (decode cX4_init 20 = .ok (.aconst_null, 1)) ∧ (decode cX4_init 21 = .ok (.putfield 23, 3)) ∧ (decode cX4_init 24 = .ok (.aload_n 0, 1)) ∧ (decode cX4_init 25 = .ok (.iconst 0, 1)) := by decide +kernel
theorem dX4_init_0 : decode cX4_init 0 = .ok (.aload_n 0, 1) := da9_dX4_init_0.1
theorem dX4_init_1 : decode cX4_init 1 = .ok (.invokespecial 3, 3) := da9_dX4_init_0.2.1
theorem dX4_init_4 : decode cX4_init 4 = .ok (.aload_n 0, 1) := da9_dX4_init_0.2.2.1
theorem dX4_init_5 : decode cX4_init 5 = .ok (.aconst_null, 1) := da9_dX4_init_0.2.2.2.1
theorem dX4_init_6 : decode cX4_init 6 = .ok (.putfield 9, 3) := da9_dX4_init_0.2.2.2.2.1
theorem dX4_init_9 : decode cX4_init 9 = .ok (.aload_n 0, 1) := da9_dX4_init_0.2.2.2.2.2.1
theorem dX4_init_10 : decode cX4_init 10 = .ok (.iconst 0, 1) := da9_dX4_init_0.2.2.2.2.2.2.1
theorem dX4_init_11 : decode cX4_init 11 = .ok (.putfield 15, 3) := da9_dX4_init_0.2.2.2.2.2.2.2.1
theorem dX4_init_14 : decode cX4_init 14 = .ok (.aload_n 0, 1) := da9_dX4_init_0.2.2.2.2.2.2.2.2.1
theorem dX4_init_15 : decode cX4_init 15 = .ok (.iconst 0, 1) := da9_dX4_init_0.2.2.2.2.2.2.2.2.2.1
theorem dX4_init_16 : decode cX4_init 16 = .ok (.putfield 19, 3) := da9_dX4_init_0.2.2.2.2.2.2.2.2.2.2.1
theorem dX4_init_19 : decode cX4_init 19 = .ok (.aload_n 0, 1) := da9_dX4_init_0.2.2.2.2.2.2.2.2.2.2.2.1
theorem dX4_init_20 : decode cX4_init 20 = .ok (.aconst_null, 1) := da9_dX4_init_0.2.2.2.2.2.2.2.2.2.2.2.2.1
theorem dX4_init_21 : decode cX4_init 21 = .ok (.putfield 23, 3) := da9_dX4_init_0.2.2.2.2.2.2.2.2.2.2.2.2.2.1
theorem dX4_init_24 : decode cX4_init 24 = .ok (.aload_n 0, 1) := da9_dX4_init_0.2.2.2.2.2.2.2.2.2.2.2.2.2.2.1
theorem dX4_init_25 : decode cX4_init 25 = .ok (.iconst 0, 1) := da9_dX4_init_0.2.2.2.2.2.2.2.2.2.2.2.2.2.2.2
theorem da9_dX4_init_26 : (decode cX4_init 26 = .ok (.putfield 27, 3)) ∧ (decode cX4_init 29 = .ok (.aload_n 0, 1)) ∧ (decode cX4_init 30 = .ok (.iconst 0, 1)) ∧ (decode cX4_init 31 = .ok (.putfield 30, 3)) ∧ (decode cX4_init 34 = .ok (.aload_n 0, 1)) ∧ (decode cX4_init 35 = .ok (.iconst 0, 1)) ∧ (decode cX4_init 36 = .ok (.putfield 33, 3)) ∧ (decode cX4_init 39 = .ok (.aload_n 0, 1)) ∧ (decode cX4_init 40 = .ok (.iconst 0, 1)) ∧ (decode cX4_init 41 = .ok (.putfield 36, 3)) ∧ (decode cX4_init 44 = .ok (.aload_n 0, 1)) ∧ (decode cX4_init 45 = .ok (.iconst 0, 1)) ∧ (decode cX4_init 46 = .ok (.putfield 39, 3)) ∧ (decode cX4_init 49 = .ok (.aload_n 0, 1)) ∧ (decode cX4_init 50 = .ok (.iconst 0, 1)) ∧ (decode cX4_init 51 = .ok (.putfield 42, 3)) := by decide +kernel
theorem dX4_init_26 : decode cX4_init 26 = .ok (.putfield 27, 3) := da9_dX4_init_26.1
theorem dX4_init_29 : decode cX4_init 29 = .ok (.aload_n 0, 1) := da9_dX4_init_26.2.1
theorem dX4_init_30 : decode cX4_init 30 = .ok (.iconst 0, 1) := da9_dX4_init_26.2.2.1
theorem dX4_init_31 : decode cX4_init 31 = .ok (.putfield 30, 3) := da9_dX4_init_26.2.2.2.1
theorem dX4_init_34 : decode cX4_init 34 = .ok (.aload_n 0, 1) := da9_dX4_init_26.2.2.2.2.1
theorem dX4_init_35 : decode cX4_init 35 = .ok (.iconst 0, 1) := da9_dX4_init_26.2.2.2.2.2.1
theorem dX4_init_36 : decode cX4_init 36 = .ok (.putfield 33, 3) := da9_dX4_init_26.2.2.2.2.2.2.1
theorem dX4_init_39 : decode cX4_init 39 = .ok (.aload_n 0, 1) := da9_dX4_init_26.2.2.2.2.2.2.2.1
theorem dX4_init_40 : decode cX4_init 40 = .ok (.iconst 0, 1) := da9_dX4_init_26.2.2.2.2.2.2.2.2.1
theorem dX4_init_41 : decode cX4_init 41 = .ok (.putfield 36, 3) := da9_dX4_init_26.2.2.2.2.2.2.2.2.2.1
theorem dX4_init_44 : decode cX4_init 44 = .ok (.aload_n 0, 1) := da9_dX4_init_26.2.2.2.2.2.2.2.2.2.2.1
theorem dX4_init_45 : decode cX4_init 45 = .ok (.iconst 0, 1) := da9_dX4_init_26.2.2.2.2.2.2.2.2.2.2.2.1
theorem dX4_init_46 : decode cX4_init 46 = .ok (.putfield 39, 3) := da9_dX4_init_26.2.2.2.2.2.2.2.2.2.2.2.2.1
theorem dX4_init_49 : decode cX4_init 49 = .ok (.aload_n 0, 1) := da9_dX4_init_26.2.2.2.2.2.2.2.2.2.2.2.2.2.1
theorem dX4_init_50 : decode cX4_init 50 = .ok (.iconst 0, 1) := da9_dX4_init_26.2.2.2.2.2.2.2.2.2.2.2.2.2.2.1
theorem dX4_init_51 : decode cX4_init 51 = .ok (.putfield 42, 3) := da9_dX4_init_26.2.2.2.2.2.2.2.2.2.2.2.2.2.2.2
theorem da9_dX4_init_54 : (decode cX4_init 54 = .ok (.aload_n 0, 1)) ∧ (decode cX4_init 55 = .ok (.iconst (-1), 1)) ∧ (decode cX4_init 56 = .ok (.putfield 45, 3)) ∧ (decode cX4_init 59 = .ok (.return_, 1)) := by decide +kernel
theorem dX4_init_54 : decode cX4_init 54 = .ok (.aload_n 0, 1) := da9_dX4_init_54.1
theorem dX4_init_55 : decode cX4_init 55 = .ok (.iconst (-1), 1) := da9_dX4_init_54.2.1
theorem dX4_init_56 : decode cX4_init 56 = .ok (.putfield 45, 3) := da9_dX4_init_54.2.2.1
theorem dX4_init_59 : decode cX4_init 59 = .ok (.return_, 1) := da9_dX4_init_54.2.2.2
theorem da9_dX5_init_0 : (decode cX5_init 0 = .ok (.aload_n 0, 1)) ∧ (decode cX5_init 1 = .ok (.invokespecial 5, 3)) ∧ (decode cX5_init 4 = .ok (.aload_n 0, 1)) ∧ (decode cX5_init 5 = .ok (.bipush 17, 2)) ∧ (decode cX5_init 7 = .ok (.newarray .int, 2)) ∧ (decode cX5_init 9 = .ok (.putfield 11, 3)) ∧ (decode cX5_init 12 = .ok (.aload_n 0, 1)) ∧ (decode cX5_init 13 = .ok (.iconst 0, 1)) ∧ (decode cX5_init 14 = .ok (.putfield 15, 3)) ∧ (decode cX5_init 17 = .ok (.aload_n 0, 1)) ∧ (decode cX5_init 18 = .ok (.iconst (-1), 1)) ∧ (decode cX5_init 19 = .ok (.putfield 19, 3)) ∧ (decode cX5_init 22 = .ok (.aload_n 0, 1)) ∧ (decode cX5_init 23 = .ok (.aload_n 1, 1)) ∧ (decode cX5_init 24 = .ok (.putfield 22, 3)) ∧ (decode cX5_init 27 = .ok (.return_, 1)) := by decide +kernel
theorem dX5_init_0 : decode cX5_init 0 = .ok (.aload_n 0, 1) := da9_dX5_init_0.1
theorem dX5_init_1 : decode cX5_init 1 = .ok (.invokespecial 5, 3) := da9_dX5_init_0.2.1
theorem dX5_init_4 : decode cX5_init 4 = .ok (.aload_n 0, 1) := da9_dX5_init_0.2.2.1
theorem dX5_init_5 : decode cX5_init 5 = .ok (.bipush 17, 2) := da9_dX5_init_0.2.2.2.1
theorem dX5_init_7 : decode cX5_init 7 = .ok (.newarray .int, 2) := da9_dX5_init_0.2.2.2.2.1
theorem dX5_init_9 : decode cX5_init 9 = .ok (.putfield 11, 3) := da9_dX5_init_0.2.2.2.2.2.1
theorem dX5_init_12 : decode cX5_init 12 = .ok (.aload_n 0, 1) := da9_dX5_init_0.2.2.2.2.2.2.1
theorem dX5_init_13 : decode cX5_init 13 = .ok (.iconst 0, 1) := da9_dX5_init_0.2.2.2.2.2.2.2.1
theorem dX5_init_14 : decode cX5_init 14 = .ok (.putfield 15, 3) := da9_dX5_init_0.2.2.2.2.2.2.2.2.1
theorem dX5_init_17 : decode cX5_init 17 = .ok (.aload_n 0, 1) := da9_dX5_init_0.2.2.2.2.2.2.2.2.2.1
theorem dX5_init_18 : decode cX5_init 18 = .ok (.iconst (-1), 1) := da9_dX5_init_0.2.2.2.2.2.2.2.2.2.2.1
theorem dX5_init_19 : decode cX5_init 19 = .ok (.putfield 19, 3) := da9_dX5_init_0.2.2.2.2.2.2.2.2.2.2.2.1
theorem dX5_init_22 : decode cX5_init 22 = .ok (.aload_n 0, 1) := da9_dX5_init_0.2.2.2.2.2.2.2.2.2.2.2.2.1
theorem dX5_init_23 : decode cX5_init 23 = .ok (.aload_n 1, 1) := da9_dX5_init_0.2.2.2.2.2.2.2.2.2.2.2.2.2.1
theorem dX5_init_24 : decode cX5_init 24 = .ok (.putfield 22, 3) := da9_dX5_init_0.2.2.2.2.2.2.2.2.2.2.2.2.2.2.1
theorem dX5_init_27 : decode cX5_init 27 = .ok (.return_, 1) := da9_dX5_init_0.2.2.2.2.2.2.2.2.2.2.2.2.2.2.2
set_option maxRecDepth 20000 in
theorem ggX6_init_X8_init : GoodIn wsX6_init wsX8_init := goodIn_r _ [20, 21, 2, 3, 11, 22, 23, 24, 25, 26, 27, 28, 29, 30, 31] rfl (by decide +kernel)
set_option maxRecDepth 20000 in
theorem gX6_init_X8_init_n11 : GoodIn wsX6_init (wsX8_init) := ggX6_init_X8_init
theorem da9_dX6_init_0 : (decode cX6_init 0 = .ok (.aload_n 0, 1)) ∧ (decode cX6_init 1 = .ok (.invokespecial 3, 3)) ∧ (decode cX6_init 4 = .ok (.aload_n 0, 1)) ∧ (decode cX6_init 5 = .ok (.new 9, 3)) ∧ (decode cX6_init 8 = .ok (.dup, 1)) ∧ (decode cX6_init 9 = .ok (.invokespecial 11, 3)) ∧ (decode cX6_init 12 = .ok (.putfield 12, 3)) ∧ (decode cX6_init 15 = .ok (.aload_n 0, 1)) ∧ (decode cX6_init 16 = .ok (.iconst 1, 1)) ∧ (decode cX6_init 17 = .ok (.putfield 18, 3)) ∧ (decode cX6_init 20 = .ok (.aload_n 0, 1)) ∧ (decode cX6_init 21 = .ok (.iconst 0, 1)) ∧ (decode cX6_init 22 = .ok (.putfield 22, 3)) ∧ (decode cX6_init 25 = .ok (.aload_n 0, 1)) ∧ (decode cX6_init 26 = .ok (.iconst 0, 1)) ∧ (decode cX6_init 27 = .ok (.putfield 25, 3)) := by decide +kernel
theorem dX6_init_0 : decode cX6_init 0 = .ok (.aload_n 0, 1) := da9_dX6_init_0.1
theorem dX6_init_1 : decode cX6_init 1 = .ok (.invokespecial 3, 3) := da9_dX6_init_0.2.1
theorem dX6_init_4 : decode cX6_init 4 = .ok (.aload_n 0, 1) := da9_dX6_init_0.2.2.1
theorem dX6_init_5 : decode cX6_init 5 = .ok (.new 9, 3) := da9_dX6_init_0.2.2.2.1
theorem dX6_init_8 : decode cX6_init 8 = .ok (.dup, 1) := da9_dX6_init_0.2.2.2.2.1
theorem dX6_init_9 : decode cX6_init 9 = .ok (.invokespecial 11, 3) := da9_dX6_init_0.2.2.2.2.2.1
theorem dX6_init_12 : decode cX6_init 12 = .ok (.putfield 12, 3) := da9_dX6_init_0.2.2.2.2.2.2.1
theorem dX6_init_15 : decode cX6_init 15 = .ok (.aload_n 0, 1) := da9_dX6_init_0.2.2.2.2.2.2.2.1
theorem dX6_init_16 : decode cX6_init 16 = .ok (.iconst 1, 1) := da9_dX6_init_0.2.2.2.2.2.2.2.2.1
theorem dX6_init_17 : decode cX6_init 17 = .ok (.putfield 18, 3) := da9_dX6_init_0.2.2.2.2.2.2.2.2.2.1
theorem dX6_init_20 : decode cX6_init 20 = .ok (.aload_n 0, 1) := da9_dX6_init_0.2.2.2.2.2.2.2.2.2.2.1
theorem dX6_init_21 : decode cX6_init 21 = .ok (.iconst 0, 1) := da9_dX6_init_0.2.2.2.2.2.2.2.2.2.2.2.1
theorem dX6_init_22 : decode cX6_init 22 = .ok (.putfield 22, 3) := da9_dX6_init_0.2.2.2.2.2.2.2.2.2.2.2.2.1
theorem dX6_init_25 : decode cX6_init 25 = .ok (.aload_n 0, 1) := da9_dX6_init_0.2.2.2.2.2.2.2.2.2.2.2.2.2.1
theorem dX6_init_26 : decode cX6_init 26 = .ok (.iconst 0, 1) := da9_dX6_init_0.2.2.2.2.2.2.2.2.2.2.2.2.2.2.1
theorem dX6_init_27 : decode cX6_init 27 = .ok (.putfield 25, 3) := da9_dX6_init_0.2.2.2.2.2.2.2.2.2.2.2.2.2.2.2
theorem da9_dX6_init_30 : (decode cX6_init 30 = .ok (.aload_n 0, 1)) ∧ (decode cX6_init 31 = .ok (.bipush 6, 2)) ∧ (decode cX6_init 33 = .ok (.newarray .int, 2)) ∧ (decode cX6_init 35 = .ok (.putfield 28, 3)) ∧ (decode cX6_init 38 = .ok (.aload_n 0, 1)) ∧ (decode cX6_init 39 = .ok (.bipush 6, 2)) ∧ (decode cX6_init 41 = .ok (.newarray .int, 2)) ∧ (decode cX6_init 43 = .ok (.putfield 32, 3)) ∧ (decode cX6_init 46 = .ok (.aload_n 0, 1)) ∧ (decode cX6_init 47 = .ok (.iconst 0, 1)) ∧ (decode cX6_init 48 = .ok (.putfield 35, 3)) ∧ (decode cX6_init 51 = .ok (.aload_n 0, 1)) ∧ (decode cX6_init 52 = .ok (.bipush 6, 2)) ∧ (decode cX6_init 54 = .ok (.anewarray 38, 3)) ∧ (decode cX6_init 57 = .ok (.putfield 40, 3)) ∧ (decode cX6_init 60 = .ok (.aload_n 0, 1)) := by decide +kernel
theorem dX6_init_30 : decode cX6_init 30 = .ok (.aload_n 0, 1) := da9_dX6_init_30.1
theorem dX6_init_31 : decode cX6_init 31 = .ok (.bipush 6, 2) := da9_dX6_init_30.2.1
theorem dX6_init_33 : decode cX6_init 33 = .ok (.newarray .int, 2) := da9_dX6_init_30.2.2.1
theorem dX6_init_35 : decode cX6_init 35 = .ok (.putfield 28, 3) := da9_dX6_init_30.2.2.2.1
theorem dX6_init_38 : decode cX6_init 38 = .ok (.aload_n 0, 1) := da9_dX6_init_30.2.2.2.2.1
theorem dX6_init_39 : decode cX6_init 39 = .ok (.bipush 6, 2) := da9_dX6_init_30.2.2.2.2.2.1
theorem dX6_init_41 : decode cX6_init 41 = .ok (.newarray .int, 2) := da9_dX6_init_30.2.2.2.2.2.2.1
theorem dX6_init_43 : decode cX6_init 43 = .ok (.putfield 32, 3) := da9_dX6_init_30.2.2.2.2.2.2.2.1
theorem dX6_init_46 : decode cX6_init 46 = .ok (.aload_n 0, 1) := da9_dX6_init_30.2.2.2.2.2.2.2.2.1
theorem dX6_init_47 : decode cX6_init 47 = .ok (.iconst 0, 1) := da9_dX6_init_30.2.2.2.2.2.2.2.2.2.1
theorem dX6_init_48 : decode cX6_init 48 = .ok (.putfield 35, 3) := da9_dX6_init_30.2.2.2.2.2.2.2.2.2.2.1
theorem dX6_init_51 : decode cX6_init 51 = .ok (.aload_n 0, 1) := da9_dX6_init_30.2.2.2.2.2.2.2.2.2.2.2.1
theorem dX6_init_52 : decode cX6_init 52 = .ok (.bipush 6, 2) := da9_dX6_init_30.2.2.2.2.2.2.2.2.2.2.2.2.1
theorem dX6_init_54 : decode cX6_init 54 = .ok (.anewarray 38, 3) := da9_dX6_init_30.2.2.2.2.2.2.2.2.2.2.2.2.2.1
theorem dX6_init_57 : decode cX6_init 57 = .ok (.putfield 40, 3) := da9_dX6_init_30.2.2.2.2.2.2.2.2.2.2.2.2.2.2.1
theorem dX6_init_60 : decode cX6_init 60 = .ok (.aload_n 0, 1) := da9_dX6_init_30.2.2.2.2.2.2.2.2.2.2.2.2.2.2.2
theorem da9_dX6_init_61 : (decode cX6_init 61 = .ok (.iconst 0, 1)) ∧ (decode cX6_init 62 = .ok (.putfield 44, 3)) ∧ (decode cX6_init 65 = .ok (.aload_n 0, 1)) ∧ (decode cX6_init 66 = .ok (.iconst (-1), 1)) ∧ (decode cX6_init 67 = .ok (.putfield 47, 3)) ∧ (decode cX6_init 70 = .ok (.return_, 1)) := by decide +kernel
theorem dX6_init_61 : decode cX6_init 61 = .ok (.iconst 0, 1) := da9_dX6_init_61.1
theorem dX6_init_62 : decode cX6_init 62 = .ok (.putfield 44, 3) := da9_dX6_init_61.2.1
theorem dX6_init_65 : decode cX6_init 65 = .ok (.aload_n 0, 1) := da9_dX6_init_61.2.2.1
theorem dX6_init_66 : decode cX6_init 66 = .ok (.iconst (-1), 1) := da9_dX6_init_61.2.2.2.1
theorem dX6_init_67 : decode cX6_init 67 = .ok (.putfield 47, 3) := da9_dX6_init_61.2.2.2.2.1
theorem dX6_init_70 : decode cX6_init 70 = .ok (.return_, 1) := da9_dX6_init_61.2.2.2.2.2
theorem da9_dX8_init_0 : (decode cX8_init 0 = .ok (.aload_n 0, 1)) ∧ (decode cX8_init 1 = .ok (.invokespecial 3, 3)) ∧ (decode cX8_init 4 = .ok (.aload_n 0, 1)) ∧ (decode cX8_init 5 = .ok (.bipush 6, 2)) ∧ (decode cX8_init 7 = .ok (.newarray .int, 2)) ∧ (decode cX8_init 9 = .ok (.putfield 9, 3)) ∧ (decode cX8_init 12 = .ok (.aload_n 0, 1)) ∧ (decode cX8_init 13 = .ok (.bipush 6, 2)) ∧ (decode cX8_init 15 = .ok (.newarray .int, 2)) ∧ (decode cX8_init 17 = .ok (.putfield 15, 3)) ∧ (decode cX8_init 20 = .ok (.aload_n 0, 1)) ∧ (decode cX8_init 21 = .ok (.iconst 0, 1)) ∧ (decode cX8_init 22 = .ok (.putfield 18, 3)) ∧ (decode cX8_init 25 = .ok (.aload_n 0, 1)) ∧ (decode cX8_init 26 = .ok (.iconst 0, 1)) ∧ (decode cX8_init 27 = .ok (.putfield 22, 3)) := by decide +kernel
theorem dX8_init_0 : decode cX8_init 0 = .ok (.aload_n 0, 1) := da9_dX8_init_0.1
theorem dX8_init_1 : decode cX8_init 1 = .ok (.invokespecial 3, 3) := da9_dX8_init_0.2.1
theorem dX8_init_4 : decode cX8_init 4 = .ok (.aload_n 0, 1) := da9_dX8_init_0.2.2.1
theorem dX8_init_5 : decode cX8_init 5 = .ok (.bipush 6, 2) := da9_dX8_init_0.2.2.2.1
theorem dX8_init_7 : decode cX8_init 7 = .ok (.newarray .int, 2) := da9_dX8_init_0.2.2.2.2.1
theorem dX8_init_9 : decode cX8_init 9 = .ok (.putfield 9, 3) := da9_dX8_init_0.2.2.2.2.2.1
theorem dX8_init_12 : decode cX8_init 12 = .ok (.aload_n 0, 1) := da9_dX8_init_0.2.2.2.2.2.2.1
theorem dX8_init_13 : decode cX8_init 13 = .ok (.bipush 6, 2) := da9_dX8_init_0.2.2.2.2.2.2.2.1
theorem dX8_init_15 : decode cX8_init 15 = .ok (.newarray .int, 2) := da9_dX8_init_0.2.2.2.2.2.2.2.2.1
theorem dX8_init_17 : decode cX8_init 17 = .ok (.putfield 15, 3) := da9_dX8_init_0.2.2.2.2.2.2.2.2.2.1
theorem dX8_init_20 : decode cX8_init 20 = .ok (.aload_n 0, 1) := da9_dX8_init_0.2.2.2.2.2.2.2.2.2.2.1
theorem dX8_init_21 : decode cX8_init 21 = .ok (.iconst 0, 1) := da9_dX8_init_0.2.2.2.2.2.2.2.2.2.2.2.1
theorem dX8_init_22 : decode cX8_init 22 = .ok (.putfield 18, 3) := da9_dX8_init_0.2.2.2.2.2.2.2.2.2.2.2.2.1
theorem dX8_init_25 : decode cX8_init 25 = .ok (.aload_n 0, 1) := da9_dX8_init_0.2.2.2.2.2.2.2.2.2.2.2.2.2.1
theorem dX8_init_26 : decode cX8_init 26 = .ok (.iconst 0, 1) := da9_dX8_init_0.2.2.2.2.2.2.2.2.2.2.2.2.2.2.1
theorem dX8_init_27 : decode cX8_init 27 = .ok (.putfield 22, 3) := da9_dX8_init_0.2.2.2.2.2.2.2.2.2.2.2.2.2.2.2
theorem da9_dX8_init_30 : (decode cX8_init 30 = .ok (.aload_n 0, 1)) ∧ (decode cX8_init 31 = .ok (.iconst 0, 1)) ∧ (decode cX8_init 32 = .ok (.putfield 25, 3)) ∧ (decode cX8_init 35 = .ok (.return_, 1)) := by decide +kernel
theorem dX8_init_30 : decode cX8_init 30 = .ok (.aload_n 0, 1) := da9_dX8_init_30.1
theorem dX8_init_31 : decode cX8_init 31 = .ok (.iconst 0, 1) := da9_dX8_init_30.2.1
theorem dX8_init_32 : decode cX8_init 32 = .ok (.putfield 25, 3) := da9_dX8_init_30.2.2.1
theorem dX8_init_35 : decode cX8_init 35 = .ok (.return_, 1) := da9_dX8_init_30.2.2.2
set_option maxRecDepth 20000 in
theorem ggX9_init_X6_init : GoodIn wsX9_init wsX6_init := goodIn_r _ [54, 55, 2, 3, 56, 16, 17, 57, 58, 59, 60, 43, 61, 62, 63, 64, 65, 66, 67, 68, 69, 70, 71, 72, 73, 74, 75, 189, 190, 191, 192, 193, 154, 155, 156, 157, 158, 159, 160, 161, 162, 163] rfl (by decide +kernel)
set_option maxRecDepth 20000 in
theorem gX9_init_X6_init_n9 : GoodIn wsX9_init (wsX6_init) := ggX9_init_X6_init
set_option maxRecDepth 20000 in
theorem ggX9_init_X0_init : GoodIn wsX9_init wsX0_init := goodIn_r _ [77, 78, 2, 3, 49, 79, 43, 80, 81, 82, 83, 84, 183, 184, 185, 186, 187, 188] rfl (by decide +kernel)
set_option maxRecDepth 20000 in
theorem gX9_init_X0_init_n26 : GoodIn wsX9_init (wsX0_init) := ggX9_init_X0_init
set_option maxRecDepth 20000 in
theorem ggX9_init_X8_init : GoodIn wsX9_init wsX8_init := goodIn_r _ [69, 70, 2, 3, 43, 71, 72, 73, 74, 75, 189, 190, 191, 192, 193] rfl (by decide +kernel)
set_option maxRecDepth 20000 in
theorem gX9_init_X8_init_n33 : GoodIn wsX9_init (wsX8_init) := ggX9_init_X8_init
set_option maxRecDepth 20000 in
theorem ggX9_init_X2_init : GoodIn wsX9_init wsX2_init := goodIn_r _ [86, 87, 2, 3, 43, 88, 89, 194, 195] rfl (by decide +kernel)
set_option maxRecDepth 20000 in
theorem gX9_init_X2_init_n40 : GoodIn wsX9_init (wsX2_init) := ggX9_init_X2_init
set_option maxRecDepth 20000 in
theorem ggX9_init_X1_init : GoodIn wsX9_init wsX1_init := goodIn_r _ [92, 93, 2, 3, 43, 94, 95, 96, 196, 197, 198] rfl (by decide +kernel)
set_option maxRecDepth 20000 in
theorem gX9_init_X1_init : GoodIn wsX9_init (wsX1_init) := ggX9_init_X1_init
set_option maxRecDepth 20000 in
theorem ggX9_init_X5_init : GoodIn wsX9_init wsX5_init := goodIn_r _ [99, 100, 2, 3, 43, 101, 102, 103, 104, 199, 200, 201, 202] rfl (by decide +kernel)
set_option maxRecDepth 20000 in
theorem gX9_init_X5_init : GoodIn wsX9_init (wsX5_init) := ggX9_init_X5_init
set_option maxRecDepth 20000 in
theorem ggX9_init_X4_init : GoodIn wsX9_init wsX4_init := goodIn_r _ [106, 107, 2, 3, 108, 109, 110, 111, 112, 113, 114, 115, 116, 117, 118, 203, 204, 205, 206, 207, 208, 209, 210, 211, 212, 213] rfl (by decide +kernel)
set_option maxRecDepth 20000 in
theorem gX9_init_X4_init_n63 : GoodIn wsX9_init (wsX4_init) := ggX9_init_X4_init
set_option maxRecDepth 20000 in
theorem ggX9_init_X7_init : GoodIn wsX9_init wsX7_init := goodIn_r _ [121, 122, 2, 3, 123, 124, 43, 125, 126, 127, 128, 129, 130, 214, 215, 216, 217, 218, 219, 220, 221] rfl (by decide +kernel)
set_option maxRecDepth 20000 in
theorem gX9_init_X7_init : GoodIn wsX9_init (wsX7_init) := ggX9_init_X7_init
set_option maxRecDepth 20000 in
theorem ggX9_init_X3_init : GoodIn wsX9_init wsX3_init := goodIn_r _ [132, 133, 2, 3, 43, 134, 135, 136, 137, 138, 139, 140, 141, 142, 143, 144, 145, 146, 147, 148, 149, 150, 151, 152, 153, 222, 223, 224, 225, 226, 227, 228, 229, 230, 231, 232, 233, 234, 235, 236, 237, 238, 239, 240, 241] rfl (by decide +kernel)
set_option maxRecDepth 20000 in
theorem gX9_init_X3_init_n79 : GoodIn wsX9_init (wsX3_init) := ggX9_init_X3_init
theorem da9_dX9_init_0 : (decode cX9_init 0 = .ok (.aload_n 0, 1)) ∧ (decode cX9_init 1 = .ok (.invokespecial 1, 3)) ∧ (decode cX9_init 4 = .ok (.aload_n 0, 1)) ∧ (decode cX9_init 5 = .ok (.new 7, 3)) ∧ (decode cX9_init 8 = .ok (.dup, 1)) ∧ (decode cX9_init 9 = .ok (.invokespecial 9, 3)) ∧ (decode cX9_init 12 = .ok (.putfield 10, 3)) ∧ (decode cX9_init 15 = .ok (.aload_n 0, 1)) ∧ (decode cX9_init 16 = .ok (.iconst 2, 1)) ∧ (decode cX9_init 17 = .ok (.anewarray 7, 3)) ∧ (decode cX9_init 20 = .ok (.putfield 16, 3)) ∧ (decode cX9_init 23 = .ok (.aload_n 0, 1)) ∧ (decode cX9_init 24 = .ok (.iconst 2, 1)) ∧ (decode cX9_init 25 = .ok (.newarray .boolean, 2)) ∧ (decode cX9_init 27 = .ok (.putfield 20, 3)) ∧ (decode cX9_init 30 = .ok (.aload_n 0, 1)) := by decide +kernel
theorem dX9_init_0 : decode cX9_init 0 = .ok (.aload_n 0, 1) := da9_dX9_init_0.1
theorem dX9_init_1 : decode cX9_init 1 = .ok (.invokespecial 1, 3) := da9_dX9_init_0.2.1
theorem dX9_init_4 : decode cX9_init 4 = .ok (.aload_n 0, 1) := da9_dX9_init_0.2.2.1
theorem dX9_init_5 : decode cX9_init 5 = .ok (.new 7, 3) := da9_dX9_init_0.2.2.2.1
theorem dX9_init_8 : decode cX9_init 8 = .ok (.dup, 1) := da9_dX9_init_0.2.2.2.2.1
theorem dX9_init_9 : decode cX9_init 9 = .ok (.invokespecial 9, 3) := da9_dX9_init_0.2.2.2.2.2.1
theorem dX9_init_12 : decode cX9_init 12 = .ok (.putfield 10, 3) := da9_dX9_init_0.2.2.2.2.2.2.1
theorem dX9_init_15 : decode cX9_init 15 = .ok (.aload_n 0, 1) := da9_dX9_init_0.2.2.2.2.2.2.2.1
theorem dX9_init_16 : decode cX9_init 16 = .ok (.iconst 2, 1) := da9_dX9_init_0.2.2.2.2.2.2.2.2.1
theorem dX9_init_17 : decode cX9_init 17 = .ok (.anewarray 7, 3) := da9_dX9_init_0.2.2.2.2.2.2.2.2.2.1
theorem dX9_init_20 : decode cX9_init 20 = .ok (.putfield 16, 3) := da9_dX9_init_0.2.2.2.2.2.2.2.2.2.2.1
theorem dX9_init_23 : decode cX9_init 23 = .ok (.aload_n 0, 1) := da9_dX9_init_0.2.2.2.2.2.2.2.2.2.2.2.1
theorem dX9_init_24 : decode cX9_init 24 = .ok (.iconst 2, 1) := da9_dX9_init_0.2.2.2.2.2.2.2.2.2.2.2.2.1
theorem dX9_init_25 : decode cX9_init 25 = .ok (.newarray .boolean, 2) := da9_dX9_init_0.2.2.2.2.2.2.2.2.2.2.2.2.2.1
theorem dX9_init_27 : decode cX9_init 27 = .ok (.putfield 20, 3) := da9_dX9_init_0.2.2.2.2.2.2.2.2.2.2.2.2.2.2.1
theorem dX9_init_30 : decode cX9_init 30 = .ok (.aload_n 0, 1) := da9_dX9_init_0.2.2.2.2.2.2.2.2.2.2.2.2.2.2.2
theorem da9_dX9_init_31 : (decode cX9_init 31 = .ok (.new 24, 3)) ∧ (decode cX9_init 34 = .ok (.dup, 1)) ∧ (decode cX9_init 35 = .ok (.invokespecial 26, 3)) ∧ (decode cX9_init 38 = .ok (.putfield 27, 3)) ∧ (decode cX9_init 41 = .ok (.aload_n 0, 1)) ∧ (decode cX9_init 42 = .ok (.new 31, 3)) ∧ (decode cX9_init 45 = .ok (.dup, 1)) ∧ (decode cX9_init 46 = .ok (.invokespecial 33, 3)) ∧ (decode cX9_init 49 = .ok (.putfield 34, 3)) ∧ (decode cX9_init 52 = .ok (.aload_n 0, 1)) ∧ (decode cX9_init 53 = .ok (.new 38, 3)) ∧ (decode cX9_init 56 = .ok (.dup, 1)) ∧ (decode cX9_init 57 = .ok (.invokespecial 40, 3)) ∧ (decode cX9_init 60 = .ok (.putfield 41, 3)) ∧ (decode cX9_init 63 = .ok (.aload_n 0, 1)) ∧ (decode cX9_init 64 = .ok (.new 45, 3)) := by decide +kernel
theorem dX9_init_31 : decode cX9_init 31 = .ok (.new 24, 3) := da9_dX9_init_31.1
theorem dX9_init_34 : decode cX9_init 34 = .ok (.dup, 1) := da9_dX9_init_31.2.1
theorem dX9_init_35 : decode cX9_init 35 = .ok (.invokespecial 26, 3) := da9_dX9_init_31.2.2.1
theorem dX9_init_38 : decode cX9_init 38 = .ok (.putfield 27, 3) := da9_dX9_init_31.2.2.2.1
theorem dX9_init_41 : decode cX9_init 41 = .ok (.aload_n 0, 1) := da9_dX9_init_31.2.2.2.2.1
theorem dX9_init_42 : decode cX9_init 42 = .ok (.new 31, 3) := da9_dX9_init_31.2.2.2.2.2.1
theorem dX9_init_45 : decode cX9_init 45 = .ok (.dup, 1) := da9_dX9_init_31.2.2.2.2.2.2.1
theorem dX9_init_46 : decode cX9_init 46 = .ok (.invokespecial 33, 3) := da9_dX9_init_31.2.2.2.2.2.2.2.1
theorem dX9_init_49 : decode cX9_init 49 = .ok (.putfield 34, 3) := da9_dX9_init_31.2.2.2.2.2.2.2.2.1
theorem dX9_init_52 : decode cX9_init 52 = .ok (.aload_n 0, 1) := da9_dX9_init_31.2.2.2.2.2.2.2.2.2.1
theorem dX9_init_53 : decode cX9_init 53 = .ok (.new 38, 3) := da9_dX9_init_31.2.2.2.2.2.2.2.2.2.2.1
theorem dX9_init_56 : decode cX9_init 56 = .ok (.dup, 1) := da9_dX9_init_31.2.2.2.2.2.2.2.2.2.2.2.1
theorem dX9_init_57 : decode cX9_init 57 = .ok (.invokespecial 40, 3) := da9_dX9_init_31.2.2.2.2.2.2.2.2.2.2.2.2.1
theorem dX9_init_60 : decode cX9_init 60 = .ok (.putfield 41, 3) := da9_dX9_init_31.2.2.2.2.2.2.2.2.2.2.2.2.2.1
theorem dX9_init_63 : decode cX9_init 63 = .ok (.aload_n 0, 1) := da9_dX9_init_31.2.2.2.2.2.2.2.2.2.2.2.2.2.2.1
theorem dX9_init_64 : decode cX9_init 64 = .ok (.new 45, 3) := da9_dX9_init_31.2.2.2.2.2.2.2.2.2.2.2.2.2.2.2
theorem da9_dX9_init_67 : (decode cX9_init 67 = .ok (.dup, 1)) ∧ (decode cX9_init 68 = .ok (.aload_n 0, 1)) ∧ (decode cX9_init 69 = .ok (.getfield 41, 3)) ∧ (decode cX9_init 72 = .ok (.invokespecial 47, 3)) ∧ (decode cX9_init 75 = .ok (.putfield 50, 3)) ∧ (decode cX9_init 78 = .ok (.aload_n 0, 1)) ∧ (decode cX9_init 79 = .ok (.new 54, 3)) ∧ (decode cX9_init 82 = .ok (.dup, 1)) ∧ (decode cX9_init 83 = .ok (.aload_n 0, 1)) ∧ (decode cX9_init 84 = .ok (.getfield 41, 3)) ∧ (decode cX9_init 87 = .ok (.invokespecial 56, 3)) ∧ (decode cX9_init 90 = .ok (.putfield 57, 3)) ∧ (decode cX9_init 93 = .ok (.aload_n 0, 1)) ∧ (decode cX9_init 94 = .ok (.new 61, 3)) ∧ (decode cX9_init 97 = .ok (.dup, 1)) ∧ (decode cX9_init 98 = .ok (.invokespecial 63, 3)) := by decide +kernel
theorem dX9_init_67 : decode cX9_init 67 = .ok (.dup, 1) := da9_dX9_init_67.1
theorem dX9_init_68 : decode cX9_init 68 = .ok (.aload_n 0, 1) := da9_dX9_init_67.2.1
theorem dX9_init_69 : decode cX9_init 69 = .ok (.getfield 41, 3) := da9_dX9_init_67.2.2.1
theorem dX9_init_72 : decode cX9_init 72 = .ok (.invokespecial 47, 3) := da9_dX9_init_67.2.2.2.1
theorem dX9_init_75 : decode cX9_init 75 = .ok (.putfield 50, 3) := da9_dX9_init_67.2.2.2.2.1
theorem dX9_init_78 : decode cX9_init 78 = .ok (.aload_n 0, 1) := da9_dX9_init_67.2.2.2.2.2.1
theorem dX9_init_79 : decode cX9_init 79 = .ok (.new 54, 3) := da9_dX9_init_67.2.2.2.2.2.2.1
theorem dX9_init_82 : decode cX9_init 82 = .ok (.dup, 1) := da9_dX9_init_67.2.2.2.2.2.2.2.1
theorem dX9_init_83 : decode cX9_init 83 = .ok (.aload_n 0, 1) := da9_dX9_init_67.2.2.2.2.2.2.2.2.1
theorem dX9_init_84 : decode cX9_init 84 = .ok (.getfield 41, 3) := da9_dX9_init_67.2.2.2.2.2.2.2.2.2.1
theorem dX9_init_87 : decode cX9_init 87 = .ok (.invokespecial 56, 3) := da9_dX9_init_67.2.2.2.2.2.2.2.2.2.2.1
theorem dX9_init_90 : decode cX9_init 90 = .ok (.putfield 57, 3) := da9_dX9_init_67.2.2.2.2.2.2.2.2.2.2.2.1
theorem dX9_init_93 : decode cX9_init 93 = .ok (.aload_n 0, 1) := da9_dX9_init_67.2.2.2.2.2.2.2.2.2.2.2.2.1
theorem dX9_init_94 : decode cX9_init 94 = .ok (.new 61, 3) := da9_dX9_init_67.2.2.2.2.2.2.2.2.2.2.2.2.2.1
theorem dX9_init_97 : decode cX9_init 97 = .ok (.dup, 1) := da9_dX9_init_67.2.2.2.2.2.2.2.2.2.2.2.2.2.2.1
theorem dX9_init_98 : decode cX9_init 98 = .ok (.invokespecial 63, 3) := da9_dX9_init_67.2.2.2.2.2.2.2.2.2.2.2.2.2.2.2
theorem da9_dX9_init_101 : (decode cX9_init 101 = .ok (.putfield 64, 3)) ∧ (decode cX9_init 104 = .ok (.aload_n 0, 1)) ∧ (decode cX9_init 105 = .ok (.new 68, 3)) ∧ (decode cX9_init 108 = .ok (.dup, 1)) ∧ (decode cX9_init 109 = .ok (.bipush 12, 2)) ∧ (decode cX9_init 111 = .ok (.sipush 400, 3)) ∧ (decode cX9_init 114 = .ok (.invokespecial 70, 3)) ∧ (decode cX9_init 117 = .ok (.putfield 73, 3)) ∧ (decode cX9_init 120 = .ok (.aload_n 0, 1)) ∧ (decode cX9_init 121 = .ok (.new 77, 3)) ∧ (decode cX9_init 124 = .ok (.dup, 1)) ∧ (decode cX9_init 125 = .ok (.invokespecial 79, 3)) ∧ (decode cX9_init 128 = .ok (.putfield 80, 3)) ∧ (decode cX9_init 131 = .ok (.aload_n 0, 1)) ∧ (decode cX9_init 132 = .ok (.sipush 400, 3)) ∧ (decode cX9_init 135 = .ok (.newarray .int, 2)) := by decide +kernel
theorem dX9_init_101 : decode cX9_init 101 = .ok (.putfield 64, 3) := da9_dX9_init_101.1
theorem dX9_init_104 : decode cX9_init 104 = .ok (.aload_n 0, 1) := da9_dX9_init_101.2.1
theorem dX9_init_105 : decode cX9_init 105 = .ok (.new 68, 3) := da9_dX9_init_101.2.2.1
theorem dX9_init_108 : decode cX9_init 108 = .ok (.dup, 1) := da9_dX9_init_101.2.2.2.1
theorem dX9_init_109 : decode cX9_init 109 = .ok (.bipush 12, 2) := da9_dX9_init_101.2.2.2.2.1
theorem dX9_init_111 : decode cX9_init 111 = .ok (.sipush 400, 3) := da9_dX9_init_101.2.2.2.2.2.1
theorem dX9_init_114 : decode cX9_init 114 = .ok (.invokespecial 70, 3) := da9_dX9_init_101.2.2.2.2.2.2.1
theorem dX9_init_117 : decode cX9_init 117 = .ok (.putfield 73, 3) := da9_dX9_init_101.2.2.2.2.2.2.2.1
theorem dX9_init_120 : decode cX9_init 120 = .ok (.aload_n 0, 1) := da9_dX9_init_101.2.2.2.2.2.2.2.2.1
theorem dX9_init_121 : decode cX9_init 121 = .ok (.new 77, 3) := da9_dX9_init_101.2.2.2.2.2.2.2.2.2.1
theorem dX9_init_124 : decode cX9_init 124 = .ok (.dup, 1) := da9_dX9_init_101.2.2.2.2.2.2.2.2.2.2.1
theorem dX9_init_125 : decode cX9_init 125 = .ok (.invokespecial 79, 3) := da9_dX9_init_101.2.2.2.2.2.2.2.2.2.2.2.1
theorem dX9_init_128 : decode cX9_init 128 = .ok (.putfield 80, 3) := da9_dX9_init_101.2.2.2.2.2.2.2.2.2.2.2.2.1
theorem dX9_init_131 : decode cX9_init 131 = .ok (.aload_n 0, 1) := da9_dX9_init_101.2.2.2.2.2.2.2.2.2.2.2.2.2.1
theorem dX9_init_132 : decode cX9_init 132 = .ok (.sipush 400, 3) := da9_dX9_init_101.2.2.2.2.2.2.2.2.2.2.2.2.2.2.1
theorem dX9_init_135 : decode cX9_init 135 = .ok (.newarray .int, 2) := da9_dX9_init_101.2.2.2.2.2.2.2.2.2.2.2.2.2.2.2
theorem da9_dX9_init_137 : (decode cX9_init 137 = .ok (.putfield 84, 3)) ∧ (decode cX9_init 140 = .ok (.aload_n 0, 1)) ∧ (decode cX9_init 141 = .ok (.iconst 0, 1)) ∧ (decode cX9_init 142 = .ok (.putfield 88, 3)) ∧ (decode cX9_init 145 = .ok (.aload_n 0, 1)) ∧ (decode cX9_init 146 = .ok (.iconst (-1), 1)) ∧ (decode cX9_init 147 = .ok (.putfield 92, 3)) ∧ (decode cX9_init 150 = .ok (.aload_n 0, 1)) ∧ (decode cX9_init 151 = .ok (.iconst 0, 1)) ∧ (decode cX9_init 152 = .ok (.putfield 95, 3)) ∧ (decode cX9_init 155 = .ok (.aload_n 0, 1)) ∧ (decode cX9_init 156 = .ok (.iconst (-1), 1)) ∧ (decode cX9_init 157 = .ok (.putfield 98, 3)) ∧ (decode cX9_init 160 = .ok (.aload_n 0, 1)) ∧ (decode cX9_init 161 = .ok (.bipush 20, 2)) ∧ (decode cX9_init 163 = .ok (.newarray .long, 2)) := by decide +kernel
theorem dX9_init_137 : decode cX9_init 137 = .ok (.putfield 84, 3) := da9_dX9_init_137.1
theorem dX9_init_140 : decode cX9_init 140 = .ok (.aload_n 0, 1) := da9_dX9_init_137.2.1
theorem dX9_init_141 : decode cX9_init 141 = .ok (.iconst 0, 1) := da9_dX9_init_137.2.2.1
theorem dX9_init_142 : decode cX9_init 142 = .ok (.putfield 88, 3) := da9_dX9_init_137.2.2.2.1
theorem dX9_init_145 : decode cX9_init 145 = .ok (.aload_n 0, 1) := da9_dX9_init_137.2.2.2.2.1
theorem dX9_init_146 : decode cX9_init 146 = .ok (.iconst (-1), 1) := da9_dX9_init_137.2.2.2.2.2.1
theorem dX9_init_147 : decode cX9_init 147 = .ok (.putfield 92, 3) := da9_dX9_init_137.2.2.2.2.2.2.1
theorem dX9_init_150 : decode cX9_init 150 = .ok (.aload_n 0, 1) := da9_dX9_init_137.2.2.2.2.2.2.2.1
theorem dX9_init_151 : decode cX9_init 151 = .ok (.iconst 0, 1) := da9_dX9_init_137.2.2.2.2.2.2.2.2.1
theorem dX9_init_152 : decode cX9_init 152 = .ok (.putfield 95, 3) := da9_dX9_init_137.2.2.2.2.2.2.2.2.2.1
theorem dX9_init_155 : decode cX9_init 155 = .ok (.aload_n 0, 1) := da9_dX9_init_137.2.2.2.2.2.2.2.2.2.2.1
theorem dX9_init_156 : decode cX9_init 156 = .ok (.iconst (-1), 1) := da9_dX9_init_137.2.2.2.2.2.2.2.2.2.2.2.1
theorem dX9_init_157 : decode cX9_init 157 = .ok (.putfield 98, 3) := da9_dX9_init_137.2.2.2.2.2.2.2.2.2.2.2.2.1
theorem dX9_init_160 : decode cX9_init 160 = .ok (.aload_n 0, 1) := da9_dX9_init_137.2.2.2.2.2.2.2.2.2.2.2.2.2.1
theorem dX9_init_161 : decode cX9_init 161 = .ok (.bipush 20, 2) := da9_dX9_init_137.2.2.2.2.2.2.2.2.2.2.2.2.2.2.1
theorem dX9_init_163 : decode cX9_init 163 = .ok (.newarray .long, 2) := da9_dX9_init_137.2.2.2.2.2.2.2.2.2.2.2.2.2.2.2
theorem da9_dX9_init_165 : (decode cX9_init 165 = .ok (.putfield 101, 3)) ∧ (decode cX9_init 168 = .ok (.aload_n 0, 1)) ∧ (decode cX9_init 169 = .ok (.bipush 7, 2)) ∧ (decode cX9_init 171 = .ok (.newarray .int, 2)) ∧ (decode cX9_init 173 = .ok (.putfield 105, 3)) ∧ (decode cX9_init 176 = .ok (.aload_n 0, 1)) ∧ (decode cX9_init 177 = .ok (.iconst 0, 1)) ∧ (decode cX9_init 178 = .ok (.putfield 108, 3)) ∧ (decode cX9_init 181 = .ok (.iconst 0, 1)) ∧ (decode cX9_init 182 = .ok (.istore_n 1, 1)) ∧ (decode cX9_init 183 = .ok (.iload_n 1, 1)) ∧ (decode cX9_init 184 = .ok (.iconst 2, 1)) ∧ (decode cX9_init 185 = .ok (.if_icmp .ge 22, 3)) ∧ (decode cX9_init 188 = .ok (.aload_n 0, 1)) ∧ (decode cX9_init 189 = .ok (.getfield 16, 3)) ∧ (decode cX9_init 192 = .ok (.iload_n 1, 1)) := by decide +kernel
theorem dX9_init_165 : decode cX9_init 165 = .ok (.putfield 101, 3) := da9_dX9_init_165.1
theorem dX9_init_168 : decode cX9_init 168 = .ok (.aload_n 0, 1) := da9_dX9_init_165.2.1
theorem dX9_init_169 : decode cX9_init 169 = .ok (.bipush 7, 2) := da9_dX9_init_165.2.2.1
theorem dX9_init_171 : decode cX9_init 171 = .ok (.newarray .int, 2) := da9_dX9_init_165.2.2.2.1
theorem dX9_init_173 : decode cX9_init 173 = .ok (.putfield 105, 3) := da9_dX9_init_165.2.2.2.2.1
theorem dX9_init_176 : decode cX9_init 176 = .ok (.aload_n 0, 1) := da9_dX9_init_165.2.2.2.2.2.1
theorem dX9_init_177 : decode cX9_init 177 = .ok (.iconst 0, 1) := da9_dX9_init_165.2.2.2.2.2.2.1
theorem dX9_init_178 : decode cX9_init 178 = .ok (.putfield 108, 3) := da9_dX9_init_165.2.2.2.2.2.2.2.1
theorem dX9_init_181 : decode cX9_init 181 = .ok (.iconst 0, 1) := da9_dX9_init_165.2.2.2.2.2.2.2.2.1
theorem dX9_init_182 : decode cX9_init 182 = .ok (.istore_n 1, 1) := da9_dX9_init_165.2.2.2.2.2.2.2.2.2.1
theorem dX9_init_183 : decode cX9_init 183 = .ok (.iload_n 1, 1) := da9_dX9_init_165.2.2.2.2.2.2.2.2.2.2.1
theorem dX9_init_184 : decode cX9_init 184 = .ok (.iconst 2, 1) := da9_dX9_init_165.2.2.2.2.2.2.2.2.2.2.2.1
theorem dX9_init_185 : decode cX9_init 185 = .ok (.if_icmp .ge 22, 3) := da9_dX9_init_165.2.2.2.2.2.2.2.2.2.2.2.2.1
theorem dX9_init_188 : decode cX9_init 188 = .ok (.aload_n 0, 1) := da9_dX9_init_165.2.2.2.2.2.2.2.2.2.2.2.2.2.1
theorem dX9_init_189 : decode cX9_init 189 = .ok (.getfield 16, 3) := da9_dX9_init_165.2.2.2.2.2.2.2.2.2.2.2.2.2.2.1
theorem dX9_init_192 : decode cX9_init 192 = .ok (.iload_n 1, 1) := da9_dX9_init_165.2.2.2.2.2.2.2.2.2.2.2.2.2.2.2
theorem da9_dX9_init_193 : (decode cX9_init 193 = .ok (.new 7, 3)) ∧ (decode cX9_init 196 = .ok (.dup, 1)) ∧ (decode cX9_init 197 = .ok (.invokespecial 9, 3)) ∧ (decode cX9_init 200 = .ok (.aastore, 1)) ∧ (decode cX9_init 201 = .ok (.iinc 1 1, 3)) ∧ (decode cX9_init 204 = .ok (.goto (-21), 3)) ∧ (decode cX9_init 207 = .ok (.return_, 1)) := by decide +kernel
theorem dX9_init_193 : decode cX9_init 193 = .ok (.new 7, 3) := da9_dX9_init_193.1
theorem dX9_init_196 : decode cX9_init 196 = .ok (.dup, 1) := da9_dX9_init_193.2.1
theorem dX9_init_197 : decode cX9_init 197 = .ok (.invokespecial 9, 3) := da9_dX9_init_193.2.2.1
theorem dX9_init_200 : decode cX9_init 200 = .ok (.aastore, 1) := da9_dX9_init_193.2.2.2.1
theorem dX9_init_201 : decode cX9_init 201 = .ok (.iinc 1 1, 3) := da9_dX9_init_193.2.2.2.2.1
theorem dX9_init_204 : decode cX9_init 204 = .ok (.goto (-21), 3) := da9_dX9_init_193.2.2.2.2.2.1
theorem dX9_init_207 : decode cX9_init 207 = .ok (.return_, 1) := da9_dX9_init_193.2.2.2.2.2.2
