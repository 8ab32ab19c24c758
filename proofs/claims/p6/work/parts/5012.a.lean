theorem da9_dX7_init_0 : (decode cX7_init 0 = .ok (.aload_n 0, 1)) ∧ (decode cX7_init 1 = .ok (.invokespecial 1, 3)) ∧ (decode cX7_init 4 = .ok (.aload_n 0, 1)) ∧ (decode cX7_init 5 = .ok (.iconst 0, 1)) ∧ (decode cX7_init 6 = .ok (.putfield 7, 3)) ∧ (decode cX7_init 9 = .ok (.aload_n 0, 1)) ∧ (decode cX7_init 10 = .ok (.iconst 0, 1)) ∧ (decode cX7_init 11 = .ok (.putfield 13, 3)) ∧ (decode cX7_init 14 = .ok (.aload_n 0, 1)) ∧ (decode cX7_init 15 = .ok (.iload_n 1, 1)) ∧ (decode cX7_init 16 = .ok (.newarray .int, 2)) ∧ (decode cX7_init 18 = .ok (.putfield 16, 3)) ∧ (decode cX7_init 21 = .ok (.aload_n 0, 1)) ∧ (decode cX7_init 22 = .ok (.iload_n 1, 1)) ∧ (decode cX7_init 23 = .ok (.newarray .int, 2)) ∧ (decode cX7_init 25 = .ok (.putfield 20, 3)) := by decide +kernel
theorem dX7_init_0 : decode cX7_init 0 = .ok (.aload_n 0, 1) := da9_dX7_init_0.1
theorem dX7_init_1 : decode cX7_init 1 = .ok (.invokespecial 1, 3) := da9_dX7_init_0.2.1
theorem dX7_init_4 : decode cX7_init 4 = .ok (.aload_n 0, 1) := da9_dX7_init_0.2.2.1
theorem dX7_init_5 : decode cX7_init 5 = .ok (.iconst 0, 1) := da9_dX7_init_0.2.2.2.1
theorem dX7_init_6 : decode cX7_init 6 = .ok (.putfield 7, 3) := da9_dX7_init_0.2.2.2.2.1
theorem dX7_init_9 : decode cX7_init 9 = .ok (.aload_n 0, 1) := da9_dX7_init_0.2.2.2.2.2.1
theorem dX7_init_10 : decode cX7_init 10 = .ok (.iconst 0, 1) := da9_dX7_init_0.2.2.2.2.2.2.1
theorem dX7_init_11 : decode cX7_init 11 = .ok (.putfield 13, 3) := da9_dX7_init_0.2.2.2.2.2.2.2.1
theorem dX7_init_14 : decode cX7_init 14 = .ok (.aload_n 0, 1) := da9_dX7_init_0.2.2.2.2.2.2.2.2.1
theorem dX7_init_15 : decode cX7_init 15 = .ok (.iload_n 1, 1) := da9_dX7_init_0.2.2.2.2.2.2.2.2.2.1
theorem dX7_init_16 : decode cX7_init 16 = .ok (.newarray .int, 2) := da9_dX7_init_0.2.2.2.2.2.2.2.2.2.2.1
theorem dX7_init_18 : decode cX7_init 18 = .ok (.putfield 16, 3) := da9_dX7_init_0.2.2.2.2.2.2.2.2.2.2.2.1
theorem dX7_init_21 : decode cX7_init 21 = .ok (.aload_n 0, 1) := da9_dX7_init_0.2.2.2.2.2.2.2.2.2.2.2.2.1
theorem dX7_init_22 : decode cX7_init 22 = .ok (.iload_n 1, 1) := da9_dX7_init_0.2.2.2.2.2.2.2.2.2.2.2.2.2.1
theorem dX7_init_23 : decode cX7_init 23 = .ok (.newarray .int, 2) := da9_dX7_init_0.2.2.2.2.2.2.2.2.2.2.2.2.2.2.1
theorem dX7_init_25 : decode cX7_init 25 = .ok (.putfield 20, 3) := da9_dX7_init_0.2.2.2.2.2.2.2.2.2.2.2.2.2.2.2
theorem da9_dX7_init_28 : (decode cX7_init 28 = .ok (.aload_n 0, 1)) ∧ (decode cX7_init 29 = .ok (.iload_n 1, 1)) ∧ (decode cX7_init 30 = .ok (.newarray .int, 2)) ∧ (decode cX7_init 32 = .ok (.putfield 23, 3)) ∧ (decode cX7_init 35 = .ok (.aload_n 0, 1)) ∧ (decode cX7_init 36 = .ok (.iload_n 1, 1)) ∧ (decode cX7_init 37 = .ok (.newarray .int, 2)) ∧ (decode cX7_init 39 = .ok (.putfield 26, 3)) ∧ (decode cX7_init 42 = .ok (.aload_n 0, 1)) ∧ (decode cX7_init 43 = .ok (.iload_n 1, 1)) ∧ (decode cX7_init 44 = .ok (.newarray .int, 2)) ∧ (decode cX7_init 46 = .ok (.putfield 29, 3)) ∧ (decode cX7_init 49 = .ok (.aload_n 0, 1)) ∧ (decode cX7_init 50 = .ok (.iload_n 2, 1)) ∧ (decode cX7_init 51 = .ok (.newarray .int, 2)) ∧ (decode cX7_init 53 = .ok (.putfield 32, 3)) := by decide +kernel
theorem dX7_init_28 : decode cX7_init 28 = .ok (.aload_n 0, 1) := da9_dX7_init_28.1
theorem dX7_init_29 : decode cX7_init 29 = .ok (.iload_n 1, 1) := da9_dX7_init_28.2.1
theorem dX7_init_30 : decode cX7_init 30 = .ok (.newarray .int, 2) := da9_dX7_init_28.2.2.1
theorem dX7_init_32 : decode cX7_init 32 = .ok (.putfield 23, 3) := da9_dX7_init_28.2.2.2.1
theorem dX7_init_35 : decode cX7_init 35 = .ok (.aload_n 0, 1) := da9_dX7_init_28.2.2.2.2.1
theorem dX7_init_36 : decode cX7_init 36 = .ok (.iload_n 1, 1) := da9_dX7_init_28.2.2.2.2.2.1
theorem dX7_init_37 : decode cX7_init 37 = .ok (.newarray .int, 2) := da9_dX7_init_28.2.2.2.2.2.2.1
theorem dX7_init_39 : decode cX7_init 39 = .ok (.putfield 26, 3) := da9_dX7_init_28.2.2.2.2.2.2.2.1
theorem dX7_init_42 : decode cX7_init 42 = .ok (.aload_n 0, 1) := da9_dX7_init_28.2.2.2.2.2.2.2.2.1
theorem dX7_init_43 : decode cX7_init 43 = .ok (.iload_n 1, 1) := da9_dX7_init_28.2.2.2.2.2.2.2.2.2.1
theorem dX7_init_44 : decode cX7_init 44 = .ok (.newarray .int, 2) := da9_dX7_init_28.2.2.2.2.2.2.2.2.2.2.1
theorem dX7_init_46 : decode cX7_init 46 = .ok (.putfield 29, 3) := da9_dX7_init_28.2.2.2.2.2.2.2.2.2.2.2.1
theorem dX7_init_49 : decode cX7_init 49 = .ok (.aload_n 0, 1) := da9_dX7_init_28.2.2.2.2.2.2.2.2.2.2.2.2.1
theorem dX7_init_50 : decode cX7_init 50 = .ok (.iload_n 2, 1) := da9_dX7_init_28.2.2.2.2.2.2.2.2.2.2.2.2.2.1
theorem dX7_init_51 : decode cX7_init 51 = .ok (.newarray .int, 2) := da9_dX7_init_28.2.2.2.2.2.2.2.2.2.2.2.2.2.2.1
theorem dX7_init_53 : decode cX7_init 53 = .ok (.putfield 32, 3) := da9_dX7_init_28.2.2.2.2.2.2.2.2.2.2.2.2.2.2.2
theorem dX7_init_56 : decode cX7_init 56 = .ok (.return_, 1) := by decide +kernel
