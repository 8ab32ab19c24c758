theorem da9_dX3_putInBucket_0 : (decode cX3_putInBucket 0 = .ok (.aload_n 0, 1)) ∧ (decode cX3_putInBucket 1 = .ok (.getfield 42, 3)) ∧ (decode cX3_putInBucket 4 = .ok (.iload_n 1, 1)) ∧ (decode cX3_putInBucket 5 = .ok (.iaload, 1)) ∧ (decode cX3_putInBucket 6 = .ok (.bipush 100, 2)) ∧ (decode cX3_putInBucket 8 = .ok (.irem, 1)) ∧ (decode cX3_putInBucket 9 = .ok (.istore_n 2, 1)) ∧ (decode cX3_putInBucket 10 = .ok (.aload_n 0, 1)) ∧ (decode cX3_putInBucket 11 = .ok (.getfield 45, 3)) ∧ (decode cX3_putInBucket 14 = .ok (.iload_n 1, 1)) ∧ (decode cX3_putInBucket 15 = .ok (.aload_n 0, 1)) ∧ (decode cX3_putInBucket 16 = .ok (.getfield 27, 3)) ∧ (decode cX3_putInBucket 19 = .ok (.iload_n 2, 1)) ∧ (decode cX3_putInBucket 20 = .ok (.iaload, 1)) ∧ (decode cX3_putInBucket 21 = .ok (.iastore, 1)) ∧ (decode cX3_putInBucket 22 = .ok (.aload_n 0, 1)) := by decide +kernel
theorem dX3_putInBucket_0 : decode cX3_putInBucket 0 = .ok (.aload_n 0, 1) := da9_dX3_putInBucket_0.1
theorem dX3_putInBucket_1 : decode cX3_putInBucket 1 = .ok (.getfield 42, 3) := da9_dX3_putInBucket_0.2.1
theorem dX3_putInBucket_4 : decode cX3_putInBucket 4 = .ok (.iload_n 1, 1) := da9_dX3_putInBucket_0.2.2.1
theorem dX3_putInBucket_5 : decode cX3_putInBucket 5 = .ok (.iaload, 1) := da9_dX3_putInBucket_0.2.2.2.1
theorem dX3_putInBucket_6 : decode cX3_putInBucket 6 = .ok (.bipush 100, 2) := da9_dX3_putInBucket_0.2.2.2.2.1
theorem dX3_putInBucket_8 : decode cX3_putInBucket 8 = .ok (.irem, 1) := da9_dX3_putInBucket_0.2.2.2.2.2.1
theorem dX3_putInBucket_9 : decode cX3_putInBucket 9 = .ok (.istore_n 2, 1) := da9_dX3_putInBucket_0.2.2.2.2.2.2.1
theorem dX3_putInBucket_10 : decode cX3_putInBucket 10 = .ok (.aload_n 0, 1) := da9_dX3_putInBucket_0.2.2.2.2.2.2.2.1
theorem dX3_putInBucket_11 : decode cX3_putInBucket 11 = .ok (.getfield 45, 3) := da9_dX3_putInBucket_0.2.2.2.2.2.2.2.2.1
theorem dX3_putInBucket_14 : decode cX3_putInBucket 14 = .ok (.iload_n 1, 1) := da9_dX3_putInBucket_0.2.2.2.2.2.2.2.2.2.1
theorem dX3_putInBucket_15 : decode cX3_putInBucket 15 = .ok (.aload_n 0, 1) := da9_dX3_putInBucket_0.2.2.2.2.2.2.2.2.2.2.1
theorem dX3_putInBucket_16 : decode cX3_putInBucket 16 = .ok (.getfield 27, 3) := da9_dX3_putInBucket_0.2.2.2.2.2.2.2.2.2.2.2.1
theorem dX3_putInBucket_19 : decode cX3_putInBucket 19 = .ok (.iload_n 2, 1) := da9_dX3_putInBucket_0.2.2.2.2.2.2.2.2.2.2.2.2.1
theorem dX3_putInBucket_20 : decode cX3_putInBucket 20 = .ok (.iaload, 1) := da9_dX3_putInBucket_0.2.2.2.2.2.2.2.2.2.2.2.2.2.1
theorem dX3_putInBucket_21 : decode cX3_putInBucket 21 = .ok (.iastore, 1) := da9_dX3_putInBucket_0.2.2.2.2.2.2.2.2.2.2.2.2.2.2.1
theorem dX3_putInBucket_22 : decode cX3_putInBucket 22 = .ok (.aload_n 0, 1) := da9_dX3_putInBucket_0.2.2.2.2.2.2.2.2.2.2.2.2.2.2.2
theorem da9_dX3_putInBucket_23 : (decode cX3_putInBucket 23 = .ok (.getfield 48, 3)) ∧ (decode cX3_putInBucket 26 = .ok (.iload_n 1, 1)) ∧ (decode cX3_putInBucket 27 = .ok (.iconst (-1), 1)) ∧ (decode cX3_putInBucket 28 = .ok (.iastore, 1)) ∧ (decode cX3_putInBucket 29 = .ok (.aload_n 0, 1)) ∧ (decode cX3_putInBucket 30 = .ok (.getfield 45, 3)) ∧ (decode cX3_putInBucket 33 = .ok (.iload_n 1, 1)) ∧ (decode cX3_putInBucket 34 = .ok (.iaload, 1)) ∧ (decode cX3_putInBucket 35 = .ok (.iconst (-1), 1)) ∧ (decode cX3_putInBucket 36 = .ok (.if_icmp .eq 15, 3)) ∧ (decode cX3_putInBucket 39 = .ok (.aload_n 0, 1)) ∧ (decode cX3_putInBucket 40 = .ok (.getfield 48, 3)) ∧ (decode cX3_putInBucket 43 = .ok (.aload_n 0, 1)) ∧ (decode cX3_putInBucket 44 = .ok (.getfield 45, 3)) ∧ (decode cX3_putInBucket 47 = .ok (.iload_n 1, 1)) ∧ (decode cX3_putInBucket 48 = .ok (.iaload, 1)) := by decide +kernel
theorem dX3_putInBucket_23 : decode cX3_putInBucket 23 = .ok (.getfield 48, 3) := da9_dX3_putInBucket_23.1
theorem dX3_putInBucket_26 : decode cX3_putInBucket 26 = .ok (.iload_n 1, 1) := da9_dX3_putInBucket_23.2.1
theorem dX3_putInBucket_27 : decode cX3_putInBucket 27 = .ok (.iconst (-1), 1) := da9_dX3_putInBucket_23.2.2.1
theorem dX3_putInBucket_28 : decode cX3_putInBucket 28 = .ok (.iastore, 1) := da9_dX3_putInBucket_23.2.2.2.1
theorem dX3_putInBucket_29 : decode cX3_putInBucket 29 = .ok (.aload_n 0, 1) := da9_dX3_putInBucket_23.2.2.2.2.1
theorem dX3_putInBucket_30 : decode cX3_putInBucket 30 = .ok (.getfield 45, 3) := da9_dX3_putInBucket_23.2.2.2.2.2.1
theorem dX3_putInBucket_33 : decode cX3_putInBucket 33 = .ok (.iload_n 1, 1) := da9_dX3_putInBucket_23.2.2.2.2.2.2.1
theorem dX3_putInBucket_34 : decode cX3_putInBucket 34 = .ok (.iaload, 1) := da9_dX3_putInBucket_23.2.2.2.2.2.2.2.1
theorem dX3_putInBucket_35 : decode cX3_putInBucket 35 = .ok (.iconst (-1), 1) := da9_dX3_putInBucket_23.2.2.2.2.2.2.2.2.1
theorem dX3_putInBucket_36 : decode cX3_putInBucket 36 = .ok (.if_icmp .eq 15, 3) := da9_dX3_putInBucket_23.2.2.2.2.2.2.2.2.2.1
theorem dX3_putInBucket_39 : decode cX3_putInBucket 39 = .ok (.aload_n 0, 1) := da9_dX3_putInBucket_23.2.2.2.2.2.2.2.2.2.2.1
theorem dX3_putInBucket_40 : decode cX3_putInBucket 40 = .ok (.getfield 48, 3) := da9_dX3_putInBucket_23.2.2.2.2.2.2.2.2.2.2.2.1
theorem dX3_putInBucket_43 : decode cX3_putInBucket 43 = .ok (.aload_n 0, 1) := da9_dX3_putInBucket_23.2.2.2.2.2.2.2.2.2.2.2.2.1
theorem dX3_putInBucket_44 : decode cX3_putInBucket 44 = .ok (.getfield 45, 3) := da9_dX3_putInBucket_23.2.2.2.2.2.2.2.2.2.2.2.2.2.1
theorem dX3_putInBucket_47 : decode cX3_putInBucket 47 = .ok (.iload_n 1, 1) := da9_dX3_putInBucket_23.2.2.2.2.2.2.2.2.2.2.2.2.2.2.1
theorem dX3_putInBucket_48 : decode cX3_putInBucket 48 = .ok (.iaload, 1) := da9_dX3_putInBucket_23.2.2.2.2.2.2.2.2.2.2.2.2.2.2.2
theorem da9_dX3_putInBucket_49 : (decode cX3_putInBucket 49 = .ok (.iload_n 1, 1)) ∧ (decode cX3_putInBucket 50 = .ok (.iastore, 1)) ∧ (decode cX3_putInBucket 51 = .ok (.aload_n 0, 1)) ∧ (decode cX3_putInBucket 52 = .ok (.getfield 27, 3)) ∧ (decode cX3_putInBucket 55 = .ok (.iload_n 2, 1)) ∧ (decode cX3_putInBucket 56 = .ok (.iload_n 1, 1)) ∧ (decode cX3_putInBucket 57 = .ok (.iastore, 1)) ∧ (decode cX3_putInBucket 58 = .ok (.return_, 1)) := by decide +kernel
theorem dX3_putInBucket_49 : decode cX3_putInBucket 49 = .ok (.iload_n 1, 1) := da9_dX3_putInBucket_49.1
theorem dX3_putInBucket_50 : decode cX3_putInBucket 50 = .ok (.iastore, 1) := da9_dX3_putInBucket_49.2.1
theorem dX3_putInBucket_51 : decode cX3_putInBucket 51 = .ok (.aload_n 0, 1) := da9_dX3_putInBucket_49.2.2.1
theorem dX3_putInBucket_52 : decode cX3_putInBucket 52 = .ok (.getfield 27, 3) := da9_dX3_putInBucket_49.2.2.2.1
theorem dX3_putInBucket_55 : decode cX3_putInBucket 55 = .ok (.iload_n 2, 1) := da9_dX3_putInBucket_49.2.2.2.2.1
theorem dX3_putInBucket_56 : decode cX3_putInBucket 56 = .ok (.iload_n 1, 1) := da9_dX3_putInBucket_49.2.2.2.2.2.1
theorem dX3_putInBucket_57 : decode cX3_putInBucket 57 = .ok (.iastore, 1) := da9_dX3_putInBucket_49.2.2.2.2.2.2.1
theorem dX3_putInBucket_58 : decode cX3_putInBucket 58 = .ok (.return_, 1) := da9_dX3_putInBucket_49.2.2.2.2.2.2.2
theorem da9_dX3_takeFromBucket_0 : (decode cX3_takeFromBucket 0 = .ok (.aload_n 0, 1)) ∧ (decode cX3_takeFromBucket 1 = .ok (.getfield 48, 3)) ∧ (decode cX3_takeFromBucket 4 = .ok (.iload_n 1, 1)) ∧ (decode cX3_takeFromBucket 5 = .ok (.iaload, 1)) ∧ (decode cX3_takeFromBucket 6 = .ok (.iconst (-1), 1)) ∧ (decode cX3_takeFromBucket 7 = .ok (.if_icmp .ne 26, 3)) ∧ (decode cX3_takeFromBucket 10 = .ok (.aload_n 0, 1)) ∧ (decode cX3_takeFromBucket 11 = .ok (.getfield 27, 3)) ∧ (decode cX3_takeFromBucket 14 = .ok (.aload_n 0, 1)) ∧ (decode cX3_takeFromBucket 15 = .ok (.getfield 42, 3)) ∧ (decode cX3_takeFromBucket 18 = .ok (.iload_n 1, 1)) ∧ (decode cX3_takeFromBucket 19 = .ok (.iaload, 1)) ∧ (decode cX3_takeFromBucket 20 = .ok (.bipush 100, 2)) ∧ (decode cX3_takeFromBucket 22 = .ok (.irem, 1)) ∧ (decode cX3_takeFromBucket 23 = .ok (.aload_n 0, 1)) ∧ (decode cX3_takeFromBucket 24 = .ok (.getfield 45, 3)) := by decide +kernel
theorem dX3_takeFromBucket_0 : decode cX3_takeFromBucket 0 = .ok (.aload_n 0, 1) := da9_dX3_takeFromBucket_0.1
theorem dX3_takeFromBucket_1 : decode cX3_takeFromBucket 1 = .ok (.getfield 48, 3) := da9_dX3_takeFromBucket_0.2.1
theorem dX3_takeFromBucket_4 : decode cX3_takeFromBucket 4 = .ok (.iload_n 1, 1) := da9_dX3_takeFromBucket_0.2.2.1
theorem dX3_takeFromBucket_5 : decode cX3_takeFromBucket 5 = .ok (.iaload, 1) := da9_dX3_takeFromBucket_0.2.2.2.1
theorem dX3_takeFromBucket_6 : decode cX3_takeFromBucket 6 = .ok (.iconst (-1), 1) := da9_dX3_takeFromBucket_0.2.2.2.2.1
theorem dX3_takeFromBucket_7 : decode cX3_takeFromBucket 7 = .ok (.if_icmp .ne 26, 3) := da9_dX3_takeFromBucket_0.2.2.2.2.2.1
theorem dX3_takeFromBucket_10 : decode cX3_takeFromBucket 10 = .ok (.aload_n 0, 1) := da9_dX3_takeFromBucket_0.2.2.2.2.2.2.1
theorem dX3_takeFromBucket_11 : decode cX3_takeFromBucket 11 = .ok (.getfield 27, 3) := da9_dX3_takeFromBucket_0.2.2.2.2.2.2.2.1
theorem dX3_takeFromBucket_14 : decode cX3_takeFromBucket 14 = .ok (.aload_n 0, 1) := da9_dX3_takeFromBucket_0.2.2.2.2.2.2.2.2.1
theorem dX3_takeFromBucket_15 : decode cX3_takeFromBucket 15 = .ok (.getfield 42, 3) := da9_dX3_takeFromBucket_0.2.2.2.2.2.2.2.2.2.1
theorem dX3_takeFromBucket_18 : decode cX3_takeFromBucket 18 = .ok (.iload_n 1, 1) := da9_dX3_takeFromBucket_0.2.2.2.2.2.2.2.2.2.2.1
theorem dX3_takeFromBucket_19 : decode cX3_takeFromBucket 19 = .ok (.iaload, 1) := da9_dX3_takeFromBucket_0.2.2.2.2.2.2.2.2.2.2.2.1
theorem dX3_takeFromBucket_20 : decode cX3_takeFromBucket 20 = .ok (.bipush 100, 2) := da9_dX3_takeFromBucket_0.2.2.2.2.2.2.2.2.2.2.2.2.1
theorem dX3_takeFromBucket_22 : decode cX3_takeFromBucket 22 = .ok (.irem, 1) := da9_dX3_takeFromBucket_0.2.2.2.2.2.2.2.2.2.2.2.2.2.1
theorem dX3_takeFromBucket_23 : decode cX3_takeFromBucket 23 = .ok (.aload_n 0, 1) := da9_dX3_takeFromBucket_0.2.2.2.2.2.2.2.2.2.2.2.2.2.2.1
theorem dX3_takeFromBucket_24 : decode cX3_takeFromBucket 24 = .ok (.getfield 45, 3) := da9_dX3_takeFromBucket_0.2.2.2.2.2.2.2.2.2.2.2.2.2.2.2
theorem da9_dX3_takeFromBucket_27 : (decode cX3_takeFromBucket 27 = .ok (.iload_n 1, 1)) ∧ (decode cX3_takeFromBucket 28 = .ok (.iaload, 1)) ∧ (decode cX3_takeFromBucket 29 = .ok (.iastore, 1)) ∧ (decode cX3_takeFromBucket 30 = .ok (.goto 20, 3)) ∧ (decode cX3_takeFromBucket 33 = .ok (.aload_n 0, 1)) ∧ (decode cX3_takeFromBucket 34 = .ok (.getfield 45, 3)) ∧ (decode cX3_takeFromBucket 37 = .ok (.aload_n 0, 1)) ∧ (decode cX3_takeFromBucket 38 = .ok (.getfield 48, 3)) ∧ (decode cX3_takeFromBucket 41 = .ok (.iload_n 1, 1)) ∧ (decode cX3_takeFromBucket 42 = .ok (.iaload, 1)) ∧ (decode cX3_takeFromBucket 43 = .ok (.aload_n 0, 1)) ∧ (decode cX3_takeFromBucket 44 = .ok (.getfield 45, 3)) ∧ (decode cX3_takeFromBucket 47 = .ok (.iload_n 1, 1)) ∧ (decode cX3_takeFromBucket 48 = .ok (.iaload, 1)) ∧ (decode cX3_takeFromBucket 49 = .ok (.iastore, 1)) ∧ (decode cX3_takeFromBucket 50 = .ok (.aload_n 0, 1)) := by decide +kernel
theorem dX3_takeFromBucket_27 : decode cX3_takeFromBucket 27 = .ok (.iload_n 1, 1) := da9_dX3_takeFromBucket_27.1
theorem dX3_takeFromBucket_28 : decode cX3_takeFromBucket 28 = .ok (.iaload, 1) := da9_dX3_takeFromBucket_27.2.1
theorem dX3_takeFromBucket_29 : decode cX3_takeFromBucket 29 = .ok (.iastore, 1) := da9_dX3_takeFromBucket_27.2.2.1
theorem dX3_takeFromBucket_30 : decode cX3_takeFromBucket 30 = .ok (.goto 20, 3) := da9_dX3_takeFromBucket_27.2.2.2.1
theorem dX3_takeFromBucket_33 : decode cX3_takeFromBucket 33 = .ok (.aload_n 0, 1) := da9_dX3_takeFromBucket_27.2.2.2.2.1
theorem dX3_takeFromBucket_34 : decode cX3_takeFromBucket 34 = .ok (.getfield 45, 3) := da9_dX3_takeFromBucket_27.2.2.2.2.2.1
theorem dX3_takeFromBucket_37 : decode cX3_takeFromBucket 37 = .ok (.aload_n 0, 1) := da9_dX3_takeFromBucket_27.2.2.2.2.2.2.1
theorem dX3_takeFromBucket_38 : decode cX3_takeFromBucket 38 = .ok (.getfield 48, 3) := da9_dX3_takeFromBucket_27.2.2.2.2.2.2.2.1
theorem dX3_takeFromBucket_41 : decode cX3_takeFromBucket 41 = .ok (.iload_n 1, 1) := da9_dX3_takeFromBucket_27.2.2.2.2.2.2.2.2.1
theorem dX3_takeFromBucket_42 : decode cX3_takeFromBucket 42 = .ok (.iaload, 1) := da9_dX3_takeFromBucket_27.2.2.2.2.2.2.2.2.2.1
theorem dX3_takeFromBucket_43 : decode cX3_takeFromBucket 43 = .ok (.aload_n 0, 1) := da9_dX3_takeFromBucket_27.2.2.2.2.2.2.2.2.2.2.1
theorem dX3_takeFromBucket_44 : decode cX3_takeFromBucket 44 = .ok (.getfield 45, 3) := da9_dX3_takeFromBucket_27.2.2.2.2.2.2.2.2.2.2.2.1
theorem dX3_takeFromBucket_47 : decode cX3_takeFromBucket 47 = .ok (.iload_n 1, 1) := da9_dX3_takeFromBucket_27.2.2.2.2.2.2.2.2.2.2.2.2.1
theorem dX3_takeFromBucket_48 : decode cX3_takeFromBucket 48 = .ok (.iaload, 1) := da9_dX3_takeFromBucket_27.2.2.2.2.2.2.2.2.2.2.2.2.2.1
theorem dX3_takeFromBucket_49 : decode cX3_takeFromBucket 49 = .ok (.iastore, 1) := da9_dX3_takeFromBucket_27.2.2.2.2.2.2.2.2.2.2.2.2.2.2.1
theorem dX3_takeFromBucket_50 : decode cX3_takeFromBucket 50 = .ok (.aload_n 0, 1) := da9_dX3_takeFromBucket_27.2.2.2.2.2.2.2.2.2.2.2.2.2.2.2
theorem da9_dX3_takeFromBucket_51 : (decode cX3_takeFromBucket 51 = .ok (.getfield 45, 3)) ∧ (decode cX3_takeFromBucket 54 = .ok (.iload_n 1, 1)) ∧ (decode cX3_takeFromBucket 55 = .ok (.iaload, 1)) ∧ (decode cX3_takeFromBucket 56 = .ok (.iconst (-1), 1)) ∧ (decode cX3_takeFromBucket 57 = .ok (.if_icmp .eq 20, 3)) ∧ (decode cX3_takeFromBucket 60 = .ok (.aload_n 0, 1)) ∧ (decode cX3_takeFromBucket 61 = .ok (.getfield 48, 3)) ∧ (decode cX3_takeFromBucket 64 = .ok (.aload_n 0, 1)) ∧ (decode cX3_takeFromBucket 65 = .ok (.getfield 45, 3)) ∧ (decode cX3_takeFromBucket 68 = .ok (.iload_n 1, 1)) ∧ (decode cX3_takeFromBucket 69 = .ok (.iaload, 1)) ∧ (decode cX3_takeFromBucket 70 = .ok (.aload_n 0, 1)) ∧ (decode cX3_takeFromBucket 71 = .ok (.getfield 48, 3)) ∧ (decode cX3_takeFromBucket 74 = .ok (.iload_n 1, 1)) ∧ (decode cX3_takeFromBucket 75 = .ok (.iaload, 1)) ∧ (decode cX3_takeFromBucket 76 = .ok (.iastore, 1)) := by decide +kernel
theorem dX3_takeFromBucket_51 : decode cX3_takeFromBucket 51 = .ok (.getfield 45, 3) := da9_dX3_takeFromBucket_51.1
theorem dX3_takeFromBucket_54 : decode cX3_takeFromBucket 54 = .ok (.iload_n 1, 1) := da9_dX3_takeFromBucket_51.2.1
theorem dX3_takeFromBucket_55 : decode cX3_takeFromBucket 55 = .ok (.iaload, 1) := da9_dX3_takeFromBucket_51.2.2.1
theorem dX3_takeFromBucket_56 : decode cX3_takeFromBucket 56 = .ok (.iconst (-1), 1) := da9_dX3_takeFromBucket_51.2.2.2.1
theorem dX3_takeFromBucket_57 : decode cX3_takeFromBucket 57 = .ok (.if_icmp .eq 20, 3) := da9_dX3_takeFromBucket_51.2.2.2.2.1
theorem dX3_takeFromBucket_60 : decode cX3_takeFromBucket 60 = .ok (.aload_n 0, 1) := da9_dX3_takeFromBucket_51.2.2.2.2.2.1
theorem dX3_takeFromBucket_61 : decode cX3_takeFromBucket 61 = .ok (.getfield 48, 3) := da9_dX3_takeFromBucket_51.2.2.2.2.2.2.1
theorem dX3_takeFromBucket_64 : decode cX3_takeFromBucket 64 = .ok (.aload_n 0, 1) := da9_dX3_takeFromBucket_51.2.2.2.2.2.2.2.1
theorem dX3_takeFromBucket_65 : decode cX3_takeFromBucket 65 = .ok (.getfield 45, 3) := da9_dX3_takeFromBucket_51.2.2.2.2.2.2.2.2.1
theorem dX3_takeFromBucket_68 : decode cX3_takeFromBucket 68 = .ok (.iload_n 1, 1) := da9_dX3_takeFromBucket_51.2.2.2.2.2.2.2.2.2.1
theorem dX3_takeFromBucket_69 : decode cX3_takeFromBucket 69 = .ok (.iaload, 1) := da9_dX3_takeFromBucket_51.2.2.2.2.2.2.2.2.2.2.1
theorem dX3_takeFromBucket_70 : decode cX3_takeFromBucket 70 = .ok (.aload_n 0, 1) := da9_dX3_takeFromBucket_51.2.2.2.2.2.2.2.2.2.2.2.1
theorem dX3_takeFromBucket_71 : decode cX3_takeFromBucket 71 = .ok (.getfield 48, 3) := da9_dX3_takeFromBucket_51.2.2.2.2.2.2.2.2.2.2.2.2.1
theorem dX3_takeFromBucket_74 : decode cX3_takeFromBucket 74 = .ok (.iload_n 1, 1) := da9_dX3_takeFromBucket_51.2.2.2.2.2.2.2.2.2.2.2.2.2.1
theorem dX3_takeFromBucket_75 : decode cX3_takeFromBucket 75 = .ok (.iaload, 1) := da9_dX3_takeFromBucket_51.2.2.2.2.2.2.2.2.2.2.2.2.2.2.1
theorem dX3_takeFromBucket_76 : decode cX3_takeFromBucket 76 = .ok (.iastore, 1) := da9_dX3_takeFromBucket_51.2.2.2.2.2.2.2.2.2.2.2.2.2.2.2
theorem dX3_takeFromBucket_77 : decode cX3_takeFromBucket 77 = .ok (.return_, 1) := by decide +kernel
theorem da9_dX3_askCases_12 : (decode cX3_askCases 12 = .ok (.aload_n 0, 1)) ∧ (decode cX3_askCases 13 = .ok (.getfield 21, 3)) := by decide +kernel
theorem dX3_askCases_12 : decode cX3_askCases 12 = .ok (.aload_n 0, 1) := da9_dX3_askCases_12.1
theorem dX3_askCases_13 : decode cX3_askCases 13 = .ok (.getfield 21, 3) := da9_dX3_askCases_12.2
