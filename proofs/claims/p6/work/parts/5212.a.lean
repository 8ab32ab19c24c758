theorem da9_dX0_keep_0 : (decode cX0_keep 0 = .ok (.aload_n 0, 1)) ∧ (decode cX0_keep 1 = .ok (.getfield 19, 3)) ∧ (decode cX0_keep 4 = .ok (.bipush 16, 2)) ∧ (decode cX0_keep 6 = .ok (.if_icmp .lt 39, 3)) ∧ (decode cX0_keep 9 = .ok (.aload_n 0, 1)) ∧ (decode cX0_keep 10 = .ok (.getfield 9, 3)) ∧ (decode cX0_keep 13 = .ok (.iconst 1, 1)) ∧ (decode cX0_keep 14 = .ok (.aload_n 0, 1)) ∧ (decode cX0_keep 15 = .ok (.getfield 9, 3)) ∧ (decode cX0_keep 18 = .ok (.iconst 0, 1)) ∧ (decode cX0_keep 19 = .ok (.bipush 15, 2)) ∧ (decode cX0_keep 21 = .ok (.invokestatic 32, 3)) ∧ (decode cX0_keep 24 = .ok (.aload_n 0, 1)) ∧ (decode cX0_keep 25 = .ok (.getfield 15, 3)) ∧ (decode cX0_keep 28 = .ok (.iconst 1, 1)) ∧ (decode cX0_keep 29 = .ok (.aload_n 0, 1)) := by decide +kernel
theorem dX0_keep_0 : decode cX0_keep 0 = .ok (.aload_n 0, 1) := da9_dX0_keep_0.1
theorem dX0_keep_1 : decode cX0_keep 1 = .ok (.getfield 19, 3) := da9_dX0_keep_0.2.1
theorem dX0_keep_4 : decode cX0_keep 4 = .ok (.bipush 16, 2) := da9_dX0_keep_0.2.2.1
theorem dX0_keep_6 : decode cX0_keep 6 = .ok (.if_icmp .lt 39, 3) := da9_dX0_keep_0.2.2.2.1
theorem dX0_keep_9 : decode cX0_keep 9 = .ok (.aload_n 0, 1) := da9_dX0_keep_0.2.2.2.2.1
theorem dX0_keep_10 : decode cX0_keep 10 = .ok (.getfield 9, 3) := da9_dX0_keep_0.2.2.2.2.2.1
theorem dX0_keep_13 : decode cX0_keep 13 = .ok (.iconst 1, 1) := da9_dX0_keep_0.2.2.2.2.2.2.1
theorem dX0_keep_14 : decode cX0_keep 14 = .ok (.aload_n 0, 1) := da9_dX0_keep_0.2.2.2.2.2.2.2.1
theorem dX0_keep_15 : decode cX0_keep 15 = .ok (.getfield 9, 3) := da9_dX0_keep_0.2.2.2.2.2.2.2.2.1
theorem dX0_keep_18 : decode cX0_keep 18 = .ok (.iconst 0, 1) := da9_dX0_keep_0.2.2.2.2.2.2.2.2.2.1
theorem dX0_keep_19 : decode cX0_keep 19 = .ok (.bipush 15, 2) := da9_dX0_keep_0.2.2.2.2.2.2.2.2.2.2.1
theorem dX0_keep_21 : decode cX0_keep 21 = .ok (.invokestatic 32, 3) := da9_dX0_keep_0.2.2.2.2.2.2.2.2.2.2.2.1
theorem dX0_keep_24 : decode cX0_keep 24 = .ok (.aload_n 0, 1) := da9_dX0_keep_0.2.2.2.2.2.2.2.2.2.2.2.2.1
theorem dX0_keep_25 : decode cX0_keep 25 = .ok (.getfield 15, 3) := da9_dX0_keep_0.2.2.2.2.2.2.2.2.2.2.2.2.2.1
theorem dX0_keep_28 : decode cX0_keep 28 = .ok (.iconst 1, 1) := da9_dX0_keep_0.2.2.2.2.2.2.2.2.2.2.2.2.2.2.1
theorem dX0_keep_29 : decode cX0_keep 29 = .ok (.aload_n 0, 1) := da9_dX0_keep_0.2.2.2.2.2.2.2.2.2.2.2.2.2.2.2
theorem da9_dX0_keep_30 : (decode cX0_keep 30 = .ok (.getfield 15, 3)) ∧ (decode cX0_keep 33 = .ok (.iconst 0, 1)) ∧ (decode cX0_keep 34 = .ok (.bipush 15, 2)) ∧ (decode cX0_keep 36 = .ok (.invokestatic 32, 3)) ∧ (decode cX0_keep 39 = .ok (.aload_n 0, 1)) ∧ (decode cX0_keep 40 = .ok (.bipush 15, 2)) ∧ (decode cX0_keep 42 = .ok (.putfield 19, 3)) ∧ (decode cX0_keep 45 = .ok (.aload_n 0, 1)) ∧ (decode cX0_keep 46 = .ok (.getfield 9, 3)) ∧ (decode cX0_keep 49 = .ok (.aload_n 0, 1)) ∧ (decode cX0_keep 50 = .ok (.getfield 19, 3)) ∧ (decode cX0_keep 53 = .ok (.lload_n 2, 1)) ∧ (decode cX0_keep 54 = .ok (.lastore, 1)) ∧ (decode cX0_keep 55 = .ok (.aload_n 0, 1)) ∧ (decode cX0_keep 56 = .ok (.getfield 15, 3)) ∧ (decode cX0_keep 59 = .ok (.aload_n 0, 1)) := by decide +kernel
theorem dX0_keep_30 : decode cX0_keep 30 = .ok (.getfield 15, 3) := da9_dX0_keep_30.1
theorem dX0_keep_33 : decode cX0_keep 33 = .ok (.iconst 0, 1) := da9_dX0_keep_30.2.1
theorem dX0_keep_34 : decode cX0_keep 34 = .ok (.bipush 15, 2) := da9_dX0_keep_30.2.2.1
theorem dX0_keep_36 : decode cX0_keep 36 = .ok (.invokestatic 32, 3) := da9_dX0_keep_30.2.2.2.1
theorem dX0_keep_39 : decode cX0_keep 39 = .ok (.aload_n 0, 1) := da9_dX0_keep_30.2.2.2.2.1
theorem dX0_keep_40 : decode cX0_keep 40 = .ok (.bipush 15, 2) := da9_dX0_keep_30.2.2.2.2.2.1
theorem dX0_keep_42 : decode cX0_keep 42 = .ok (.putfield 19, 3) := da9_dX0_keep_30.2.2.2.2.2.2.1
theorem dX0_keep_45 : decode cX0_keep 45 = .ok (.aload_n 0, 1) := da9_dX0_keep_30.2.2.2.2.2.2.2.1
theorem dX0_keep_46 : decode cX0_keep 46 = .ok (.getfield 9, 3) := da9_dX0_keep_30.2.2.2.2.2.2.2.2.1
theorem dX0_keep_49 : decode cX0_keep 49 = .ok (.aload_n 0, 1) := da9_dX0_keep_30.2.2.2.2.2.2.2.2.2.1
theorem dX0_keep_50 : decode cX0_keep 50 = .ok (.getfield 19, 3) := da9_dX0_keep_30.2.2.2.2.2.2.2.2.2.2.1
theorem dX0_keep_53 : decode cX0_keep 53 = .ok (.lload_n 2, 1) := da9_dX0_keep_30.2.2.2.2.2.2.2.2.2.2.2.1
theorem dX0_keep_54 : decode cX0_keep 54 = .ok (.lastore, 1) := da9_dX0_keep_30.2.2.2.2.2.2.2.2.2.2.2.2.1
theorem dX0_keep_55 : decode cX0_keep 55 = .ok (.aload_n 0, 1) := da9_dX0_keep_30.2.2.2.2.2.2.2.2.2.2.2.2.2.1
theorem dX0_keep_56 : decode cX0_keep 56 = .ok (.getfield 15, 3) := da9_dX0_keep_30.2.2.2.2.2.2.2.2.2.2.2.2.2.2.1
theorem dX0_keep_59 : decode cX0_keep 59 = .ok (.aload_n 0, 1) := da9_dX0_keep_30.2.2.2.2.2.2.2.2.2.2.2.2.2.2.2
theorem da9_dX0_keep_60 : (decode cX0_keep 60 = .ok (.getfield 19, 3)) ∧ (decode cX0_keep 63 = .ok (.iload_n 1, 1)) ∧ (decode cX0_keep 64 = .ok (.iastore, 1)) ∧ (decode cX0_keep 65 = .ok (.aload_n 0, 1)) ∧ (decode cX0_keep 66 = .ok (.dup, 1)) ∧ (decode cX0_keep 67 = .ok (.getfield 19, 3)) ∧ (decode cX0_keep 70 = .ok (.iconst 1, 1)) ∧ (decode cX0_keep 71 = .ok (.iadd, 1)) ∧ (decode cX0_keep 72 = .ok (.putfield 19, 3)) ∧ (decode cX0_keep 75 = .ok (.return_, 1)) := by decide +kernel
theorem dX0_keep_60 : decode cX0_keep 60 = .ok (.getfield 19, 3) := da9_dX0_keep_60.1
theorem dX0_keep_63 : decode cX0_keep 63 = .ok (.iload_n 1, 1) := da9_dX0_keep_60.2.1
theorem dX0_keep_64 : decode cX0_keep 64 = .ok (.iastore, 1) := da9_dX0_keep_60.2.2.1
theorem dX0_keep_65 : decode cX0_keep 65 = .ok (.aload_n 0, 1) := da9_dX0_keep_60.2.2.2.1
theorem dX0_keep_66 : decode cX0_keep 66 = .ok (.dup, 1) := da9_dX0_keep_60.2.2.2.2.1
theorem dX0_keep_67 : decode cX0_keep 67 = .ok (.getfield 19, 3) := da9_dX0_keep_60.2.2.2.2.2.1
theorem dX0_keep_70 : decode cX0_keep 70 = .ok (.iconst 1, 1) := da9_dX0_keep_60.2.2.2.2.2.2.1
theorem dX0_keep_71 : decode cX0_keep 71 = .ok (.iadd, 1) := da9_dX0_keep_60.2.2.2.2.2.2.2.1
theorem dX0_keep_72 : decode cX0_keep 72 = .ok (.putfield 19, 3) := da9_dX0_keep_60.2.2.2.2.2.2.2.2.1
theorem dX0_keep_75 : decode cX0_keep 75 = .ok (.return_, 1) := da9_dX0_keep_60.2.2.2.2.2.2.2.2.2
theorem da9_dX8_unpack_0 : (decode cX8_unpack 0 = .ok (.aload_n 0, 1)) ∧ (decode cX8_unpack 1 = .ok (.lload_n 1, 1)) ∧ (decode cX8_unpack 2 = .ok (.ldc2_w 35, 3)) ∧ (decode cX8_unpack 5 = .ok (.land, 1)) ∧ (decode cX8_unpack 6 = .ok (.l2i, 1)) ∧ (decode cX8_unpack 7 = .ok (.putfield 25, 3)) ∧ (decode cX8_unpack 10 = .ok (.aload_n 0, 1)) ∧ (decode cX8_unpack 11 = .ok (.lload_n 1, 1)) ∧ (decode cX8_unpack 12 = .ok (.bipush 10, 2)) ∧ (decode cX8_unpack 14 = .ok (.lshr, 1)) ∧ (decode cX8_unpack 15 = .ok (.ldc2_w 37, 3)) ∧ (decode cX8_unpack 18 = .ok (.land, 1)) ∧ (decode cX8_unpack 19 = .ok (.l2i, 1)) ∧ (decode cX8_unpack 20 = .ok (.putfield 22, 3)) ∧ (decode cX8_unpack 23 = .ok (.lload_n 1, 1)) ∧ (decode cX8_unpack 24 = .ok (.bipush 24, 2)) := by decide +kernel
theorem dX8_unpack_0 : decode cX8_unpack 0 = .ok (.aload_n 0, 1) := da9_dX8_unpack_0.1
theorem dX8_unpack_1 : decode cX8_unpack 1 = .ok (.lload_n 1, 1) := da9_dX8_unpack_0.2.1
theorem dX8_unpack_2 : decode cX8_unpack 2 = .ok (.ldc2_w 35, 3) := da9_dX8_unpack_0.2.2.1
theorem dX8_unpack_5 : decode cX8_unpack 5 = .ok (.land, 1) := da9_dX8_unpack_0.2.2.2.1
theorem dX8_unpack_6 : decode cX8_unpack 6 = .ok (.l2i, 1) := da9_dX8_unpack_0.2.2.2.2.1
theorem dX8_unpack_7 : decode cX8_unpack 7 = .ok (.putfield 25, 3) := da9_dX8_unpack_0.2.2.2.2.2.1
theorem dX8_unpack_10 : decode cX8_unpack 10 = .ok (.aload_n 0, 1) := da9_dX8_unpack_0.2.2.2.2.2.2.1
theorem dX8_unpack_11 : decode cX8_unpack 11 = .ok (.lload_n 1, 1) := da9_dX8_unpack_0.2.2.2.2.2.2.2.1
theorem dX8_unpack_12 : decode cX8_unpack 12 = .ok (.bipush 10, 2) := da9_dX8_unpack_0.2.2.2.2.2.2.2.2.1
theorem dX8_unpack_14 : decode cX8_unpack 14 = .ok (.lshr, 1) := da9_dX8_unpack_0.2.2.2.2.2.2.2.2.2.1
theorem dX8_unpack_15 : decode cX8_unpack 15 = .ok (.ldc2_w 37, 3) := da9_dX8_unpack_0.2.2.2.2.2.2.2.2.2.2.1
theorem dX8_unpack_18 : decode cX8_unpack 18 = .ok (.land, 1) := da9_dX8_unpack_0.2.2.2.2.2.2.2.2.2.2.2.1
theorem dX8_unpack_19 : decode cX8_unpack 19 = .ok (.l2i, 1) := da9_dX8_unpack_0.2.2.2.2.2.2.2.2.2.2.2.2.1
theorem dX8_unpack_20 : decode cX8_unpack 20 = .ok (.putfield 22, 3) := da9_dX8_unpack_0.2.2.2.2.2.2.2.2.2.2.2.2.2.1
theorem dX8_unpack_23 : decode cX8_unpack 23 = .ok (.lload_n 1, 1) := da9_dX8_unpack_0.2.2.2.2.2.2.2.2.2.2.2.2.2.2.1
theorem dX8_unpack_24 : decode cX8_unpack 24 = .ok (.bipush 24, 2) := da9_dX8_unpack_0.2.2.2.2.2.2.2.2.2.2.2.2.2.2.2
theorem da9_dX8_unpack_26 : (decode cX8_unpack 26 = .ok (.lshr, 1)) ∧ (decode cX8_unpack 27 = .ok (.lstore_n 3, 1)) ∧ (decode cX8_unpack 28 = .ok (.iconst 5, 1)) ∧ (decode cX8_unpack 29 = .ok (.istore 5, 2)) ∧ (decode cX8_unpack 31 = .ok (.iload 5, 2)) ∧ (decode cX8_unpack 33 = .ok (.ifCond .lt 39, 3)) ∧ (decode cX8_unpack 36 = .ok (.aload_n 0, 1)) ∧ (decode cX8_unpack 37 = .ok (.getfield 15, 3)) ∧ (decode cX8_unpack 40 = .ok (.iload 5, 2)) ∧ (decode cX8_unpack 42 = .ok (.lload_n 3, 1)) ∧ (decode cX8_unpack 43 = .ok (.lconst 1, 1)) ∧ (decode cX8_unpack 44 = .ok (.land, 1)) ∧ (decode cX8_unpack 45 = .ok (.l2i, 1)) ∧ (decode cX8_unpack 46 = .ok (.iastore, 1)) ∧ (decode cX8_unpack 47 = .ok (.aload_n 0, 1)) ∧ (decode cX8_unpack 48 = .ok (.getfield 9, 3)) := by decide +kernel
theorem dX8_unpack_26 : decode cX8_unpack 26 = .ok (.lshr, 1) := da9_dX8_unpack_26.1
theorem dX8_unpack_27 : decode cX8_unpack 27 = .ok (.lstore_n 3, 1) := da9_dX8_unpack_26.2.1
theorem dX8_unpack_28 : decode cX8_unpack 28 = .ok (.iconst 5, 1) := da9_dX8_unpack_26.2.2.1
theorem dX8_unpack_29 : decode cX8_unpack 29 = .ok (.istore 5, 2) := da9_dX8_unpack_26.2.2.2.1
theorem dX8_unpack_31 : decode cX8_unpack 31 = .ok (.iload 5, 2) := da9_dX8_unpack_26.2.2.2.2.1
theorem dX8_unpack_33 : decode cX8_unpack 33 = .ok (.ifCond .lt 39, 3) := da9_dX8_unpack_26.2.2.2.2.2.1
theorem dX8_unpack_36 : decode cX8_unpack 36 = .ok (.aload_n 0, 1) := da9_dX8_unpack_26.2.2.2.2.2.2.1
theorem dX8_unpack_37 : decode cX8_unpack 37 = .ok (.getfield 15, 3) := da9_dX8_unpack_26.2.2.2.2.2.2.2.1
theorem dX8_unpack_40 : decode cX8_unpack 40 = .ok (.iload 5, 2) := da9_dX8_unpack_26.2.2.2.2.2.2.2.2.1
theorem dX8_unpack_42 : decode cX8_unpack 42 = .ok (.lload_n 3, 1) := da9_dX8_unpack_26.2.2.2.2.2.2.2.2.2.1
theorem dX8_unpack_43 : decode cX8_unpack 43 = .ok (.lconst 1, 1) := da9_dX8_unpack_26.2.2.2.2.2.2.2.2.2.2.1
theorem dX8_unpack_44 : decode cX8_unpack 44 = .ok (.land, 1) := da9_dX8_unpack_26.2.2.2.2.2.2.2.2.2.2.2.1
theorem dX8_unpack_45 : decode cX8_unpack 45 = .ok (.l2i, 1) := da9_dX8_unpack_26.2.2.2.2.2.2.2.2.2.2.2.2.1
theorem dX8_unpack_46 : decode cX8_unpack 46 = .ok (.iastore, 1) := da9_dX8_unpack_26.2.2.2.2.2.2.2.2.2.2.2.2.2.1
theorem dX8_unpack_47 : decode cX8_unpack 47 = .ok (.aload_n 0, 1) := da9_dX8_unpack_26.2.2.2.2.2.2.2.2.2.2.2.2.2.2.1
theorem dX8_unpack_48 : decode cX8_unpack 48 = .ok (.getfield 9, 3) := da9_dX8_unpack_26.2.2.2.2.2.2.2.2.2.2.2.2.2.2.2
theorem da9_dX8_unpack_51 : (decode cX8_unpack 51 = .ok (.iload 5, 2)) ∧ (decode cX8_unpack 53 = .ok (.lload_n 3, 1)) ∧ (decode cX8_unpack 54 = .ok (.iconst 1, 1)) ∧ (decode cX8_unpack 55 = .ok (.lshr, 1)) ∧ (decode cX8_unpack 56 = .ok (.ldc2_w 39, 3)) ∧ (decode cX8_unpack 59 = .ok (.land, 1)) ∧ (decode cX8_unpack 60 = .ok (.l2i, 1)) ∧ (decode cX8_unpack 61 = .ok (.iastore, 1)) ∧ (decode cX8_unpack 62 = .ok (.lload_n 3, 1)) ∧ (decode cX8_unpack 63 = .ok (.iconst 4, 1)) ∧ (decode cX8_unpack 64 = .ok (.lshr, 1)) ∧ (decode cX8_unpack 65 = .ok (.lstore_n 3, 1)) ∧ (decode cX8_unpack 66 = .ok (.iinc 5 (-1), 3)) ∧ (decode cX8_unpack 69 = .ok (.goto (-38), 3)) ∧ (decode cX8_unpack 72 = .ok (.aload_n 0, 1)) ∧ (decode cX8_unpack 73 = .ok (.bipush 6, 2)) := by decide +kernel
theorem dX8_unpack_51 : decode cX8_unpack 51 = .ok (.iload 5, 2) := da9_dX8_unpack_51.1
theorem dX8_unpack_53 : decode cX8_unpack 53 = .ok (.lload_n 3, 1) := da9_dX8_unpack_51.2.1
theorem dX8_unpack_54 : decode cX8_unpack 54 = .ok (.iconst 1, 1) := da9_dX8_unpack_51.2.2.1
theorem dX8_unpack_55 : decode cX8_unpack 55 = .ok (.lshr, 1) := da9_dX8_unpack_51.2.2.2.1
theorem dX8_unpack_56 : decode cX8_unpack 56 = .ok (.ldc2_w 39, 3) := da9_dX8_unpack_51.2.2.2.2.1
theorem dX8_unpack_59 : decode cX8_unpack 59 = .ok (.land, 1) := da9_dX8_unpack_51.2.2.2.2.2.1
theorem dX8_unpack_60 : decode cX8_unpack 60 = .ok (.l2i, 1) := da9_dX8_unpack_51.2.2.2.2.2.2.1
theorem dX8_unpack_61 : decode cX8_unpack 61 = .ok (.iastore, 1) := da9_dX8_unpack_51.2.2.2.2.2.2.2.1
theorem dX8_unpack_62 : decode cX8_unpack 62 = .ok (.lload_n 3, 1) := da9_dX8_unpack_51.2.2.2.2.2.2.2.2.1
theorem dX8_unpack_63 : decode cX8_unpack 63 = .ok (.iconst 4, 1) := da9_dX8_unpack_51.2.2.2.2.2.2.2.2.2.1
theorem dX8_unpack_64 : decode cX8_unpack 64 = .ok (.lshr, 1) := da9_dX8_unpack_51.2.2.2.2.2.2.2.2.2.2.1
theorem dX8_unpack_65 : decode cX8_unpack 65 = .ok (.lstore_n 3, 1) := da9_dX8_unpack_51.2.2.2.2.2.2.2.2.2.2.2.1
theorem dX8_unpack_66 : decode cX8_unpack 66 = .ok (.iinc 5 (-1), 3) := da9_dX8_unpack_51.2.2.2.2.2.2.2.2.2.2.2.2.1
theorem dX8_unpack_69 : decode cX8_unpack 69 = .ok (.goto (-38), 3) := da9_dX8_unpack_51.2.2.2.2.2.2.2.2.2.2.2.2.2.1
theorem dX8_unpack_72 : decode cX8_unpack 72 = .ok (.aload_n 0, 1) := da9_dX8_unpack_51.2.2.2.2.2.2.2.2.2.2.2.2.2.2.1
theorem dX8_unpack_73 : decode cX8_unpack 73 = .ok (.bipush 6, 2) := da9_dX8_unpack_51.2.2.2.2.2.2.2.2.2.2.2.2.2.2.2
theorem da9_dX8_unpack_75 : (decode cX8_unpack 75 = .ok (.lload_n 3, 1)) ∧ (decode cX8_unpack 76 = .ok (.l2i, 1)) ∧ (decode cX8_unpack 77 = .ok (.invokestatic 41, 3)) ∧ (decode cX8_unpack 80 = .ok (.putfield 18, 3)) ∧ (decode cX8_unpack 83 = .ok (.return_, 1)) := by decide +kernel
theorem dX8_unpack_75 : decode cX8_unpack 75 = .ok (.lload_n 3, 1) := da9_dX8_unpack_75.1
theorem dX8_unpack_76 : decode cX8_unpack 76 = .ok (.l2i, 1) := da9_dX8_unpack_75.2.1
theorem dX8_unpack_77 : decode cX8_unpack 77 = .ok (.invokestatic 41, 3) := da9_dX8_unpack_75.2.2.1
theorem dX8_unpack_80 : decode cX8_unpack 80 = .ok (.putfield 18, 3) := da9_dX8_unpack_75.2.2.2.1
theorem dX8_unpack_83 : decode cX8_unpack 83 = .ok (.return_, 1) := da9_dX8_unpack_75.2.2.2.2
set_option maxRecDepth 20000 in
theorem ggX8_act_X8_turnTop : GoodIn wsX8_act wsX8_turnTop := goodIn_r _ [5, 6, 7, 8, 9, 10, 11, 12, 13, 14, 15, 16, 17, 18, 19, 20, 21, 22, 23, 24, 25, 26, 27, 28, 29, 4, 30, 31, 32, 33, 34, 35, 36, 37, 38, 39, 40, 41, 42, 43, 44, 45, 46, 47, 48, 49, 50, 51, 52, 53, 54, 55, 56, 57, 58, 59, 60, 61, 62, 63, 64, 65, 66, 67, 68, 69, 70, 71, 72, 73, 74, 75, 76, 77, 78, 106, 107, 108, 109, 110, 111, 112, 113, 114, 115, 116, 117, 118, 119, 120, 121, 122, 123] rfl (by decide +kernel)
set_option maxRecDepth 20000 in
theorem gX8_act_X8_turnTop : GoodIn wsX8_act (wsV RX8 47 RX8 yX8_turnTop wsX8_turnTop) := goodIn_app (goodIn_of _ (by decide +kernel)) ggX8_act_X8_turnTop
set_option maxRecDepth 20000 in
theorem ggX8_act_X8_rightAt : GoodIn wsX8_act wsX8_rightAt := goodIn_r _ [82, 7, 32, 33, 34, 4, 35, 6, 106, 107, 108, 109, 110] rfl (by decide +kernel)
set_option maxRecDepth 20000 in
theorem gX8_act_X8_rightAt : GoodIn wsX8_act (wsV RX8 51 RX8 yX8_rightAt wsX8_rightAt) := goodIn_app (goodIn_of _ (by decide +kernel)) ggX8_act_X8_rightAt
set_option maxRecDepth 20000 in
theorem ggX8_act_X8_swapAt : GoodIn wsX8_act wsX8_swapAt := goodIn_r _ [86, 31, 32, 33, 34, 4, 35, 6, 75, 76, 77, 78, 7, 106, 107, 108, 109, 110] rfl (by decide +kernel)
set_option maxRecDepth 20000 in
theorem gX8_act_X8_swapAt : GoodIn wsX8_act (wsV RX8 55 RX8 yX8_swapAt wsX8_swapAt) := goodIn_app (goodIn_of _ (by decide +kernel)) ggX8_act_X8_swapAt
set_option maxRecDepth 20000 in
theorem ggX8_act_X8_passYear : GoodIn wsX8_act wsX8_passYear := goodIn_r _ [90, 91, 6, 7, 92, 93, 94, 16, 95, 26, 96, 33, 34, 4, 35, 22, 23, 24, 25, 43, 44, 45, 46, 47, 48, 49, 50, 51, 52, 53, 54, 55, 56, 10, 11, 12, 57, 58, 59, 60, 61, 62, 97, 37, 98, 99, 100, 101, 102, 103, 104, 105, 106, 107, 108, 109, 110, 111, 112, 113, 114, 115, 116, 117, 118, 119, 120, 121, 122, 123] rfl (by decide +kernel)
set_option maxRecDepth 20000 in
theorem gX8_act_X8_passYear : GoodIn wsX8_act (wsV RX8 58 RX8 yX8_passYear wsX8_passYear) := goodIn_app (goodIn_of _ (by decide +kernel)) ggX8_act_X8_passYear
theorem da9_dX8_act_0 : (decode cX8_act 0 = .ok (.iload_n 1, 1)) ∧ (decode cX8_act 1 = .ok (.tableswitch 56 0 3 #[31, 38, 44, 50], 31)) ∧ (decode cX8_act 32 = .ok (.aload_n 0, 1)) ∧ (decode cX8_act 33 = .ok (.iload_n 2, 1)) ∧ (decode cX8_act 34 = .ok (.aload_n 3, 1)) ∧ (decode cX8_act 35 = .ok (.invokevirtual 47, 3)) ∧ (decode cX8_act 38 = .ok (.ireturn, 1)) ∧ (decode cX8_act 39 = .ok (.aload_n 0, 1)) ∧ (decode cX8_act 40 = .ok (.iload_n 2, 1)) ∧ (decode cX8_act 41 = .ok (.invokevirtual 51, 3)) ∧ (decode cX8_act 44 = .ok (.ireturn, 1)) ∧ (decode cX8_act 45 = .ok (.aload_n 0, 1)) ∧ (decode cX8_act 46 = .ok (.iload_n 2, 1)) ∧ (decode cX8_act 47 = .ok (.invokevirtual 55, 3)) ∧ (decode cX8_act 50 = .ok (.ireturn, 1)) ∧ (decode cX8_act 51 = .ok (.aload_n 0, 1)) := by decide +kernel
theorem dX8_act_0 : decode cX8_act 0 = .ok (.iload_n 1, 1) := da9_dX8_act_0.1
theorem dX8_act_1 : decode cX8_act 1 = .ok (.tableswitch 56 0 3 #[31, 38, 44, 50], 31) := da9_dX8_act_0.2.1
theorem dX8_act_32 : decode cX8_act 32 = .ok (.aload_n 0, 1) := da9_dX8_act_0.2.2.1
theorem dX8_act_33 : decode cX8_act 33 = .ok (.iload_n 2, 1) := da9_dX8_act_0.2.2.2.1
theorem dX8_act_34 : decode cX8_act 34 = .ok (.aload_n 3, 1) := da9_dX8_act_0.2.2.2.2.1
theorem dX8_act_35 : decode cX8_act 35 = .ok (.invokevirtual 47, 3) := da9_dX8_act_0.2.2.2.2.2.1
theorem dX8_act_38 : decode cX8_act 38 = .ok (.ireturn, 1) := da9_dX8_act_0.2.2.2.2.2.2.1
theorem dX8_act_39 : decode cX8_act 39 = .ok (.aload_n 0, 1) := da9_dX8_act_0.2.2.2.2.2.2.2.1
theorem dX8_act_40 : decode cX8_act 40 = .ok (.iload_n 2, 1) := da9_dX8_act_0.2.2.2.2.2.2.2.2.1
theorem dX8_act_41 : decode cX8_act 41 = .ok (.invokevirtual 51, 3) := da9_dX8_act_0.2.2.2.2.2.2.2.2.2.1
theorem dX8_act_44 : decode cX8_act 44 = .ok (.ireturn, 1) := da9_dX8_act_0.2.2.2.2.2.2.2.2.2.2.1
theorem dX8_act_45 : decode cX8_act 45 = .ok (.aload_n 0, 1) := da9_dX8_act_0.2.2.2.2.2.2.2.2.2.2.2.1
theorem dX8_act_46 : decode cX8_act 46 = .ok (.iload_n 2, 1) := da9_dX8_act_0.2.2.2.2.2.2.2.2.2.2.2.2.1
theorem dX8_act_47 : decode cX8_act 47 = .ok (.invokevirtual 55, 3) := da9_dX8_act_0.2.2.2.2.2.2.2.2.2.2.2.2.2.1
theorem dX8_act_50 : decode cX8_act 50 = .ok (.ireturn, 1) := da9_dX8_act_0.2.2.2.2.2.2.2.2.2.2.2.2.2.2.1
theorem dX8_act_51 : decode cX8_act 51 = .ok (.aload_n 0, 1) := da9_dX8_act_0.2.2.2.2.2.2.2.2.2.2.2.2.2.2.2
theorem da9_dX8_act_52 : (decode cX8_act 52 = .ok (.aload_n 3, 1)) ∧ (decode cX8_act 53 = .ok (.invokevirtual 58, 3)) ∧ (decode cX8_act 56 = .ok (.ireturn, 1)) ∧ (decode cX8_act 57 = .ok (.bipush (-3), 2)) ∧ (decode cX8_act 59 = .ok (.ireturn, 1)) := by decide +kernel
theorem dX8_act_52 : decode cX8_act 52 = .ok (.aload_n 3, 1) := da9_dX8_act_52.1
theorem dX8_act_53 : decode cX8_act 53 = .ok (.invokevirtual 58, 3) := da9_dX8_act_52.2.1
theorem dX8_act_56 : decode cX8_act 56 = .ok (.ireturn, 1) := da9_dX8_act_52.2.2.1
theorem dX8_act_57 : decode cX8_act 57 = .ok (.bipush (-3), 2) := da9_dX8_act_52.2.2.2.1
theorem dX8_act_59 : decode cX8_act 59 = .ok (.ireturn, 1) := da9_dX8_act_52.2.2.2.2
set_option maxRecDepth 20000 in
theorem ggX8_turnTop_X1_bars : GoodIn wsX8_turnTop wsX1_bars := goodIn_r _ [12, 13, 14, 15, 11, 16, 17, 18, 19, 20, 21, 22, 23, 24, 25, 26, 27, 2, 28, 29, 30, 31, 1, 32, 33, 34, 35, 36, 37, 38, 39, 40, 41, 42, 43, 44, 45, 46, 47, 48, 49, 50, 51, 52, 5, 6, 7, 53, 54, 55, 56, 57, 58, 75, 76, 77, 78, 79, 80, 81, 82, 83, 84, 85, 86, 87, 88, 89, 90, 91, 92] rfl (by decide +kernel)
set_option maxRecDepth 20000 in
theorem gX8_turnTop_X1_bars : GoodIn wsX8_turnTop (wsV RX8 62 RX1 yX1_bars wsX1_bars) := goodIn_app (goodIn_of _ (by decide +kernel)) ggX8_turnTop_X1_bars
set_option maxRecDepth 20000 in
theorem ggX8_turnTop_X1_payOf : GoodIn wsX8_turnTop wsX1_payOf := goodIn_r _ [62, 13, 14, 15, 11, 16, 17, 18, 19, 20, 21, 22, 23, 24, 25, 26, 27, 2, 28, 29, 30, 31, 1, 32, 33, 34, 35, 36, 37, 38, 63, 64, 65, 66, 43, 44, 67, 5, 6, 7, 68, 69, 70, 45, 46, 47, 48, 49, 50, 51, 52, 53, 54, 55, 56, 57, 58, 75, 76, 77, 78, 79, 80, 81, 82, 83, 84, 85, 86, 87, 88, 89, 90, 91, 92] rfl (by decide +kernel)
set_option maxRecDepth 20000 in
theorem gX8_turnTop_X1_payOf : GoodIn wsX8_turnTop (wsV RX8 68 RX1 yX1_payOf wsX1_payOf) := goodIn_app (goodIn_of _ (by decide +kernel)) ggX8_turnTop_X1_payOf
set_option maxRecDepth 20000 in
theorem ggX8_turnTop_X8_exchange : GoodIn wsX8_turnTop wsX8_exchange := goodIn_r _ [74, 27, 2, 75, 76, 77, 78, 79] rfl (by decide +kernel)
set_option maxRecDepth 20000 in
theorem gX8_turnTop_X8_exchange : GoodIn wsX8_turnTop (wsV RX8 72 RX8 yX8_exchange wsX8_exchange) := goodIn_app (goodIn_of _ (by decide +kernel)) ggX8_turnTop_X8_exchange
theorem da9_dX8_turnTop_0 : (decode cX8_turnTop 0 = .ok (.iload_n 1, 1)) ∧ (decode cX8_turnTop 1 = .ok (.iconst 1, 1)) ∧ (decode cX8_turnTop 2 = .ok (.if_icmp .lt 9, 3)) ∧ (decode cX8_turnTop 5 = .ok (.iload_n 1, 1)) ∧ (decode cX8_turnTop 6 = .ok (.bipush 6, 2)) ∧ (decode cX8_turnTop 8 = .ok (.if_icmp .le 5, 3)) ∧ (decode cX8_turnTop 11 = .ok (.iconst (-1), 1)) ∧ (decode cX8_turnTop 12 = .ok (.ireturn, 1)) ∧ (decode cX8_turnTop 13 = .ok (.iload_n 1, 1)) ∧ (decode cX8_turnTop 14 = .ok (.aload_n 0, 1)) ∧ (decode cX8_turnTop 15 = .ok (.getfield 18, 3)) ∧ (decode cX8_turnTop 18 = .ok (.if_icmp .gt 12, 3)) ∧ (decode cX8_turnTop 21 = .ok (.aload_n 2, 1)) ∧ (decode cX8_turnTop 22 = .ok (.aload_n 0, 1)) ∧ (decode cX8_turnTop 23 = .ok (.iload_n 1, 1)) ∧ (decode cX8_turnTop 24 = .ok (.invokevirtual 62, 3)) := by decide +kernel
theorem dX8_turnTop_0 : decode cX8_turnTop 0 = .ok (.iload_n 1, 1) := da9_dX8_turnTop_0.1
theorem dX8_turnTop_1 : decode cX8_turnTop 1 = .ok (.iconst 1, 1) := da9_dX8_turnTop_0.2.1
theorem dX8_turnTop_2 : decode cX8_turnTop 2 = .ok (.if_icmp .lt 9, 3) := da9_dX8_turnTop_0.2.2.1
theorem dX8_turnTop_5 : decode cX8_turnTop 5 = .ok (.iload_n 1, 1) := da9_dX8_turnTop_0.2.2.2.1
theorem dX8_turnTop_6 : decode cX8_turnTop 6 = .ok (.bipush 6, 2) := da9_dX8_turnTop_0.2.2.2.2.1
theorem dX8_turnTop_8 : decode cX8_turnTop 8 = .ok (.if_icmp .le 5, 3) := da9_dX8_turnTop_0.2.2.2.2.2.1
theorem dX8_turnTop_11 : decode cX8_turnTop 11 = .ok (.iconst (-1), 1) := da9_dX8_turnTop_0.2.2.2.2.2.2.1
theorem dX8_turnTop_12 : decode cX8_turnTop 12 = .ok (.ireturn, 1) := da9_dX8_turnTop_0.2.2.2.2.2.2.2.1
theorem dX8_turnTop_13 : decode cX8_turnTop 13 = .ok (.iload_n 1, 1) := da9_dX8_turnTop_0.2.2.2.2.2.2.2.2.1
theorem dX8_turnTop_14 : decode cX8_turnTop 14 = .ok (.aload_n 0, 1) := da9_dX8_turnTop_0.2.2.2.2.2.2.2.2.2.1
theorem dX8_turnTop_15 : decode cX8_turnTop 15 = .ok (.getfield 18, 3) := da9_dX8_turnTop_0.2.2.2.2.2.2.2.2.2.2.1
theorem dX8_turnTop_18 : decode cX8_turnTop 18 = .ok (.if_icmp .gt 12, 3) := da9_dX8_turnTop_0.2.2.2.2.2.2.2.2.2.2.2.1
theorem dX8_turnTop_21 : decode cX8_turnTop 21 = .ok (.aload_n 2, 1) := da9_dX8_turnTop_0.2.2.2.2.2.2.2.2.2.2.2.2.1
theorem dX8_turnTop_22 : decode cX8_turnTop 22 = .ok (.aload_n 0, 1) := da9_dX8_turnTop_0.2.2.2.2.2.2.2.2.2.2.2.2.2.1
theorem dX8_turnTop_23 : decode cX8_turnTop 23 = .ok (.iload_n 1, 1) := da9_dX8_turnTop_0.2.2.2.2.2.2.2.2.2.2.2.2.2.2.1
theorem dX8_turnTop_24 : decode cX8_turnTop 24 = .ok (.invokevirtual 62, 3) := da9_dX8_turnTop_0.2.2.2.2.2.2.2.2.2.2.2.2.2.2.2
theorem da9_dX8_turnTop_27 : (decode cX8_turnTop 27 = .ok (.ifCond .eq 6, 3)) ∧ (decode cX8_turnTop 30 = .ok (.bipush (-3), 2)) ∧ (decode cX8_turnTop 32 = .ok (.ireturn, 1)) ∧ (decode cX8_turnTop 33 = .ok (.aload_n 2, 1)) ∧ (decode cX8_turnTop 34 = .ok (.aload_n 0, 1)) ∧ (decode cX8_turnTop 35 = .ok (.iload_n 1, 1)) ∧ (decode cX8_turnTop 36 = .ok (.invokevirtual 68, 3)) ∧ (decode cX8_turnTop 39 = .ok (.istore_n 3, 1)) ∧ (decode cX8_turnTop 40 = .ok (.iconst 0, 1)) ∧ (decode cX8_turnTop 41 = .ok (.istore 4, 2)) ∧ (decode cX8_turnTop 43 = .ok (.iload_n 1, 1)) ∧ (decode cX8_turnTop 44 = .ok (.iconst 1, 1)) ∧ (decode cX8_turnTop 45 = .ok (.isub, 1)) ∧ (decode cX8_turnTop 46 = .ok (.istore 5, 2)) ∧ (decode cX8_turnTop 48 = .ok (.iload 4, 2)) ∧ (decode cX8_turnTop 50 = .ok (.iload 5, 2)) := by decide +kernel
theorem dX8_turnTop_27 : decode cX8_turnTop 27 = .ok (.ifCond .eq 6, 3) := da9_dX8_turnTop_27.1
theorem dX8_turnTop_30 : decode cX8_turnTop 30 = .ok (.bipush (-3), 2) := da9_dX8_turnTop_27.2.1
theorem dX8_turnTop_32 : decode cX8_turnTop 32 = .ok (.ireturn, 1) := da9_dX8_turnTop_27.2.2.1
theorem dX8_turnTop_33 : decode cX8_turnTop 33 = .ok (.aload_n 2, 1) := da9_dX8_turnTop_27.2.2.2.1
theorem dX8_turnTop_34 : decode cX8_turnTop 34 = .ok (.aload_n 0, 1) := da9_dX8_turnTop_27.2.2.2.2.1
theorem dX8_turnTop_35 : decode cX8_turnTop 35 = .ok (.iload_n 1, 1) := da9_dX8_turnTop_27.2.2.2.2.2.1
theorem dX8_turnTop_36 : decode cX8_turnTop 36 = .ok (.invokevirtual 68, 3) := da9_dX8_turnTop_27.2.2.2.2.2.2.1
theorem dX8_turnTop_39 : decode cX8_turnTop 39 = .ok (.istore_n 3, 1) := da9_dX8_turnTop_27.2.2.2.2.2.2.2.1
theorem dX8_turnTop_40 : decode cX8_turnTop 40 = .ok (.iconst 0, 1) := da9_dX8_turnTop_27.2.2.2.2.2.2.2.2.1
theorem dX8_turnTop_41 : decode cX8_turnTop 41 = .ok (.istore 4, 2) := da9_dX8_turnTop_27.2.2.2.2.2.2.2.2.2.1
theorem dX8_turnTop_43 : decode cX8_turnTop 43 = .ok (.iload_n 1, 1) := da9_dX8_turnTop_27.2.2.2.2.2.2.2.2.2.2.1
theorem dX8_turnTop_44 : decode cX8_turnTop 44 = .ok (.iconst 1, 1) := da9_dX8_turnTop_27.2.2.2.2.2.2.2.2.2.2.2.1
theorem dX8_turnTop_45 : decode cX8_turnTop 45 = .ok (.isub, 1) := da9_dX8_turnTop_27.2.2.2.2.2.2.2.2.2.2.2.2.1
theorem dX8_turnTop_46 : decode cX8_turnTop 46 = .ok (.istore 5, 2) := da9_dX8_turnTop_27.2.2.2.2.2.2.2.2.2.2.2.2.2.1
theorem dX8_turnTop_48 : decode cX8_turnTop 48 = .ok (.iload 4, 2) := da9_dX8_turnTop_27.2.2.2.2.2.2.2.2.2.2.2.2.2.2.1
theorem dX8_turnTop_50 : decode cX8_turnTop 50 = .ok (.iload 5, 2) := da9_dX8_turnTop_27.2.2.2.2.2.2.2.2.2.2.2.2.2.2.2
theorem da9_dX8_turnTop_52 : (decode cX8_turnTop 52 = .ok (.if_icmp .ge 20, 3)) ∧ (decode cX8_turnTop 55 = .ok (.aload_n 0, 1)) ∧ (decode cX8_turnTop 56 = .ok (.iload 4, 2)) ∧ (decode cX8_turnTop 58 = .ok (.iload 5, 2)) ∧ (decode cX8_turnTop 60 = .ok (.invokevirtual 72, 3)) ∧ (decode cX8_turnTop 63 = .ok (.iinc 4 1, 3)) ∧ (decode cX8_turnTop 66 = .ok (.iinc 5 (-1), 3)) ∧ (decode cX8_turnTop 69 = .ok (.goto (-21), 3)) ∧ (decode cX8_turnTop 72 = .ok (.iconst 0, 1)) ∧ (decode cX8_turnTop 73 = .ok (.istore 4, 2)) ∧ (decode cX8_turnTop 75 = .ok (.iload 4, 2)) ∧ (decode cX8_turnTop 77 = .ok (.iload_n 1, 1)) ∧ (decode cX8_turnTop 78 = .ok (.if_icmp .ge 25, 3)) ∧ (decode cX8_turnTop 81 = .ok (.aload_n 0, 1)) ∧ (decode cX8_turnTop 82 = .ok (.getfield 15, 3)) ∧ (decode cX8_turnTop 85 = .ok (.iload 4, 2)) := by decide +kernel
theorem dX8_turnTop_52 : decode cX8_turnTop 52 = .ok (.if_icmp .ge 20, 3) := da9_dX8_turnTop_52.1
theorem dX8_turnTop_55 : decode cX8_turnTop 55 = .ok (.aload_n 0, 1) := da9_dX8_turnTop_52.2.1
theorem dX8_turnTop_56 : decode cX8_turnTop 56 = .ok (.iload 4, 2) := da9_dX8_turnTop_52.2.2.1
theorem dX8_turnTop_58 : decode cX8_turnTop 58 = .ok (.iload 5, 2) := da9_dX8_turnTop_52.2.2.2.1
theorem dX8_turnTop_60 : decode cX8_turnTop 60 = .ok (.invokevirtual 72, 3) := da9_dX8_turnTop_52.2.2.2.2.1
theorem dX8_turnTop_63 : decode cX8_turnTop 63 = .ok (.iinc 4 1, 3) := da9_dX8_turnTop_52.2.2.2.2.2.1
theorem dX8_turnTop_66 : decode cX8_turnTop 66 = .ok (.iinc 5 (-1), 3) := da9_dX8_turnTop_52.2.2.2.2.2.2.1
theorem dX8_turnTop_69 : decode cX8_turnTop 69 = .ok (.goto (-21), 3) := da9_dX8_turnTop_52.2.2.2.2.2.2.2.1
theorem dX8_turnTop_72 : decode cX8_turnTop 72 = .ok (.iconst 0, 1) := da9_dX8_turnTop_52.2.2.2.2.2.2.2.2.1
theorem dX8_turnTop_73 : decode cX8_turnTop 73 = .ok (.istore 4, 2) := da9_dX8_turnTop_52.2.2.2.2.2.2.2.2.2.1
theorem dX8_turnTop_75 : decode cX8_turnTop 75 = .ok (.iload 4, 2) := da9_dX8_turnTop_52.2.2.2.2.2.2.2.2.2.2.1
theorem dX8_turnTop_77 : decode cX8_turnTop 77 = .ok (.iload_n 1, 1) := da9_dX8_turnTop_52.2.2.2.2.2.2.2.2.2.2.2.1
theorem dX8_turnTop_78 : decode cX8_turnTop 78 = .ok (.if_icmp .ge 25, 3) := da9_dX8_turnTop_52.2.2.2.2.2.2.2.2.2.2.2.2.1
theorem dX8_turnTop_81 : decode cX8_turnTop 81 = .ok (.aload_n 0, 1) := da9_dX8_turnTop_52.2.2.2.2.2.2.2.2.2.2.2.2.2.1
theorem dX8_turnTop_82 : decode cX8_turnTop 82 = .ok (.getfield 15, 3) := da9_dX8_turnTop_52.2.2.2.2.2.2.2.2.2.2.2.2.2.2.1
theorem dX8_turnTop_85 : decode cX8_turnTop 85 = .ok (.iload 4, 2) := da9_dX8_turnTop_52.2.2.2.2.2.2.2.2.2.2.2.2.2.2.2
theorem da9_dX8_turnTop_87 : (decode cX8_turnTop 87 = .ok (.iconst 1, 1)) ∧ (decode cX8_turnTop 88 = .ok (.aload_n 0, 1)) ∧ (decode cX8_turnTop 89 = .ok (.getfield 15, 3)) ∧ (decode cX8_turnTop 92 = .ok (.iload 4, 2)) ∧ (decode cX8_turnTop 94 = .ok (.iaload, 1)) ∧ (decode cX8_turnTop 95 = .ok (.isub, 1)) ∧ (decode cX8_turnTop 96 = .ok (.iastore, 1)) ∧ (decode cX8_turnTop 97 = .ok (.iinc 4 1, 3)) ∧ (decode cX8_turnTop 100 = .ok (.goto (-25), 3)) ∧ (decode cX8_turnTop 103 = .ok (.aload_n 0, 1)) ∧ (decode cX8_turnTop 104 = .ok (.sipush 9999, 3)) ∧ (decode cX8_turnTop 107 = .ok (.aload_n 0, 1)) ∧ (decode cX8_turnTop 108 = .ok (.getfield 22, 3)) ∧ (decode cX8_turnTop 111 = .ok (.iload_n 3, 1)) ∧ (decode cX8_turnTop 112 = .ok (.iadd, 1)) ∧ (decode cX8_turnTop 113 = .ok (.invokestatic 41, 3)) := by decide +kernel
theorem dX8_turnTop_87 : decode cX8_turnTop 87 = .ok (.iconst 1, 1) := da9_dX8_turnTop_87.1
theorem dX8_turnTop_88 : decode cX8_turnTop 88 = .ok (.aload_n 0, 1) := da9_dX8_turnTop_87.2.1
theorem dX8_turnTop_89 : decode cX8_turnTop 89 = .ok (.getfield 15, 3) := da9_dX8_turnTop_87.2.2.1
theorem dX8_turnTop_92 : decode cX8_turnTop 92 = .ok (.iload 4, 2) := da9_dX8_turnTop_87.2.2.2.1
theorem dX8_turnTop_94 : decode cX8_turnTop 94 = .ok (.iaload, 1) := da9_dX8_turnTop_87.2.2.2.2.1
theorem dX8_turnTop_95 : decode cX8_turnTop 95 = .ok (.isub, 1) := da9_dX8_turnTop_87.2.2.2.2.2.1
theorem dX8_turnTop_96 : decode cX8_turnTop 96 = .ok (.iastore, 1) := da9_dX8_turnTop_87.2.2.2.2.2.2.1
theorem dX8_turnTop_97 : decode cX8_turnTop 97 = .ok (.iinc 4 1, 3) := da9_dX8_turnTop_87.2.2.2.2.2.2.2.1
theorem dX8_turnTop_100 : decode cX8_turnTop 100 = .ok (.goto (-25), 3) := da9_dX8_turnTop_87.2.2.2.2.2.2.2.2.1
theorem dX8_turnTop_103 : decode cX8_turnTop 103 = .ok (.aload_n 0, 1) := da9_dX8_turnTop_87.2.2.2.2.2.2.2.2.2.1
theorem dX8_turnTop_104 : decode cX8_turnTop 104 = .ok (.sipush 9999, 3) := da9_dX8_turnTop_87.2.2.2.2.2.2.2.2.2.2.1
theorem dX8_turnTop_107 : decode cX8_turnTop 107 = .ok (.aload_n 0, 1) := da9_dX8_turnTop_87.2.2.2.2.2.2.2.2.2.2.2.1
theorem dX8_turnTop_108 : decode cX8_turnTop 108 = .ok (.getfield 22, 3) := da9_dX8_turnTop_87.2.2.2.2.2.2.2.2.2.2.2.2.1
theorem dX8_turnTop_111 : decode cX8_turnTop 111 = .ok (.iload_n 3, 1) := da9_dX8_turnTop_87.2.2.2.2.2.2.2.2.2.2.2.2.2.1
theorem dX8_turnTop_112 : decode cX8_turnTop 112 = .ok (.iadd, 1) := da9_dX8_turnTop_87.2.2.2.2.2.2.2.2.2.2.2.2.2.2.1
theorem dX8_turnTop_113 : decode cX8_turnTop 113 = .ok (.invokestatic 41, 3) := da9_dX8_turnTop_87.2.2.2.2.2.2.2.2.2.2.2.2.2.2.2
theorem da9_dX8_turnTop_116 : (decode cX8_turnTop 116 = .ok (.putfield 22, 3)) ∧ (decode cX8_turnTop 119 = .ok (.iload_n 3, 1)) ∧ (decode cX8_turnTop 120 = .ok (.ireturn, 1)) := by decide +kernel
theorem dX8_turnTop_116 : decode cX8_turnTop 116 = .ok (.putfield 22, 3) := da9_dX8_turnTop_116.1
theorem dX8_turnTop_119 : decode cX8_turnTop 119 = .ok (.iload_n 3, 1) := da9_dX8_turnTop_116.2.1
theorem dX8_turnTop_120 : decode cX8_turnTop 120 = .ok (.ireturn, 1) := da9_dX8_turnTop_116.2.2
set_option maxRecDepth 20000 in
theorem ggX8_rightAt_X8_isFloor : GoodIn wsX8_rightAt wsX8_isFloor := goodIn_r _ [6, 7, 8, 9, 10, 11, 12] rfl (by decide +kernel)
set_option maxRecDepth 20000 in
theorem gX8_rightAt_X8_isFloor : GoodIn wsX8_rightAt (wsV RX8 28 RX8 yX8_isFloor wsX8_isFloor) := goodIn_app (goodIn_of _ (by decide +kernel)) ggX8_rightAt_X8_isFloor
theorem da9_dX8_rightAt_0 : (decode cX8_rightAt 0 = .ok (.iload_n 1, 1)) ∧ (decode cX8_rightAt 1 = .ok (.ifCond .lt 9, 3)) ∧ (decode cX8_rightAt 4 = .ok (.iload_n 1, 1)) ∧ (decode cX8_rightAt 5 = .ok (.bipush 6, 2)) ∧ (decode cX8_rightAt 7 = .ok (.if_icmp .lt 5, 3)) ∧ (decode cX8_rightAt 10 = .ok (.iconst (-1), 1)) ∧ (decode cX8_rightAt 11 = .ok (.ireturn, 1)) ∧ (decode cX8_rightAt 12 = .ok (.aload_n 0, 1)) ∧ (decode cX8_rightAt 13 = .ok (.iload_n 1, 1)) ∧ (decode cX8_rightAt 14 = .ok (.invokevirtual 28, 3)) ∧ (decode cX8_rightAt 17 = .ok (.ifCond .ne 6, 3)) ∧ (decode cX8_rightAt 20 = .ok (.bipush (-3), 2)) ∧ (decode cX8_rightAt 22 = .ok (.ireturn, 1)) ∧ (decode cX8_rightAt 23 = .ok (.aload_n 0, 1)) ∧ (decode cX8_rightAt 24 = .ok (.getfield 15, 3)) ∧ (decode cX8_rightAt 27 = .ok (.iload_n 1, 1)) := by decide +kernel
theorem dX8_rightAt_0 : decode cX8_rightAt 0 = .ok (.iload_n 1, 1) := da9_dX8_rightAt_0.1
theorem dX8_rightAt_1 : decode cX8_rightAt 1 = .ok (.ifCond .lt 9, 3) := da9_dX8_rightAt_0.2.1
theorem dX8_rightAt_4 : decode cX8_rightAt 4 = .ok (.iload_n 1, 1) := da9_dX8_rightAt_0.2.2.1
theorem dX8_rightAt_5 : decode cX8_rightAt 5 = .ok (.bipush 6, 2) := da9_dX8_rightAt_0.2.2.2.1
theorem dX8_rightAt_7 : decode cX8_rightAt 7 = .ok (.if_icmp .lt 5, 3) := da9_dX8_rightAt_0.2.2.2.2.1
theorem dX8_rightAt_10 : decode cX8_rightAt 10 = .ok (.iconst (-1), 1) := da9_dX8_rightAt_0.2.2.2.2.2.1
theorem dX8_rightAt_11 : decode cX8_rightAt 11 = .ok (.ireturn, 1) := da9_dX8_rightAt_0.2.2.2.2.2.2.1
theorem dX8_rightAt_12 : decode cX8_rightAt 12 = .ok (.aload_n 0, 1) := da9_dX8_rightAt_0.2.2.2.2.2.2.2.1
theorem dX8_rightAt_13 : decode cX8_rightAt 13 = .ok (.iload_n 1, 1) := da9_dX8_rightAt_0.2.2.2.2.2.2.2.2.1
theorem dX8_rightAt_14 : decode cX8_rightAt 14 = .ok (.invokevirtual 28, 3) := da9_dX8_rightAt_0.2.2.2.2.2.2.2.2.2.1
theorem dX8_rightAt_17 : decode cX8_rightAt 17 = .ok (.ifCond .ne 6, 3) := da9_dX8_rightAt_0.2.2.2.2.2.2.2.2.2.2.1
theorem dX8_rightAt_20 : decode cX8_rightAt 20 = .ok (.bipush (-3), 2) := da9_dX8_rightAt_0.2.2.2.2.2.2.2.2.2.2.2.1
theorem dX8_rightAt_22 : decode cX8_rightAt 22 = .ok (.ireturn, 1) := da9_dX8_rightAt_0.2.2.2.2.2.2.2.2.2.2.2.2.1
theorem dX8_rightAt_23 : decode cX8_rightAt 23 = .ok (.aload_n 0, 1) := da9_dX8_rightAt_0.2.2.2.2.2.2.2.2.2.2.2.2.2.1
theorem dX8_rightAt_24 : decode cX8_rightAt 24 = .ok (.getfield 15, 3) := da9_dX8_rightAt_0.2.2.2.2.2.2.2.2.2.2.2.2.2.2.1
theorem dX8_rightAt_27 : decode cX8_rightAt 27 = .ok (.iload_n 1, 1) := da9_dX8_rightAt_0.2.2.2.2.2.2.2.2.2.2.2.2.2.2.2
theorem da9_dX8_rightAt_28 : (decode cX8_rightAt 28 = .ok (.iconst 1, 1)) ∧ (decode cX8_rightAt 29 = .ok (.aload_n 0, 1)) ∧ (decode cX8_rightAt 30 = .ok (.getfield 15, 3)) ∧ (decode cX8_rightAt 33 = .ok (.iload_n 1, 1)) ∧ (decode cX8_rightAt 34 = .ok (.iaload, 1)) ∧ (decode cX8_rightAt 35 = .ok (.isub, 1)) ∧ (decode cX8_rightAt 36 = .ok (.iastore, 1)) ∧ (decode cX8_rightAt 37 = .ok (.aload_n 0, 1)) ∧ (decode cX8_rightAt 38 = .ok (.getfield 15, 3)) ∧ (decode cX8_rightAt 41 = .ok (.iload_n 1, 1)) ∧ (decode cX8_rightAt 42 = .ok (.iaload, 1)) ∧ (decode cX8_rightAt 43 = .ok (.ireturn, 1)) := by decide +kernel
theorem dX8_rightAt_28 : decode cX8_rightAt 28 = .ok (.iconst 1, 1) := da9_dX8_rightAt_28.1
theorem dX8_rightAt_29 : decode cX8_rightAt 29 = .ok (.aload_n 0, 1) := da9_dX8_rightAt_28.2.1
theorem dX8_rightAt_30 : decode cX8_rightAt 30 = .ok (.getfield 15, 3) := da9_dX8_rightAt_28.2.2.1
theorem dX8_rightAt_33 : decode cX8_rightAt 33 = .ok (.iload_n 1, 1) := da9_dX8_rightAt_28.2.2.2.1
theorem dX8_rightAt_34 : decode cX8_rightAt 34 = .ok (.iaload, 1) := da9_dX8_rightAt_28.2.2.2.2.1
theorem dX8_rightAt_35 : decode cX8_rightAt 35 = .ok (.isub, 1) := da9_dX8_rightAt_28.2.2.2.2.2.1
theorem dX8_rightAt_36 : decode cX8_rightAt 36 = .ok (.iastore, 1) := da9_dX8_rightAt_28.2.2.2.2.2.2.1
theorem dX8_rightAt_37 : decode cX8_rightAt 37 = .ok (.aload_n 0, 1) := da9_dX8_rightAt_28.2.2.2.2.2.2.2.1
theorem dX8_rightAt_38 : decode cX8_rightAt 38 = .ok (.getfield 15, 3) := da9_dX8_rightAt_28.2.2.2.2.2.2.2.2.1
theorem dX8_rightAt_41 : decode cX8_rightAt 41 = .ok (.iload_n 1, 1) := da9_dX8_rightAt_28.2.2.2.2.2.2.2.2.2.1
theorem dX8_rightAt_42 : decode cX8_rightAt 42 = .ok (.iaload, 1) := da9_dX8_rightAt_28.2.2.2.2.2.2.2.2.2.2.1
theorem dX8_rightAt_43 : decode cX8_rightAt 43 = .ok (.ireturn, 1) := da9_dX8_rightAt_28.2.2.2.2.2.2.2.2.2.2.2
set_option maxRecDepth 20000 in
theorem ggX8_swapAt_X8_isFloor : GoodIn wsX8_swapAt wsX8_isFloor := goodIn_r _ [6, 7, 13, 14, 15, 16, 17] rfl (by decide +kernel)
set_option maxRecDepth 20000 in
theorem gX8_swapAt_X8_isFloor : GoodIn wsX8_swapAt (wsV RX8 28 RX8 yX8_isFloor wsX8_isFloor) := goodIn_app (goodIn_of _ (by decide +kernel)) ggX8_swapAt_X8_isFloor
set_option maxRecDepth 20000 in
theorem ggX8_swapAt_X8_exchange : GoodIn wsX8_swapAt wsX8_exchange := goodIn_r _ [11, 1, 12, 13, 14, 15, 16, 17] rfl (by decide +kernel)
set_option maxRecDepth 20000 in
theorem gX8_swapAt_X8_exchange : GoodIn wsX8_swapAt (wsV RX8 72 RX8 yX8_exchange wsX8_exchange) := goodIn_app (goodIn_of _ (by decide +kernel)) ggX8_swapAt_X8_exchange
theorem da9_dX8_swapAt_0 : (decode cX8_swapAt 0 = .ok (.iload_n 1, 1)) ∧ (decode cX8_swapAt 1 = .ok (.ifCond .lt 8, 3)) ∧ (decode cX8_swapAt 4 = .ok (.iload_n 1, 1)) ∧ (decode cX8_swapAt 5 = .ok (.iconst 5, 1)) ∧ (decode cX8_swapAt 6 = .ok (.if_icmp .lt 5, 3)) ∧ (decode cX8_swapAt 9 = .ok (.iconst (-1), 1)) ∧ (decode cX8_swapAt 10 = .ok (.ireturn, 1)) ∧ (decode cX8_swapAt 11 = .ok (.aload_n 0, 1)) ∧ (decode cX8_swapAt 12 = .ok (.iload_n 1, 1)) ∧ (decode cX8_swapAt 13 = .ok (.iconst 1, 1)) ∧ (decode cX8_swapAt 14 = .ok (.iadd, 1)) ∧ (decode cX8_swapAt 15 = .ok (.invokevirtual 28, 3)) ∧ (decode cX8_swapAt 18 = .ok (.ifCond .ne 6, 3)) ∧ (decode cX8_swapAt 21 = .ok (.bipush (-3), 2)) ∧ (decode cX8_swapAt 23 = .ok (.ireturn, 1)) ∧ (decode cX8_swapAt 24 = .ok (.aload_n 0, 1)) := by decide +kernel
theorem dX8_swapAt_0 : decode cX8_swapAt 0 = .ok (.iload_n 1, 1) := da9_dX8_swapAt_0.1
theorem dX8_swapAt_1 : decode cX8_swapAt 1 = .ok (.ifCond .lt 8, 3) := da9_dX8_swapAt_0.2.1
theorem dX8_swapAt_4 : decode cX8_swapAt 4 = .ok (.iload_n 1, 1) := da9_dX8_swapAt_0.2.2.1
theorem dX8_swapAt_5 : decode cX8_swapAt 5 = .ok (.iconst 5, 1) := da9_dX8_swapAt_0.2.2.2.1
theorem dX8_swapAt_6 : decode cX8_swapAt 6 = .ok (.if_icmp .lt 5, 3) := da9_dX8_swapAt_0.2.2.2.2.1
theorem dX8_swapAt_9 : decode cX8_swapAt 9 = .ok (.iconst (-1), 1) := da9_dX8_swapAt_0.2.2.2.2.2.1
theorem dX8_swapAt_10 : decode cX8_swapAt 10 = .ok (.ireturn, 1) := da9_dX8_swapAt_0.2.2.2.2.2.2.1
theorem dX8_swapAt_11 : decode cX8_swapAt 11 = .ok (.aload_n 0, 1) := da9_dX8_swapAt_0.2.2.2.2.2.2.2.1
theorem dX8_swapAt_12 : decode cX8_swapAt 12 = .ok (.iload_n 1, 1) := da9_dX8_swapAt_0.2.2.2.2.2.2.2.2.1
theorem dX8_swapAt_13 : decode cX8_swapAt 13 = .ok (.iconst 1, 1) := da9_dX8_swapAt_0.2.2.2.2.2.2.2.2.2.1
theorem dX8_swapAt_14 : decode cX8_swapAt 14 = .ok (.iadd, 1) := da9_dX8_swapAt_0.2.2.2.2.2.2.2.2.2.2.1
theorem dX8_swapAt_15 : decode cX8_swapAt 15 = .ok (.invokevirtual 28, 3) := da9_dX8_swapAt_0.2.2.2.2.2.2.2.2.2.2.2.1
theorem dX8_swapAt_18 : decode cX8_swapAt 18 = .ok (.ifCond .ne 6, 3) := da9_dX8_swapAt_0.2.2.2.2.2.2.2.2.2.2.2.2.1
theorem dX8_swapAt_21 : decode cX8_swapAt 21 = .ok (.bipush (-3), 2) := da9_dX8_swapAt_0.2.2.2.2.2.2.2.2.2.2.2.2.2.1
theorem dX8_swapAt_23 : decode cX8_swapAt 23 = .ok (.ireturn, 1) := da9_dX8_swapAt_0.2.2.2.2.2.2.2.2.2.2.2.2.2.2.1
theorem dX8_swapAt_24 : decode cX8_swapAt 24 = .ok (.aload_n 0, 1) := da9_dX8_swapAt_0.2.2.2.2.2.2.2.2.2.2.2.2.2.2.2
theorem da9_dX8_swapAt_25 : (decode cX8_swapAt 25 = .ok (.iload_n 1, 1)) ∧ (decode cX8_swapAt 26 = .ok (.iload_n 1, 1)) ∧ (decode cX8_swapAt 27 = .ok (.iconst 1, 1)) ∧ (decode cX8_swapAt 28 = .ok (.iadd, 1)) ∧ (decode cX8_swapAt 29 = .ok (.invokevirtual 72, 3)) ∧ (decode cX8_swapAt 32 = .ok (.aload_n 0, 1)) ∧ (decode cX8_swapAt 33 = .ok (.getfield 9, 3)) ∧ (decode cX8_swapAt 36 = .ok (.iload_n 1, 1)) ∧ (decode cX8_swapAt 37 = .ok (.iaload, 1)) ∧ (decode cX8_swapAt 38 = .ok (.ireturn, 1)) := by decide +kernel
theorem dX8_swapAt_25 : decode cX8_swapAt 25 = .ok (.iload_n 1, 1) := da9_dX8_swapAt_25.1
theorem dX8_swapAt_26 : decode cX8_swapAt 26 = .ok (.iload_n 1, 1) := da9_dX8_swapAt_25.2.1
theorem dX8_swapAt_27 : decode cX8_swapAt 27 = .ok (.iconst 1, 1) := da9_dX8_swapAt_25.2.2.1
theorem dX8_swapAt_28 : decode cX8_swapAt 28 = .ok (.iadd, 1) := da9_dX8_swapAt_25.2.2.2.1
theorem dX8_swapAt_29 : decode cX8_swapAt 29 = .ok (.invokevirtual 72, 3) := da9_dX8_swapAt_25.2.2.2.2.1
theorem dX8_swapAt_32 : decode cX8_swapAt 32 = .ok (.aload_n 0, 1) := da9_dX8_swapAt_25.2.2.2.2.2.1
theorem dX8_swapAt_33 : decode cX8_swapAt 33 = .ok (.getfield 9, 3) := da9_dX8_swapAt_25.2.2.2.2.2.2.1
theorem dX8_swapAt_36 : decode cX8_swapAt 36 = .ok (.iload_n 1, 1) := da9_dX8_swapAt_25.2.2.2.2.2.2.2.1
theorem dX8_swapAt_37 : decode cX8_swapAt 37 = .ok (.iaload, 1) := da9_dX8_swapAt_25.2.2.2.2.2.2.2.2.1
theorem dX8_swapAt_38 : decode cX8_swapAt 38 = .ok (.ireturn, 1) := da9_dX8_swapAt_25.2.2.2.2.2.2.2.2.2
set_option maxRecDepth 20000 in
theorem ggX8_passYear_X1_tips : GoodIn wsX8_passYear wsX1_tips := goodIn_r _ [8, 9, 10, 11, 12, 13, 14, 2, 15, 16, 17, 7, 18, 19, 20, 21, 22, 23, 24, 25, 26, 27, 28, 29, 30, 31, 32, 33, 34, 35, 36, 37, 38, 39, 40, 41, 52, 53, 54, 55, 56, 57, 58, 59, 60, 61, 62, 63, 64, 65, 66, 67, 68, 69] rfl (by decide +kernel)
set_option maxRecDepth 20000 in
theorem gX8_passYear_X1_tips : GoodIn wsX8_passYear (wsV RX8 76 RX1 yX1_tips wsX1_tips) := goodIn_app (goodIn_of _ (by decide +kernel)) ggX8_passYear_X1_tips
set_option maxRecDepth 20000 in
theorem ggX8_passYear_X9_bit : GoodIn wsX8_passYear wsX9_bit := goodIn_r _ [44] rfl (by decide +kernel)
set_option maxRecDepth 20000 in
theorem gX8_passYear_X9_bit_n79 : GoodIn wsX8_passYear (wsX9_bit) := ggX8_passYear_X9_bit
set_option maxRecDepth 20000 in
theorem ggX8_passYear_J6_bitCount_0f7a4 : GoodIn wsX8_passYear wsJ6_bitCount_0f7a4 := goodIn_r _ [48, 49, 50, 51] rfl (by decide +kernel)
set_option maxRecDepth 20000 in
theorem gX8_passYear_J6_bitCount_0f7a4 : GoodIn wsX8_passYear (va_wsS RX8 83 yJ6_bitCount_0f7a4 wsJ6_bitCount_0f7a4) := goodIn_app (goodIn_of _ (by decide +kernel)) ggX8_passYear_J6_bitCount_0f7a4
theorem da9_dX8_passYear_0 : (decode cX8_passYear 0 = .ok (.aload_n 0, 1)) ∧ (decode cX8_passYear 1 = .ok (.getfield 25, 3)) ∧ (decode cX8_passYear 4 = .ok (.sipush 999, 3)) ∧ (decode cX8_passYear 7 = .ok (.if_icmp .lt 6, 3)) ∧ (decode cX8_passYear 10 = .ok (.bipush (-3), 2)) ∧ (decode cX8_passYear 12 = .ok (.ireturn, 1)) ∧ (decode cX8_passYear 13 = .ok (.iconst 0, 1)) ∧ (decode cX8_passYear 14 = .ok (.istore_n 2, 1)) ∧ (decode cX8_passYear 15 = .ok (.iconst 0, 1)) ∧ (decode cX8_passYear 16 = .ok (.istore_n 3, 1)) ∧ (decode cX8_passYear 17 = .ok (.iload_n 3, 1)) ∧ (decode cX8_passYear 18 = .ok (.aload_n 0, 1)) ∧ (decode cX8_passYear 19 = .ok (.getfield 18, 3)) ∧ (decode cX8_passYear 22 = .ok (.if_icmp .ge 23, 3)) ∧ (decode cX8_passYear 25 = .ok (.iload_n 2, 1)) ∧ (decode cX8_passYear 26 = .ok (.aload_n 1, 1)) := by decide +kernel
theorem dX8_passYear_0 : decode cX8_passYear 0 = .ok (.aload_n 0, 1) := da9_dX8_passYear_0.1
theorem dX8_passYear_1 : decode cX8_passYear 1 = .ok (.getfield 25, 3) := da9_dX8_passYear_0.2.1
theorem dX8_passYear_4 : decode cX8_passYear 4 = .ok (.sipush 999, 3) := da9_dX8_passYear_0.2.2.1
theorem dX8_passYear_7 : decode cX8_passYear 7 = .ok (.if_icmp .lt 6, 3) := da9_dX8_passYear_0.2.2.2.1
theorem dX8_passYear_10 : decode cX8_passYear 10 = .ok (.bipush (-3), 2) := da9_dX8_passYear_0.2.2.2.2.1
theorem dX8_passYear_12 : decode cX8_passYear 12 = .ok (.ireturn, 1) := da9_dX8_passYear_0.2.2.2.2.2.1
theorem dX8_passYear_13 : decode cX8_passYear 13 = .ok (.iconst 0, 1) := da9_dX8_passYear_0.2.2.2.2.2.2.1
theorem dX8_passYear_14 : decode cX8_passYear 14 = .ok (.istore_n 2, 1) := da9_dX8_passYear_0.2.2.2.2.2.2.2.1
theorem dX8_passYear_15 : decode cX8_passYear 15 = .ok (.iconst 0, 1) := da9_dX8_passYear_0.2.2.2.2.2.2.2.2.1
theorem dX8_passYear_16 : decode cX8_passYear 16 = .ok (.istore_n 3, 1) := da9_dX8_passYear_0.2.2.2.2.2.2.2.2.2.1
theorem dX8_passYear_17 : decode cX8_passYear 17 = .ok (.iload_n 3, 1) := da9_dX8_passYear_0.2.2.2.2.2.2.2.2.2.2.1
theorem dX8_passYear_18 : decode cX8_passYear 18 = .ok (.aload_n 0, 1) := da9_dX8_passYear_0.2.2.2.2.2.2.2.2.2.2.2.1
theorem dX8_passYear_19 : decode cX8_passYear 19 = .ok (.getfield 18, 3) := da9_dX8_passYear_0.2.2.2.2.2.2.2.2.2.2.2.2.1
theorem dX8_passYear_22 : decode cX8_passYear 22 = .ok (.if_icmp .ge 23, 3) := da9_dX8_passYear_0.2.2.2.2.2.2.2.2.2.2.2.2.2.1
theorem dX8_passYear_25 : decode cX8_passYear 25 = .ok (.iload_n 2, 1) := da9_dX8_passYear_0.2.2.2.2.2.2.2.2.2.2.2.2.2.2.1
theorem dX8_passYear_26 : decode cX8_passYear 26 = .ok (.aload_n 1, 1) := da9_dX8_passYear_0.2.2.2.2.2.2.2.2.2.2.2.2.2.2.2
theorem da9_dX8_passYear_27 : (decode cX8_passYear 27 = .ok (.aload_n 0, 1)) ∧ (decode cX8_passYear 28 = .ok (.iload_n 3, 1)) ∧ (decode cX8_passYear 29 = .ok (.invokevirtual 76, 3)) ∧ (decode cX8_passYear 32 = .ok (.invokestatic 79, 3)) ∧ (decode cX8_passYear 35 = .ok (.iload_n 3, 1)) ∧ (decode cX8_passYear 36 = .ok (.ishl, 1)) ∧ (decode cX8_passYear 37 = .ok (.ior, 1)) ∧ (decode cX8_passYear 38 = .ok (.istore_n 2, 1)) ∧ (decode cX8_passYear 39 = .ok (.iinc 3 1, 3)) ∧ (decode cX8_passYear 42 = .ok (.goto (-25), 3)) ∧ (decode cX8_passYear 45 = .ok (.iconst 0, 1)) ∧ (decode cX8_passYear 46 = .ok (.istore_n 3, 1)) ∧ (decode cX8_passYear 47 = .ok (.iload_n 3, 1)) ∧ (decode cX8_passYear 48 = .ok (.aload_n 0, 1)) ∧ (decode cX8_passYear 49 = .ok (.getfield 18, 3)) ∧ (decode cX8_passYear 52 = .ok (.if_icmp .ge 23, 3)) := by decide +kernel
theorem dX8_passYear_27 : decode cX8_passYear 27 = .ok (.aload_n 0, 1) := da9_dX8_passYear_27.1
theorem dX8_passYear_28 : decode cX8_passYear 28 = .ok (.iload_n 3, 1) := da9_dX8_passYear_27.2.1
theorem dX8_passYear_29 : decode cX8_passYear 29 = .ok (.invokevirtual 76, 3) := da9_dX8_passYear_27.2.2.1
theorem dX8_passYear_32 : decode cX8_passYear 32 = .ok (.invokestatic 79, 3) := da9_dX8_passYear_27.2.2.2.1
theorem dX8_passYear_35 : decode cX8_passYear 35 = .ok (.iload_n 3, 1) := da9_dX8_passYear_27.2.2.2.2.1
theorem dX8_passYear_36 : decode cX8_passYear 36 = .ok (.ishl, 1) := da9_dX8_passYear_27.2.2.2.2.2.1
theorem dX8_passYear_37 : decode cX8_passYear 37 = .ok (.ior, 1) := da9_dX8_passYear_27.2.2.2.2.2.2.1
theorem dX8_passYear_38 : decode cX8_passYear 38 = .ok (.istore_n 2, 1) := da9_dX8_passYear_27.2.2.2.2.2.2.2.1
theorem dX8_passYear_39 : decode cX8_passYear 39 = .ok (.iinc 3 1, 3) := da9_dX8_passYear_27.2.2.2.2.2.2.2.2.1
theorem dX8_passYear_42 : decode cX8_passYear 42 = .ok (.goto (-25), 3) := da9_dX8_passYear_27.2.2.2.2.2.2.2.2.2.1
theorem dX8_passYear_45 : decode cX8_passYear 45 = .ok (.iconst 0, 1) := da9_dX8_passYear_27.2.2.2.2.2.2.2.2.2.2.1
theorem dX8_passYear_46 : decode cX8_passYear 46 = .ok (.istore_n 3, 1) := da9_dX8_passYear_27.2.2.2.2.2.2.2.2.2.2.2.1
theorem dX8_passYear_47 : decode cX8_passYear 47 = .ok (.iload_n 3, 1) := da9_dX8_passYear_27.2.2.2.2.2.2.2.2.2.2.2.2.1
theorem dX8_passYear_48 : decode cX8_passYear 48 = .ok (.aload_n 0, 1) := da9_dX8_passYear_27.2.2.2.2.2.2.2.2.2.2.2.2.2.1
theorem dX8_passYear_49 : decode cX8_passYear 49 = .ok (.getfield 18, 3) := da9_dX8_passYear_27.2.2.2.2.2.2.2.2.2.2.2.2.2.2.1
theorem dX8_passYear_52 : decode cX8_passYear 52 = .ok (.if_icmp .ge 23, 3) := da9_dX8_passYear_27.2.2.2.2.2.2.2.2.2.2.2.2.2.2.2
theorem da9_dX8_passYear_55 : (decode cX8_passYear 55 = .ok (.aload_n 0, 1)) ∧ (decode cX8_passYear 56 = .ok (.getfield 15, 3)) ∧ (decode cX8_passYear 59 = .ok (.iload_n 3, 1)) ∧ (decode cX8_passYear 60 = .ok (.dup2, 1)) ∧ (decode cX8_passYear 61 = .ok (.iaload, 1)) ∧ (decode cX8_passYear 62 = .ok (.iload_n 2, 1)) ∧ (decode cX8_passYear 63 = .ok (.iload_n 3, 1)) ∧ (decode cX8_passYear 64 = .ok (.ishr, 1)) ∧ (decode cX8_passYear 65 = .ok (.iconst 1, 1)) ∧ (decode cX8_passYear 66 = .ok (.iand, 1)) ∧ (decode cX8_passYear 67 = .ok (.ixor, 1)) ∧ (decode cX8_passYear 68 = .ok (.iastore, 1)) ∧ (decode cX8_passYear 69 = .ok (.iinc 3 1, 3)) ∧ (decode cX8_passYear 72 = .ok (.goto (-25), 3)) ∧ (decode cX8_passYear 75 = .ok (.aload_n 0, 1)) ∧ (decode cX8_passYear 76 = .ok (.dup, 1)) := by decide +kernel
theorem dX8_passYear_55 : decode cX8_passYear 55 = .ok (.aload_n 0, 1) := da9_dX8_passYear_55.1
theorem dX8_passYear_56 : decode cX8_passYear 56 = .ok (.getfield 15, 3) := da9_dX8_passYear_55.2.1
theorem dX8_passYear_59 : decode cX8_passYear 59 = .ok (.iload_n 3, 1) := da9_dX8_passYear_55.2.2.1
theorem dX8_passYear_60 : decode cX8_passYear 60 = .ok (.dup2, 1) := da9_dX8_passYear_55.2.2.2.1
theorem dX8_passYear_61 : decode cX8_passYear 61 = .ok (.iaload, 1) := da9_dX8_passYear_55.2.2.2.2.1
theorem dX8_passYear_62 : decode cX8_passYear 62 = .ok (.iload_n 2, 1) := da9_dX8_passYear_55.2.2.2.2.2.1
theorem dX8_passYear_63 : decode cX8_passYear 63 = .ok (.iload_n 3, 1) := da9_dX8_passYear_55.2.2.2.2.2.2.1
theorem dX8_passYear_64 : decode cX8_passYear 64 = .ok (.ishr, 1) := da9_dX8_passYear_55.2.2.2.2.2.2.2.1
theorem dX8_passYear_65 : decode cX8_passYear 65 = .ok (.iconst 1, 1) := da9_dX8_passYear_55.2.2.2.2.2.2.2.2.1
theorem dX8_passYear_66 : decode cX8_passYear 66 = .ok (.iand, 1) := da9_dX8_passYear_55.2.2.2.2.2.2.2.2.2.1
theorem dX8_passYear_67 : decode cX8_passYear 67 = .ok (.ixor, 1) := da9_dX8_passYear_55.2.2.2.2.2.2.2.2.2.2.1
theorem dX8_passYear_68 : decode cX8_passYear 68 = .ok (.iastore, 1) := da9_dX8_passYear_55.2.2.2.2.2.2.2.2.2.2.2.1
theorem dX8_passYear_69 : decode cX8_passYear 69 = .ok (.iinc 3 1, 3) := da9_dX8_passYear_55.2.2.2.2.2.2.2.2.2.2.2.2.1
theorem dX8_passYear_72 : decode cX8_passYear 72 = .ok (.goto (-25), 3) := da9_dX8_passYear_55.2.2.2.2.2.2.2.2.2.2.2.2.2.1
theorem dX8_passYear_75 : decode cX8_passYear 75 = .ok (.aload_n 0, 1) := da9_dX8_passYear_55.2.2.2.2.2.2.2.2.2.2.2.2.2.2.1
theorem dX8_passYear_76 : decode cX8_passYear 76 = .ok (.dup, 1) := da9_dX8_passYear_55.2.2.2.2.2.2.2.2.2.2.2.2.2.2.2
theorem da9_dX8_passYear_77 : (decode cX8_passYear 77 = .ok (.getfield 25, 3)) ∧ (decode cX8_passYear 80 = .ok (.iconst 1, 1)) ∧ (decode cX8_passYear 81 = .ok (.iadd, 1)) ∧ (decode cX8_passYear 82 = .ok (.putfield 25, 3)) ∧ (decode cX8_passYear 85 = .ok (.iload_n 2, 1)) ∧ (decode cX8_passYear 86 = .ok (.invokestatic 83, 3)) ∧ (decode cX8_passYear 89 = .ok (.ireturn, 1)) := by decide +kernel
theorem dX8_passYear_77 : decode cX8_passYear 77 = .ok (.getfield 25, 3) := da9_dX8_passYear_77.1
theorem dX8_passYear_80 : decode cX8_passYear 80 = .ok (.iconst 1, 1) := da9_dX8_passYear_77.2.1
theorem dX8_passYear_81 : decode cX8_passYear 81 = .ok (.iadd, 1) := da9_dX8_passYear_77.2.2.1
theorem dX8_passYear_82 : decode cX8_passYear 82 = .ok (.putfield 25, 3) := da9_dX8_passYear_77.2.2.2.1
theorem dX8_passYear_85 : decode cX8_passYear 85 = .ok (.iload_n 2, 1) := da9_dX8_passYear_77.2.2.2.2.1
theorem dX8_passYear_86 : decode cX8_passYear 86 = .ok (.invokestatic 83, 3) := da9_dX8_passYear_77.2.2.2.2.2.1
theorem dX8_passYear_89 : decode cX8_passYear 89 = .ok (.ireturn, 1) := da9_dX8_passYear_77.2.2.2.2.2.2
theorem da9_dJ6_bitCount_0f7a4_0 : (decode cJ6_bitCount_0f7a4 0 = .ok (.iload_n 0, 1)) ∧ (decode cJ6_bitCount_0f7a4 1 = .ok (.iload_n 0, 1)) ∧ (decode cJ6_bitCount_0f7a4 2 = .ok (.iconst 1, 1)) ∧ (decode cJ6_bitCount_0f7a4 3 = .ok (.iushr, 1)) ∧ (decode cJ6_bitCount_0f7a4 4 = .ok (.ldc_w 265, 3)) ∧ (decode cJ6_bitCount_0f7a4 7 = .ok (.iand, 1)) ∧ (decode cJ6_bitCount_0f7a4 8 = .ok (.isub, 1)) ∧ (decode cJ6_bitCount_0f7a4 9 = .ok (.istore_n 0, 1)) ∧ (decode cJ6_bitCount_0f7a4 10 = .ok (.iload_n 0, 1)) ∧ (decode cJ6_bitCount_0f7a4 11 = .ok (.ldc_w 266, 3)) ∧ (decode cJ6_bitCount_0f7a4 14 = .ok (.iand, 1)) ∧ (decode cJ6_bitCount_0f7a4 15 = .ok (.iload_n 0, 1)) ∧ (decode cJ6_bitCount_0f7a4 16 = .ok (.iconst 2, 1)) ∧ (decode cJ6_bitCount_0f7a4 17 = .ok (.iushr, 1)) ∧ (decode cJ6_bitCount_0f7a4 18 = .ok (.ldc_w 266, 3)) ∧ (decode cJ6_bitCount_0f7a4 21 = .ok (.iand, 1)) := by decide +kernel
theorem dJ6_bitCount_0f7a4_0 : decode cJ6_bitCount_0f7a4 0 = .ok (.iload_n 0, 1) := da9_dJ6_bitCount_0f7a4_0.1
theorem dJ6_bitCount_0f7a4_1 : decode cJ6_bitCount_0f7a4 1 = .ok (.iload_n 0, 1) := da9_dJ6_bitCount_0f7a4_0.2.1
theorem dJ6_bitCount_0f7a4_2 : decode cJ6_bitCount_0f7a4 2 = .ok (.iconst 1, 1) := da9_dJ6_bitCount_0f7a4_0.2.2.1
theorem dJ6_bitCount_0f7a4_3 : decode cJ6_bitCount_0f7a4 3 = .ok (.iushr, 1) := da9_dJ6_bitCount_0f7a4_0.2.2.2.1
theorem dJ6_bitCount_0f7a4_4 : decode cJ6_bitCount_0f7a4 4 = .ok (.ldc_w 265, 3) := da9_dJ6_bitCount_0f7a4_0.2.2.2.2.1
theorem dJ6_bitCount_0f7a4_7 : decode cJ6_bitCount_0f7a4 7 = .ok (.iand, 1) := da9_dJ6_bitCount_0f7a4_0.2.2.2.2.2.1
theorem dJ6_bitCount_0f7a4_8 : decode cJ6_bitCount_0f7a4 8 = .ok (.isub, 1) := da9_dJ6_bitCount_0f7a4_0.2.2.2.2.2.2.1
theorem dJ6_bitCount_0f7a4_9 : decode cJ6_bitCount_0f7a4 9 = .ok (.istore_n 0, 1) := da9_dJ6_bitCount_0f7a4_0.2.2.2.2.2.2.2.1
theorem dJ6_bitCount_0f7a4_10 : decode cJ6_bitCount_0f7a4 10 = .ok (.iload_n 0, 1) := da9_dJ6_bitCount_0f7a4_0.2.2.2.2.2.2.2.2.1
theorem dJ6_bitCount_0f7a4_11 : decode cJ6_bitCount_0f7a4 11 = .ok (.ldc_w 266, 3) := da9_dJ6_bitCount_0f7a4_0.2.2.2.2.2.2.2.2.2.1
theorem dJ6_bitCount_0f7a4_14 : decode cJ6_bitCount_0f7a4 14 = .ok (.iand, 1) := da9_dJ6_bitCount_0f7a4_0.2.2.2.2.2.2.2.2.2.2.1
theorem dJ6_bitCount_0f7a4_15 : decode cJ6_bitCount_0f7a4 15 = .ok (.iload_n 0, 1) := da9_dJ6_bitCount_0f7a4_0.2.2.2.2.2.2.2.2.2.2.2.1
theorem dJ6_bitCount_0f7a4_16 : decode cJ6_bitCount_0f7a4 16 = .ok (.iconst 2, 1) := da9_dJ6_bitCount_0f7a4_0.2.2.2.2.2.2.2.2.2.2.2.2.1
theorem dJ6_bitCount_0f7a4_17 : decode cJ6_bitCount_0f7a4 17 = .ok (.iushr, 1) := da9_dJ6_bitCount_0f7a4_0.2.2.2.2.2.2.2.2.2.2.2.2.2.1
theorem dJ6_bitCount_0f7a4_18 : decode cJ6_bitCount_0f7a4 18 = .ok (.ldc_w 266, 3) := da9_dJ6_bitCount_0f7a4_0.2.2.2.2.2.2.2.2.2.2.2.2.2.2.1
theorem dJ6_bitCount_0f7a4_21 : decode cJ6_bitCount_0f7a4 21 = .ok (.iand, 1) := da9_dJ6_bitCount_0f7a4_0.2.2.2.2.2.2.2.2.2.2.2.2.2.2.2
theorem da9_dJ6_bitCount_0f7a4_22 : (decode cJ6_bitCount_0f7a4 22 = .ok (.iadd, 1)) ∧ (decode cJ6_bitCount_0f7a4 23 = .ok (.istore_n 0, 1)) ∧ (decode cJ6_bitCount_0f7a4 24 = .ok (.iload_n 0, 1)) ∧ (decode cJ6_bitCount_0f7a4 25 = .ok (.iload_n 0, 1)) ∧ (decode cJ6_bitCount_0f7a4 26 = .ok (.iconst 4, 1)) ∧ (decode cJ6_bitCount_0f7a4 27 = .ok (.iushr, 1)) ∧ (decode cJ6_bitCount_0f7a4 28 = .ok (.iadd, 1)) ∧ (decode cJ6_bitCount_0f7a4 29 = .ok (.ldc_w 267, 3)) ∧ (decode cJ6_bitCount_0f7a4 32 = .ok (.iand, 1)) ∧ (decode cJ6_bitCount_0f7a4 33 = .ok (.istore_n 0, 1)) ∧ (decode cJ6_bitCount_0f7a4 34 = .ok (.iload_n 0, 1)) ∧ (decode cJ6_bitCount_0f7a4 35 = .ok (.iload_n 0, 1)) ∧ (decode cJ6_bitCount_0f7a4 36 = .ok (.bipush 8, 2)) ∧ (decode cJ6_bitCount_0f7a4 38 = .ok (.iushr, 1)) ∧ (decode cJ6_bitCount_0f7a4 39 = .ok (.iadd, 1)) ∧ (decode cJ6_bitCount_0f7a4 40 = .ok (.istore_n 0, 1)) := by decide +kernel
theorem dJ6_bitCount_0f7a4_22 : decode cJ6_bitCount_0f7a4 22 = .ok (.iadd, 1) := da9_dJ6_bitCount_0f7a4_22.1
theorem dJ6_bitCount_0f7a4_23 : decode cJ6_bitCount_0f7a4 23 = .ok (.istore_n 0, 1) := da9_dJ6_bitCount_0f7a4_22.2.1
theorem dJ6_bitCount_0f7a4_24 : decode cJ6_bitCount_0f7a4 24 = .ok (.iload_n 0, 1) := da9_dJ6_bitCount_0f7a4_22.2.2.1
theorem dJ6_bitCount_0f7a4_25 : decode cJ6_bitCount_0f7a4 25 = .ok (.iload_n 0, 1) := da9_dJ6_bitCount_0f7a4_22.2.2.2.1
theorem dJ6_bitCount_0f7a4_26 : decode cJ6_bitCount_0f7a4 26 = .ok (.iconst 4, 1) := da9_dJ6_bitCount_0f7a4_22.2.2.2.2.1
theorem dJ6_bitCount_0f7a4_27 : decode cJ6_bitCount_0f7a4 27 = .ok (.iushr, 1) := da9_dJ6_bitCount_0f7a4_22.2.2.2.2.2.1
theorem dJ6_bitCount_0f7a4_28 : decode cJ6_bitCount_0f7a4 28 = .ok (.iadd, 1) := da9_dJ6_bitCount_0f7a4_22.2.2.2.2.2.2.1
theorem dJ6_bitCount_0f7a4_29 : decode cJ6_bitCount_0f7a4 29 = .ok (.ldc_w 267, 3) := da9_dJ6_bitCount_0f7a4_22.2.2.2.2.2.2.2.1
theorem dJ6_bitCount_0f7a4_32 : decode cJ6_bitCount_0f7a4 32 = .ok (.iand, 1) := da9_dJ6_bitCount_0f7a4_22.2.2.2.2.2.2.2.2.1
theorem dJ6_bitCount_0f7a4_33 : decode cJ6_bitCount_0f7a4 33 = .ok (.istore_n 0, 1) := da9_dJ6_bitCount_0f7a4_22.2.2.2.2.2.2.2.2.2.1
theorem dJ6_bitCount_0f7a4_34 : decode cJ6_bitCount_0f7a4 34 = .ok (.iload_n 0, 1) := da9_dJ6_bitCount_0f7a4_22.2.2.2.2.2.2.2.2.2.2.1
theorem dJ6_bitCount_0f7a4_35 : decode cJ6_bitCount_0f7a4 35 = .ok (.iload_n 0, 1) := da9_dJ6_bitCount_0f7a4_22.2.2.2.2.2.2.2.2.2.2.2.1
theorem dJ6_bitCount_0f7a4_36 : decode cJ6_bitCount_0f7a4 36 = .ok (.bipush 8, 2) := da9_dJ6_bitCount_0f7a4_22.2.2.2.2.2.2.2.2.2.2.2.2.1
theorem dJ6_bitCount_0f7a4_38 : decode cJ6_bitCount_0f7a4 38 = .ok (.iushr, 1) := da9_dJ6_bitCount_0f7a4_22.2.2.2.2.2.2.2.2.2.2.2.2.2.1
theorem dJ6_bitCount_0f7a4_39 : decode cJ6_bitCount_0f7a4 39 = .ok (.iadd, 1) := da9_dJ6_bitCount_0f7a4_22.2.2.2.2.2.2.2.2.2.2.2.2.2.2.1
theorem dJ6_bitCount_0f7a4_40 : decode cJ6_bitCount_0f7a4 40 = .ok (.istore_n 0, 1) := da9_dJ6_bitCount_0f7a4_22.2.2.2.2.2.2.2.2.2.2.2.2.2.2.2
theorem da9_dJ6_bitCount_0f7a4_41 : (decode cJ6_bitCount_0f7a4 41 = .ok (.iload_n 0, 1)) ∧ (decode cJ6_bitCount_0f7a4 42 = .ok (.iload_n 0, 1)) ∧ (decode cJ6_bitCount_0f7a4 43 = .ok (.bipush 16, 2)) ∧ (decode cJ6_bitCount_0f7a4 45 = .ok (.iushr, 1)) ∧ (decode cJ6_bitCount_0f7a4 46 = .ok (.iadd, 1)) ∧ (decode cJ6_bitCount_0f7a4 47 = .ok (.istore_n 0, 1)) ∧ (decode cJ6_bitCount_0f7a4 48 = .ok (.iload_n 0, 1)) ∧ (decode cJ6_bitCount_0f7a4 49 = .ok (.bipush 63, 2)) ∧ (decode cJ6_bitCount_0f7a4 51 = .ok (.iand, 1)) ∧ (decode cJ6_bitCount_0f7a4 52 = .ok (.ireturn, 1)) := by decide +kernel
theorem dJ6_bitCount_0f7a4_41 : decode cJ6_bitCount_0f7a4 41 = .ok (.iload_n 0, 1) := da9_dJ6_bitCount_0f7a4_41.1
theorem dJ6_bitCount_0f7a4_42 : decode cJ6_bitCount_0f7a4 42 = .ok (.iload_n 0, 1) := da9_dJ6_bitCount_0f7a4_41.2.1
theorem dJ6_bitCount_0f7a4_43 : decode cJ6_bitCount_0f7a4 43 = .ok (.bipush 16, 2) := da9_dJ6_bitCount_0f7a4_41.2.2.1
theorem dJ6_bitCount_0f7a4_45 : decode cJ6_bitCount_0f7a4 45 = .ok (.iushr, 1) := da9_dJ6_bitCount_0f7a4_41.2.2.2.1
theorem dJ6_bitCount_0f7a4_46 : decode cJ6_bitCount_0f7a4 46 = .ok (.iadd, 1) := da9_dJ6_bitCount_0f7a4_41.2.2.2.2.1
theorem dJ6_bitCount_0f7a4_47 : decode cJ6_bitCount_0f7a4 47 = .ok (.istore_n 0, 1) := da9_dJ6_bitCount_0f7a4_41.2.2.2.2.2.1
theorem dJ6_bitCount_0f7a4_48 : decode cJ6_bitCount_0f7a4 48 = .ok (.iload_n 0, 1) := da9_dJ6_bitCount_0f7a4_41.2.2.2.2.2.2.1
theorem dJ6_bitCount_0f7a4_49 : decode cJ6_bitCount_0f7a4 49 = .ok (.bipush 63, 2) := da9_dJ6_bitCount_0f7a4_41.2.2.2.2.2.2.2.1
theorem dJ6_bitCount_0f7a4_51 : decode cJ6_bitCount_0f7a4 51 = .ok (.iand, 1) := da9_dJ6_bitCount_0f7a4_41.2.2.2.2.2.2.2.2.1
theorem dJ6_bitCount_0f7a4_52 : decode cJ6_bitCount_0f7a4 52 = .ok (.ireturn, 1) := da9_dJ6_bitCount_0f7a4_41.2.2.2.2.2.2.2.2.2
