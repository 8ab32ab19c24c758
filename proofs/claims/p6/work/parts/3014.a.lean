set_option maxRecDepth 20000 in
theorem ggX10_look_X10_lies : GoodIn wsX10_look wsX10_lies := goodIn_r _ [5] rfl (by decide +kernel)
set_option maxRecDepth 20000 in
theorem gX10_look_X10_lies : GoodIn wsX10_look (va_wsS RX10 18 yX10_lies wsX10_lies) := goodIn_app (goodIn_of _ (by decide +kernel)) ggX10_look_X10_lies
set_option maxRecDepth 20000 in
theorem ggX10_look_X10_was : GoodIn wsX10_look wsX10_was := goodIn_r _ [9, 10, 11, 12, 4, 13, 14, 15, 16, 17, 18, 19, 20, 21, 22, 23, 24, 25, 26, 27, 28, 29, 30, 31, 32, 33, 34, 35, 36, 37, 38, 39, 40, 41, 42, 43, 44, 45, 46, 47, 48, 49, 50, 51, 52, 53, 54, 55, 56, 57, 58, 59, 60, 61, 62, 63, 64, 65, 66, 67, 68, 69, 70, 71, 72, 73, 74, 75, 76, 77, 78, 79, 80, 81, 82, 83, 2, 3, 5, 84, 85, 86, 87, 88, 89, 90, 91, 92, 93, 94, 95, 96, 97, 98, 99, 100, 101, 102, 103, 104, 105, 106, 107, 108, 109, 110, 111, 112, 113, 114, 115, 127, 128, 129, 130, 131, 132, 133, 134, 135, 136, 137, 138, 139, 140, 141, 142, 143, 144, 145, 146, 147, 148, 149, 150, 151, 152, 153, 154, 155, 156, 157, 158, 159, 160, 161, 162, 163, 164, 165, 166, 167, 168, 169, 170, 171, 172, 173, 174, 175, 176, 177, 178, 179, 180, 181, 182] rfl (by decide +kernel)
set_option maxRecDepth 20000 in
theorem gX10_look_X10_was : GoodIn wsX10_look (wsV RX10 460 RX10 yX10_was wsX10_was) := goodIn_app (goodIn_of _ (by decide +kernel)) ggX10_look_X10_was
set_option maxRecDepth 20000 in
theorem ggX10_look_X10_size : GoodIn wsX10_look wsX10_size := goodIn_r _ [13, 14, 127, 128, 129, 130, 131, 132, 133, 134, 135, 136, 137, 138, 139, 140, 141, 142, 143, 144, 145, 146, 147, 148, 149, 150, 151, 152, 153, 154, 155, 156, 157, 158, 159, 160, 161, 162, 163, 164, 165, 166, 167, 168, 169, 170, 171, 172, 173, 174, 175, 176, 177, 178, 179, 180, 181, 182] rfl (by decide +kernel)
set_option maxRecDepth 20000 in
theorem gX10_look_X10_size : GoodIn wsX10_look (wsV RX10 125 RX10 yX10_size wsX10_size) := goodIn_app (goodIn_of _ (by decide +kernel)) ggX10_look_X10_size
set_option maxRecDepth 20000 in
theorem ggX10_look_X10_mostAlike : GoodIn wsX10_look wsX10_mostAlike := goodIn_r _ [119, 120, 10, 11, 12, 4, 13, 14, 121, 122, 123, 112, 113, 114, 115, 80, 81, 82, 83, 2, 3, 5, 124, 125, 126, 127, 128, 129, 130, 131, 132, 133, 134, 135, 136, 137, 138, 139, 140, 141, 142, 143, 144, 145, 146, 147, 148, 149, 150, 151, 152, 153, 154, 155, 156, 157, 158, 159, 160, 161, 162, 163, 164, 165, 166, 167, 168, 169, 170, 171, 172, 173, 174, 175, 176, 177, 178, 179, 180, 181, 182] rfl (by decide +kernel)
set_option maxRecDepth 20000 in
theorem gX10_look_X10_mostAlike : GoodIn wsX10_look (wsV RX10 463 RX10 yX10_mostAlike wsX10_mostAlike) := goodIn_app (goodIn_of _ (by decide +kernel)) ggX10_look_X10_mostAlike
theorem da9_dX10_look_0 : (decode cX10_look 0 = .ok (.iload_n 1, 1)) ∧ (decode cX10_look 1 = .ok (.iconst 0, 1)) ∧ (decode cX10_look 2 = .ok (.iconst 1, 1)) ∧ (decode cX10_look 3 = .ok (.invokestatic 18, 3)) ∧ (decode cX10_look 6 = .ok (.ifCond .ne 5, 3)) ∧ (decode cX10_look 9 = .ok (.iconst (-1), 1)) ∧ (decode cX10_look 10 = .ok (.ireturn, 1)) ∧ (decode cX10_look 11 = .ok (.aload_n 0, 1)) ∧ (decode cX10_look 12 = .ok (.invokevirtual 460, 3)) ∧ (decode cX10_look 15 = .ok (.istore_n 2, 1)) ∧ (decode cX10_look 16 = .ok (.iconst (-1), 1)) ∧ (decode cX10_look 17 = .ok (.istore_n 3, 1)) ∧ (decode cX10_look 18 = .ok (.ldc 188, 2)) ∧ (decode cX10_look 20 = .ok (.istore 4, 2)) ∧ (decode cX10_look 22 = .ok (.iconst 0, 1)) ∧ (decode cX10_look 23 = .ok (.istore 5, 2)) := by decide +kernel
theorem dX10_look_0 : decode cX10_look 0 = .ok (.iload_n 1, 1) := da9_dX10_look_0.1
theorem dX10_look_1 : decode cX10_look 1 = .ok (.iconst 0, 1) := da9_dX10_look_0.2.1
theorem dX10_look_2 : decode cX10_look 2 = .ok (.iconst 1, 1) := da9_dX10_look_0.2.2.1
theorem dX10_look_3 : decode cX10_look 3 = .ok (.invokestatic 18, 3) := da9_dX10_look_0.2.2.2.1
theorem dX10_look_6 : decode cX10_look 6 = .ok (.ifCond .ne 5, 3) := da9_dX10_look_0.2.2.2.2.1
theorem dX10_look_9 : decode cX10_look 9 = .ok (.iconst (-1), 1) := da9_dX10_look_0.2.2.2.2.2.1
theorem dX10_look_10 : decode cX10_look 10 = .ok (.ireturn, 1) := da9_dX10_look_0.2.2.2.2.2.2.1
theorem dX10_look_11 : decode cX10_look 11 = .ok (.aload_n 0, 1) := da9_dX10_look_0.2.2.2.2.2.2.2.1
theorem dX10_look_12 : decode cX10_look 12 = .ok (.invokevirtual 460, 3) := da9_dX10_look_0.2.2.2.2.2.2.2.2.1
theorem dX10_look_15 : decode cX10_look 15 = .ok (.istore_n 2, 1) := da9_dX10_look_0.2.2.2.2.2.2.2.2.2.1
theorem dX10_look_16 : decode cX10_look 16 = .ok (.iconst (-1), 1) := da9_dX10_look_0.2.2.2.2.2.2.2.2.2.2.1
theorem dX10_look_17 : decode cX10_look 17 = .ok (.istore_n 3, 1) := da9_dX10_look_0.2.2.2.2.2.2.2.2.2.2.2.1
theorem dX10_look_18 : decode cX10_look 18 = .ok (.ldc 188, 2) := da9_dX10_look_0.2.2.2.2.2.2.2.2.2.2.2.2.1
theorem dX10_look_20 : decode cX10_look 20 = .ok (.istore 4, 2) := da9_dX10_look_0.2.2.2.2.2.2.2.2.2.2.2.2.2.1
theorem dX10_look_22 : decode cX10_look 22 = .ok (.iconst 0, 1) := da9_dX10_look_0.2.2.2.2.2.2.2.2.2.2.2.2.2.2.1
theorem dX10_look_23 : decode cX10_look 23 = .ok (.istore 5, 2) := da9_dX10_look_0.2.2.2.2.2.2.2.2.2.2.2.2.2.2.2
theorem da9_dX10_look_25 : (decode cX10_look 25 = .ok (.iload 5, 2)) ∧ (decode cX10_look 27 = .ok (.aload_n 0, 1)) ∧ (decode cX10_look 28 = .ok (.invokevirtual 125, 3)) ∧ (decode cX10_look 31 = .ok (.if_icmp .ge 39, 3)) ∧ (decode cX10_look 34 = .ok (.iload_n 2, 1)) ∧ (decode cX10_look 35 = .ok (.ifCond .eq 35, 3)) ∧ (decode cX10_look 38 = .ok (.aload_n 0, 1)) ∧ (decode cX10_look 39 = .ok (.iload_n 2, 1)) ∧ (decode cX10_look 40 = .ok (.iload 5, 2)) ∧ (decode cX10_look 42 = .ok (.invokevirtual 463, 3)) ∧ (decode cX10_look 45 = .ok (.istore 6, 2)) ∧ (decode cX10_look 47 = .ok (.iload 6, 2)) ∧ (decode cX10_look 49 = .ok (.iload 4, 2)) ∧ (decode cX10_look 51 = .ok (.if_icmp .lt 6, 3)) ∧ (decode cX10_look 54 = .ok (.goto 10, 3)) ∧ (decode cX10_look 57 = .ok (.iload 6, 2)) := by decide +kernel
theorem dX10_look_25 : decode cX10_look 25 = .ok (.iload 5, 2) := da9_dX10_look_25.1
theorem dX10_look_27 : decode cX10_look 27 = .ok (.aload_n 0, 1) := da9_dX10_look_25.2.1
theorem dX10_look_28 : decode cX10_look 28 = .ok (.invokevirtual 125, 3) := da9_dX10_look_25.2.2.1
theorem dX10_look_31 : decode cX10_look 31 = .ok (.if_icmp .ge 39, 3) := da9_dX10_look_25.2.2.2.1
theorem dX10_look_34 : decode cX10_look 34 = .ok (.iload_n 2, 1) := da9_dX10_look_25.2.2.2.2.1
theorem dX10_look_35 : decode cX10_look 35 = .ok (.ifCond .eq 35, 3) := da9_dX10_look_25.2.2.2.2.2.1
theorem dX10_look_38 : decode cX10_look 38 = .ok (.aload_n 0, 1) := da9_dX10_look_25.2.2.2.2.2.2.1
theorem dX10_look_39 : decode cX10_look 39 = .ok (.iload_n 2, 1) := da9_dX10_look_25.2.2.2.2.2.2.2.1
theorem dX10_look_40 : decode cX10_look 40 = .ok (.iload 5, 2) := da9_dX10_look_25.2.2.2.2.2.2.2.2.1
theorem dX10_look_42 : decode cX10_look 42 = .ok (.invokevirtual 463, 3) := da9_dX10_look_25.2.2.2.2.2.2.2.2.2.1
theorem dX10_look_45 : decode cX10_look 45 = .ok (.istore 6, 2) := da9_dX10_look_25.2.2.2.2.2.2.2.2.2.2.1
theorem dX10_look_47 : decode cX10_look 47 = .ok (.iload 6, 2) := da9_dX10_look_25.2.2.2.2.2.2.2.2.2.2.2.1
theorem dX10_look_49 : decode cX10_look 49 = .ok (.iload 4, 2) := da9_dX10_look_25.2.2.2.2.2.2.2.2.2.2.2.2.1
theorem dX10_look_51 : decode cX10_look 51 = .ok (.if_icmp .lt 6, 3) := da9_dX10_look_25.2.2.2.2.2.2.2.2.2.2.2.2.2.1
theorem dX10_look_54 : decode cX10_look 54 = .ok (.goto 10, 3) := da9_dX10_look_25.2.2.2.2.2.2.2.2.2.2.2.2.2.2.1
theorem dX10_look_57 : decode cX10_look 57 = .ok (.iload 6, 2) := da9_dX10_look_25.2.2.2.2.2.2.2.2.2.2.2.2.2.2.2
theorem da9_dX10_look_59 : (decode cX10_look 59 = .ok (.istore 4, 2)) ∧ (decode cX10_look 61 = .ok (.iload 5, 2)) ∧ (decode cX10_look 63 = .ok (.istore_n 3, 1)) ∧ (decode cX10_look 64 = .ok (.iinc 5 1, 3)) ∧ (decode cX10_look 67 = .ok (.goto (-42), 3)) ∧ (decode cX10_look 70 = .ok (.iload_n 3, 1)) ∧ (decode cX10_look 71 = .ok (.iconst (-1), 1)) ∧ (decode cX10_look 72 = .ok (.if_icmp .eq 7, 3)) ∧ (decode cX10_look 75 = .ok (.iload_n 1, 1)) ∧ (decode cX10_look 76 = .ok (.ifCond .ne 7, 3)) ∧ (decode cX10_look 79 = .ok (.iload_n 3, 1)) ∧ (decode cX10_look 80 = .ok (.goto 5, 3)) ∧ (decode cX10_look 83 = .ok (.iload 4, 2)) ∧ (decode cX10_look 85 = .ok (.ireturn, 1)) := by decide +kernel
theorem dX10_look_59 : decode cX10_look 59 = .ok (.istore 4, 2) := da9_dX10_look_59.1
theorem dX10_look_61 : decode cX10_look 61 = .ok (.iload 5, 2) := da9_dX10_look_59.2.1
theorem dX10_look_63 : decode cX10_look 63 = .ok (.istore_n 3, 1) := da9_dX10_look_59.2.2.1
theorem dX10_look_64 : decode cX10_look 64 = .ok (.iinc 5 1, 3) := da9_dX10_look_59.2.2.2.1
theorem dX10_look_67 : decode cX10_look 67 = .ok (.goto (-42), 3) := da9_dX10_look_59.2.2.2.2.1
theorem dX10_look_70 : decode cX10_look 70 = .ok (.iload_n 3, 1) := da9_dX10_look_59.2.2.2.2.2.1
theorem dX10_look_71 : decode cX10_look 71 = .ok (.iconst (-1), 1) := da9_dX10_look_59.2.2.2.2.2.2.1
theorem dX10_look_72 : decode cX10_look 72 = .ok (.if_icmp .eq 7, 3) := da9_dX10_look_59.2.2.2.2.2.2.2.1
theorem dX10_look_75 : decode cX10_look 75 = .ok (.iload_n 1, 1) := da9_dX10_look_59.2.2.2.2.2.2.2.2.1
theorem dX10_look_76 : decode cX10_look 76 = .ok (.ifCond .ne 7, 3) := da9_dX10_look_59.2.2.2.2.2.2.2.2.2.1
theorem dX10_look_79 : decode cX10_look 79 = .ok (.iload_n 3, 1) := da9_dX10_look_59.2.2.2.2.2.2.2.2.2.2.1
theorem dX10_look_80 : decode cX10_look 80 = .ok (.goto 5, 3) := da9_dX10_look_59.2.2.2.2.2.2.2.2.2.2.2.1
theorem dX10_look_83 : decode cX10_look 83 = .ok (.iload 4, 2) := da9_dX10_look_59.2.2.2.2.2.2.2.2.2.2.2.2.1
theorem dX10_look_85 : decode cX10_look 85 = .ok (.ireturn, 1) := da9_dX10_look_59.2.2.2.2.2.2.2.2.2.2.2.2.2
set_option maxRecDepth 20000 in
theorem ggX10_few_X10_lies : GoodIn wsX10_few wsX10_lies := goodIn_r _ [9] rfl (by decide +kernel)
set_option maxRecDepth 20000 in
theorem gX10_few_X10_lies : GoodIn wsX10_few (va_wsS RX10 18 yX10_lies wsX10_lies) := goodIn_app (goodIn_of _ (by decide +kernel)) ggX10_few_X10_lies
theorem da9_dX10_few_0 : (decode cX10_few 0 = .ok (.iload_n 1, 1)) ∧ (decode cX10_few 1 = .ok (.iconst 1, 1)) ∧ (decode cX10_few 2 = .ok (.bipush 20, 2)) ∧ (decode cX10_few 4 = .ok (.invokestatic 18, 3)) ∧ (decode cX10_few 7 = .ok (.ifCond .eq 13, 3)) ∧ (decode cX10_few 10 = .ok (.iload_n 2, 1)) ∧ (decode cX10_few 11 = .ok (.iconst 0, 1)) ∧ (decode cX10_few 12 = .ok (.bipush 99, 2)) ∧ (decode cX10_few 14 = .ok (.invokestatic 18, 3)) ∧ (decode cX10_few 17 = .ok (.ifCond .ne 7, 3)) ∧ (decode cX10_few 20 = .ok (.ldc2_w 466, 3)) ∧ (decode cX10_few 23 = .ok (.lreturn, 1)) ∧ (decode cX10_few 24 = .ok (.iconst 0, 1)) ∧ (decode cX10_few 25 = .ok (.istore_n 3, 1)) ∧ (decode cX10_few 26 = .ok (.iload_n 3, 1)) ∧ (decode cX10_few 27 = .ok (.bipush 20, 2)) := by decide +kernel
theorem dX10_few_0 : decode cX10_few 0 = .ok (.iload_n 1, 1) := da9_dX10_few_0.1
theorem dX10_few_1 : decode cX10_few 1 = .ok (.iconst 1, 1) := da9_dX10_few_0.2.1
theorem dX10_few_2 : decode cX10_few 2 = .ok (.bipush 20, 2) := da9_dX10_few_0.2.2.1
theorem dX10_few_4 : decode cX10_few 4 = .ok (.invokestatic 18, 3) := da9_dX10_few_0.2.2.2.1
theorem dX10_few_7 : decode cX10_few 7 = .ok (.ifCond .eq 13, 3) := da9_dX10_few_0.2.2.2.2.1
theorem dX10_few_10 : decode cX10_few 10 = .ok (.iload_n 2, 1) := da9_dX10_few_0.2.2.2.2.2.1
theorem dX10_few_11 : decode cX10_few 11 = .ok (.iconst 0, 1) := da9_dX10_few_0.2.2.2.2.2.2.1
theorem dX10_few_12 : decode cX10_few 12 = .ok (.bipush 99, 2) := da9_dX10_few_0.2.2.2.2.2.2.2.1
theorem dX10_few_14 : decode cX10_few 14 = .ok (.invokestatic 18, 3) := da9_dX10_few_0.2.2.2.2.2.2.2.2.1
theorem dX10_few_17 : decode cX10_few 17 = .ok (.ifCond .ne 7, 3) := da9_dX10_few_0.2.2.2.2.2.2.2.2.2.1
theorem dX10_few_20 : decode cX10_few 20 = .ok (.ldc2_w 466, 3) := da9_dX10_few_0.2.2.2.2.2.2.2.2.2.2.1
theorem dX10_few_23 : decode cX10_few 23 = .ok (.lreturn, 1) := da9_dX10_few_0.2.2.2.2.2.2.2.2.2.2.2.1
theorem dX10_few_24 : decode cX10_few 24 = .ok (.iconst 0, 1) := da9_dX10_few_0.2.2.2.2.2.2.2.2.2.2.2.2.1
theorem dX10_few_25 : decode cX10_few 25 = .ok (.istore_n 3, 1) := da9_dX10_few_0.2.2.2.2.2.2.2.2.2.2.2.2.2.1
theorem dX10_few_26 : decode cX10_few 26 = .ok (.iload_n 3, 1) := da9_dX10_few_0.2.2.2.2.2.2.2.2.2.2.2.2.2.2.1
theorem dX10_few_27 : decode cX10_few 27 = .ok (.bipush 20, 2) := da9_dX10_few_0.2.2.2.2.2.2.2.2.2.2.2.2.2.2.2
theorem da9_dX10_few_29 : (decode cX10_few 29 = .ok (.if_icmp .gt 26, 3)) ∧ (decode cX10_few 32 = .ok (.aload_n 0, 1)) ∧ (decode cX10_few 33 = .ok (.getfield 106, 3)) ∧ (decode cX10_few 36 = .ok (.iload_n 3, 1)) ∧ (decode cX10_few 37 = .ok (.iload_n 3, 1)) ∧ (decode cX10_few 38 = .ok (.ifCond .ne 9, 3)) ∧ (decode cX10_few 41 = .ok (.ldc2_w 468, 3)) ∧ (decode cX10_few 44 = .ok (.goto 4, 3)) ∧ (decode cX10_few 47 = .ok (.lconst 0, 1)) ∧ (decode cX10_few 48 = .ok (.lastore, 1)) ∧ (decode cX10_few 49 = .ok (.iinc 3 1, 3)) ∧ (decode cX10_few 52 = .ok (.goto (-26), 3)) ∧ (decode cX10_few 55 = .ok (.iconst 0, 1)) ∧ (decode cX10_few 56 = .ok (.istore_n 3, 1)) ∧ (decode cX10_few 57 = .ok (.iload_n 3, 1)) ∧ (decode cX10_few 58 = .ok (.iload_n 2, 1)) := by decide +kernel
theorem dX10_few_29 : decode cX10_few 29 = .ok (.if_icmp .gt 26, 3) := da9_dX10_few_29.1
theorem dX10_few_32 : decode cX10_few 32 = .ok (.aload_n 0, 1) := da9_dX10_few_29.2.1
theorem dX10_few_33 : decode cX10_few 33 = .ok (.getfield 106, 3) := da9_dX10_few_29.2.2.1
theorem dX10_few_36 : decode cX10_few 36 = .ok (.iload_n 3, 1) := da9_dX10_few_29.2.2.2.1
theorem dX10_few_37 : decode cX10_few 37 = .ok (.iload_n 3, 1) := da9_dX10_few_29.2.2.2.2.1
theorem dX10_few_38 : decode cX10_few 38 = .ok (.ifCond .ne 9, 3) := da9_dX10_few_29.2.2.2.2.2.1
theorem dX10_few_41 : decode cX10_few 41 = .ok (.ldc2_w 468, 3) := da9_dX10_few_29.2.2.2.2.2.2.1
theorem dX10_few_44 : decode cX10_few 44 = .ok (.goto 4, 3) := da9_dX10_few_29.2.2.2.2.2.2.2.1
theorem dX10_few_47 : decode cX10_few 47 = .ok (.lconst 0, 1) := da9_dX10_few_29.2.2.2.2.2.2.2.2.1
theorem dX10_few_48 : decode cX10_few 48 = .ok (.lastore, 1) := da9_dX10_few_29.2.2.2.2.2.2.2.2.2.1
theorem dX10_few_49 : decode cX10_few 49 = .ok (.iinc 3 1, 3) := da9_dX10_few_29.2.2.2.2.2.2.2.2.2.2.1
theorem dX10_few_52 : decode cX10_few 52 = .ok (.goto (-26), 3) := da9_dX10_few_29.2.2.2.2.2.2.2.2.2.2.2.1
theorem dX10_few_55 : decode cX10_few 55 = .ok (.iconst 0, 1) := da9_dX10_few_29.2.2.2.2.2.2.2.2.2.2.2.2.1
theorem dX10_few_56 : decode cX10_few 56 = .ok (.istore_n 3, 1) := da9_dX10_few_29.2.2.2.2.2.2.2.2.2.2.2.2.2.1
theorem dX10_few_57 : decode cX10_few 57 = .ok (.iload_n 3, 1) := da9_dX10_few_29.2.2.2.2.2.2.2.2.2.2.2.2.2.2.1
theorem dX10_few_58 : decode cX10_few 58 = .ok (.iload_n 2, 1) := da9_dX10_few_29.2.2.2.2.2.2.2.2.2.2.2.2.2.2.2
theorem da9_dX10_few_59 : (decode cX10_few 59 = .ok (.if_icmp .ge 87, 3)) ∧ (decode cX10_few 62 = .ok (.iload_n 1, 1)) ∧ (decode cX10_few 63 = .ok (.iconst 1, 1)) ∧ (decode cX10_few 64 = .ok (.isub, 1)) ∧ (decode cX10_few 65 = .ok (.istore 4, 2)) ∧ (decode cX10_few 67 = .ok (.iload 4, 2)) ∧ (decode cX10_few 69 = .ok (.ifCond .lt 71, 3)) ∧ (decode cX10_few 72 = .ok (.aload_n 0, 1)) ∧ (decode cX10_few 73 = .ok (.getfield 106, 3)) ∧ (decode cX10_few 76 = .ok (.iload 4, 2)) ∧ (decode cX10_few 78 = .ok (.iconst 1, 1)) ∧ (decode cX10_few 79 = .ok (.iadd, 1)) ∧ (decode cX10_few 80 = .ok (.dup2, 1)) ∧ (decode cX10_few 81 = .ok (.laload, 1)) ∧ (decode cX10_few 82 = .ok (.aload_n 0, 1)) ∧ (decode cX10_few 83 = .ok (.getfield 106, 3)) := by decide +kernel
theorem dX10_few_59 : decode cX10_few 59 = .ok (.if_icmp .ge 87, 3) := da9_dX10_few_59.1
theorem dX10_few_62 : decode cX10_few 62 = .ok (.iload_n 1, 1) := da9_dX10_few_59.2.1
theorem dX10_few_63 : decode cX10_few 63 = .ok (.iconst 1, 1) := da9_dX10_few_59.2.2.1
theorem dX10_few_64 : decode cX10_few 64 = .ok (.isub, 1) := da9_dX10_few_59.2.2.2.1
theorem dX10_few_65 : decode cX10_few 65 = .ok (.istore 4, 2) := da9_dX10_few_59.2.2.2.2.1
theorem dX10_few_67 : decode cX10_few 67 = .ok (.iload 4, 2) := da9_dX10_few_59.2.2.2.2.2.1
theorem dX10_few_69 : decode cX10_few 69 = .ok (.ifCond .lt 71, 3) := da9_dX10_few_59.2.2.2.2.2.2.1
theorem dX10_few_72 : decode cX10_few 72 = .ok (.aload_n 0, 1) := da9_dX10_few_59.2.2.2.2.2.2.2.1
theorem dX10_few_73 : decode cX10_few 73 = .ok (.getfield 106, 3) := da9_dX10_few_59.2.2.2.2.2.2.2.2.1
theorem dX10_few_76 : decode cX10_few 76 = .ok (.iload 4, 2) := da9_dX10_few_59.2.2.2.2.2.2.2.2.2.1
theorem dX10_few_78 : decode cX10_few 78 = .ok (.iconst 1, 1) := da9_dX10_few_59.2.2.2.2.2.2.2.2.2.2.1
theorem dX10_few_79 : decode cX10_few 79 = .ok (.iadd, 1) := da9_dX10_few_59.2.2.2.2.2.2.2.2.2.2.2.1
theorem dX10_few_80 : decode cX10_few 80 = .ok (.dup2, 1) := da9_dX10_few_59.2.2.2.2.2.2.2.2.2.2.2.2.1
theorem dX10_few_81 : decode cX10_few 81 = .ok (.laload, 1) := da9_dX10_few_59.2.2.2.2.2.2.2.2.2.2.2.2.2.1
theorem dX10_few_82 : decode cX10_few 82 = .ok (.aload_n 0, 1) := da9_dX10_few_59.2.2.2.2.2.2.2.2.2.2.2.2.2.2.1
theorem dX10_few_83 : decode cX10_few 83 = .ok (.getfield 106, 3) := da9_dX10_few_59.2.2.2.2.2.2.2.2.2.2.2.2.2.2.2
theorem da9_dX10_few_86 : (decode cX10_few 86 = .ok (.iload 4, 2)) ∧ (decode cX10_few 88 = .ok (.laload, 1)) ∧ (decode cX10_few 89 = .ok (.aload_n 0, 1)) ∧ (decode cX10_few 90 = .ok (.getfield 28, 3)) ∧ (decode cX10_few 93 = .ok (.bipush 26, 2)) ∧ (decode cX10_few 95 = .ok (.iaload, 1)) ∧ (decode cX10_few 96 = .ok (.i2l, 1)) ∧ (decode cX10_few 97 = .ok (.lmul, 1)) ∧ (decode cX10_few 98 = .ok (.ldc2_w 470, 3)) ∧ (decode cX10_few 101 = .ok (.ldiv, 1)) ∧ (decode cX10_few 102 = .ok (.ladd, 1)) ∧ (decode cX10_few 103 = .ok (.lastore, 1)) ∧ (decode cX10_few 104 = .ok (.aload_n 0, 1)) ∧ (decode cX10_few 105 = .ok (.getfield 106, 3)) ∧ (decode cX10_few 108 = .ok (.iload 4, 2)) ∧ (decode cX10_few 110 = .ok (.aload_n 0, 1)) := by decide +kernel
theorem dX10_few_86 : decode cX10_few 86 = .ok (.iload 4, 2) := da9_dX10_few_86.1
theorem dX10_few_88 : decode cX10_few 88 = .ok (.laload, 1) := da9_dX10_few_86.2.1
theorem dX10_few_89 : decode cX10_few 89 = .ok (.aload_n 0, 1) := da9_dX10_few_86.2.2.1
theorem dX10_few_90 : decode cX10_few 90 = .ok (.getfield 28, 3) := da9_dX10_few_86.2.2.2.1
theorem dX10_few_93 : decode cX10_few 93 = .ok (.bipush 26, 2) := da9_dX10_few_86.2.2.2.2.1
theorem dX10_few_95 : decode cX10_few 95 = .ok (.iaload, 1) := da9_dX10_few_86.2.2.2.2.2.1
theorem dX10_few_96 : decode cX10_few 96 = .ok (.i2l, 1) := da9_dX10_few_86.2.2.2.2.2.2.1
theorem dX10_few_97 : decode cX10_few 97 = .ok (.lmul, 1) := da9_dX10_few_86.2.2.2.2.2.2.2.1
theorem dX10_few_98 : decode cX10_few 98 = .ok (.ldc2_w 470, 3) := da9_dX10_few_86.2.2.2.2.2.2.2.2.1
theorem dX10_few_101 : decode cX10_few 101 = .ok (.ldiv, 1) := da9_dX10_few_86.2.2.2.2.2.2.2.2.2.1
theorem dX10_few_102 : decode cX10_few 102 = .ok (.ladd, 1) := da9_dX10_few_86.2.2.2.2.2.2.2.2.2.2.1
theorem dX10_few_103 : decode cX10_few 103 = .ok (.lastore, 1) := da9_dX10_few_86.2.2.2.2.2.2.2.2.2.2.2.1
theorem dX10_few_104 : decode cX10_few 104 = .ok (.aload_n 0, 1) := da9_dX10_few_86.2.2.2.2.2.2.2.2.2.2.2.2.1
theorem dX10_few_105 : decode cX10_few 105 = .ok (.getfield 106, 3) := da9_dX10_few_86.2.2.2.2.2.2.2.2.2.2.2.2.2.1
theorem dX10_few_108 : decode cX10_few 108 = .ok (.iload 4, 2) := da9_dX10_few_86.2.2.2.2.2.2.2.2.2.2.2.2.2.2.1
theorem dX10_few_110 : decode cX10_few 110 = .ok (.aload_n 0, 1) := da9_dX10_few_86.2.2.2.2.2.2.2.2.2.2.2.2.2.2.2
theorem da9_dX10_few_111 : (decode cX10_few 111 = .ok (.getfield 106, 3)) ∧ (decode cX10_few 114 = .ok (.iload 4, 2)) ∧ (decode cX10_few 116 = .ok (.laload, 1)) ∧ (decode cX10_few 117 = .ok (.bipush 10, 2)) ∧ (decode cX10_few 119 = .ok (.aload_n 0, 1)) ∧ (decode cX10_few 120 = .ok (.getfield 28, 3)) ∧ (decode cX10_few 123 = .ok (.bipush 26, 2)) ∧ (decode cX10_few 125 = .ok (.iaload, 1)) ∧ (decode cX10_few 126 = .ok (.isub, 1)) ∧ (decode cX10_few 127 = .ok (.i2l, 1)) ∧ (decode cX10_few 128 = .ok (.lmul, 1)) ∧ (decode cX10_few 129 = .ok (.ldc2_w 470, 3)) ∧ (decode cX10_few 132 = .ok (.ldiv, 1)) ∧ (decode cX10_few 133 = .ok (.lastore, 1)) ∧ (decode cX10_few 134 = .ok (.iinc 4 (-1), 3)) ∧ (decode cX10_few 137 = .ok (.goto (-70), 3)) := by decide +kernel
theorem dX10_few_111 : decode cX10_few 111 = .ok (.getfield 106, 3) := da9_dX10_few_111.1
theorem dX10_few_114 : decode cX10_few 114 = .ok (.iload 4, 2) := da9_dX10_few_111.2.1
theorem dX10_few_116 : decode cX10_few 116 = .ok (.laload, 1) := da9_dX10_few_111.2.2.1
theorem dX10_few_117 : decode cX10_few 117 = .ok (.bipush 10, 2) := da9_dX10_few_111.2.2.2.1
theorem dX10_few_119 : decode cX10_few 119 = .ok (.aload_n 0, 1) := da9_dX10_few_111.2.2.2.2.1
theorem dX10_few_120 : decode cX10_few 120 = .ok (.getfield 28, 3) := da9_dX10_few_111.2.2.2.2.2.1
theorem dX10_few_123 : decode cX10_few 123 = .ok (.bipush 26, 2) := da9_dX10_few_111.2.2.2.2.2.2.1
theorem dX10_few_125 : decode cX10_few 125 = .ok (.iaload, 1) := da9_dX10_few_111.2.2.2.2.2.2.2.1
theorem dX10_few_126 : decode cX10_few 126 = .ok (.isub, 1) := da9_dX10_few_111.2.2.2.2.2.2.2.2.1
theorem dX10_few_127 : decode cX10_few 127 = .ok (.i2l, 1) := da9_dX10_few_111.2.2.2.2.2.2.2.2.2.1
theorem dX10_few_128 : decode cX10_few 128 = .ok (.lmul, 1) := da9_dX10_few_111.2.2.2.2.2.2.2.2.2.2.1
theorem dX10_few_129 : decode cX10_few 129 = .ok (.ldc2_w 470, 3) := da9_dX10_few_111.2.2.2.2.2.2.2.2.2.2.2.1
theorem dX10_few_132 : decode cX10_few 132 = .ok (.ldiv, 1) := da9_dX10_few_111.2.2.2.2.2.2.2.2.2.2.2.2.1
theorem dX10_few_133 : decode cX10_few 133 = .ok (.lastore, 1) := da9_dX10_few_111.2.2.2.2.2.2.2.2.2.2.2.2.2.1
theorem dX10_few_134 : decode cX10_few 134 = .ok (.iinc 4 (-1), 3) := da9_dX10_few_111.2.2.2.2.2.2.2.2.2.2.2.2.2.2.1
theorem dX10_few_137 : decode cX10_few 137 = .ok (.goto (-70), 3) := da9_dX10_few_111.2.2.2.2.2.2.2.2.2.2.2.2.2.2.2
theorem da9_dX10_few_140 : (decode cX10_few 140 = .ok (.iinc 3 1, 3)) ∧ (decode cX10_few 143 = .ok (.goto (-86), 3)) ∧ (decode cX10_few 146 = .ok (.lconst 0, 1)) ∧ (decode cX10_few 147 = .ok (.lstore_n 3, 1)) ∧ (decode cX10_few 148 = .ok (.iconst 0, 1)) ∧ (decode cX10_few 149 = .ok (.istore 5, 2)) ∧ (decode cX10_few 151 = .ok (.iload 5, 2)) ∧ (decode cX10_few 153 = .ok (.iload_n 1, 1)) ∧ (decode cX10_few 154 = .ok (.if_icmp .ge 19, 3)) ∧ (decode cX10_few 157 = .ok (.lload_n 3, 1)) ∧ (decode cX10_few 158 = .ok (.aload_n 0, 1)) ∧ (decode cX10_few 159 = .ok (.getfield 106, 3)) ∧ (decode cX10_few 162 = .ok (.iload 5, 2)) ∧ (decode cX10_few 164 = .ok (.laload, 1)) ∧ (decode cX10_few 165 = .ok (.ladd, 1)) ∧ (decode cX10_few 166 = .ok (.lstore_n 3, 1)) := by decide +kernel
theorem dX10_few_140 : decode cX10_few 140 = .ok (.iinc 3 1, 3) := da9_dX10_few_140.1
theorem dX10_few_143 : decode cX10_few 143 = .ok (.goto (-86), 3) := da9_dX10_few_140.2.1
theorem dX10_few_146 : decode cX10_few 146 = .ok (.lconst 0, 1) := da9_dX10_few_140.2.2.1
theorem dX10_few_147 : decode cX10_few 147 = .ok (.lstore_n 3, 1) := da9_dX10_few_140.2.2.2.1
theorem dX10_few_148 : decode cX10_few 148 = .ok (.iconst 0, 1) := da9_dX10_few_140.2.2.2.2.1
theorem dX10_few_149 : decode cX10_few 149 = .ok (.istore 5, 2) := da9_dX10_few_140.2.2.2.2.2.1
theorem dX10_few_151 : decode cX10_few 151 = .ok (.iload 5, 2) := da9_dX10_few_140.2.2.2.2.2.2.1
theorem dX10_few_153 : decode cX10_few 153 = .ok (.iload_n 1, 1) := da9_dX10_few_140.2.2.2.2.2.2.2.1
theorem dX10_few_154 : decode cX10_few 154 = .ok (.if_icmp .ge 19, 3) := da9_dX10_few_140.2.2.2.2.2.2.2.2.1
theorem dX10_few_157 : decode cX10_few 157 = .ok (.lload_n 3, 1) := da9_dX10_few_140.2.2.2.2.2.2.2.2.2.1
theorem dX10_few_158 : decode cX10_few 158 = .ok (.aload_n 0, 1) := da9_dX10_few_140.2.2.2.2.2.2.2.2.2.2.1
theorem dX10_few_159 : decode cX10_few 159 = .ok (.getfield 106, 3) := da9_dX10_few_140.2.2.2.2.2.2.2.2.2.2.2.1
theorem dX10_few_162 : decode cX10_few 162 = .ok (.iload 5, 2) := da9_dX10_few_140.2.2.2.2.2.2.2.2.2.2.2.2.1
theorem dX10_few_164 : decode cX10_few 164 = .ok (.laload, 1) := da9_dX10_few_140.2.2.2.2.2.2.2.2.2.2.2.2.2.1
theorem dX10_few_165 : decode cX10_few 165 = .ok (.ladd, 1) := da9_dX10_few_140.2.2.2.2.2.2.2.2.2.2.2.2.2.2.1
theorem dX10_few_166 : decode cX10_few 166 = .ok (.lstore_n 3, 1) := da9_dX10_few_140.2.2.2.2.2.2.2.2.2.2.2.2.2.2.2
theorem da9_dX10_few_167 : (decode cX10_few 167 = .ok (.iinc 5 1, 3)) ∧ (decode cX10_few 170 = .ok (.goto (-19), 3)) ∧ (decode cX10_few 173 = .ok (.lload_n 3, 1)) ∧ (decode cX10_few 174 = .ok (.lreturn, 1)) := by decide +kernel
theorem dX10_few_167 : decode cX10_few 167 = .ok (.iinc 5 1, 3) := da9_dX10_few_167.1
theorem dX10_few_170 : decode cX10_few 170 = .ok (.goto (-19), 3) := da9_dX10_few_167.2.1
theorem dX10_few_173 : decode cX10_few 173 = .ok (.lload_n 3, 1) := da9_dX10_few_167.2.2.1
theorem dX10_few_174 : decode cX10_few 174 = .ok (.lreturn, 1) := da9_dX10_few_167.2.2.2
theorem da9_dX10_stopped_0 : (decode cX10_stopped 0 = .ok (.aload_n 0, 1)) ∧ (decode cX10_stopped 1 = .ok (.getfield 110, 3)) ∧ (decode cX10_stopped 4 = .ok (.ireturn, 1)) := by decide +kernel
theorem dX10_stopped_0 : decode cX10_stopped 0 = .ok (.aload_n 0, 1) := da9_dX10_stopped_0.1
theorem dX10_stopped_1 : decode cX10_stopped 1 = .ok (.getfield 110, 3) := da9_dX10_stopped_0.2.1
theorem dX10_stopped_4 : decode cX10_stopped 4 = .ok (.ireturn, 1) := da9_dX10_stopped_0.2.2
set_option maxRecDepth 20000 in
theorem ggX10_goesAlong_X10_codeAt : GoodIn wsX10_goesAlong wsX10_codeAt := goodIn_r _ [16, 2, 10, 84, 85, 86, 87, 88, 89, 90, 91, 92, 93, 94, 95, 96, 97, 98, 99, 100, 101, 102, 103, 104, 105, 106, 107, 108, 109, 110, 111, 112, 113, 114, 115, 116, 117, 118, 119, 120, 121, 122, 123, 124, 125, 126, 127, 128, 129, 130, 131, 132, 133, 134, 135, 136, 137, 138, 139] rfl (by decide +kernel)
set_option maxRecDepth 20000 in
theorem gX10_goesAlong_X10_codeAt : GoodIn wsX10_goesAlong (wsV RX10 281 RX10 yX10_codeAt wsX10_codeAt) := goodIn_app (goodIn_of _ (by decide +kernel)) ggX10_goesAlong_X10_codeAt
set_option maxRecDepth 20000 in
theorem ggX10_goesAlong_X10_sumOf : GoodIn wsX10_goesAlong wsX10_sumOf := goodIn_r _ [20, 4, 21, 22, 23, 15, 12, 13, 14, 16, 2, 10, 24, 25, 26, 27, 28, 29, 30, 31, 32, 6, 33, 1, 34, 35, 36, 37, 38, 17, 18, 19, 39, 40, 41, 42, 43, 44, 45, 46, 47, 48, 49, 50, 51, 52, 53, 54, 55, 56, 57, 58, 59, 60, 61, 62, 63, 64, 65, 66, 67, 84, 85, 86, 87, 88, 89, 90, 91, 92, 93, 94, 95, 96, 97, 98, 99, 100, 101, 102, 103, 104, 105, 106, 107, 108, 109, 110, 111, 112, 113, 114, 115, 116, 117, 118, 119, 120, 121, 122, 123, 124, 125, 126, 127, 128, 129, 130, 131, 132, 133, 134, 135, 136, 137, 138, 139] rfl (by decide +kernel)
set_option maxRecDepth 20000 in
theorem gX10_goesAlong_X10_sumOf : GoodIn wsX10_goesAlong (wsV RX10 305 RX10 yX10_sumOf wsX10_sumOf) := goodIn_app (goodIn_of _ (by decide +kernel)) ggX10_goesAlong_X10_sumOf
set_option maxRecDepth 20000 in
theorem ggX10_goesAlong_X10_passes0 : GoodIn wsX10_goesAlong wsX10_passes0 := goodIn_r _ [38, 4, 12, 13, 14, 15, 16, 2, 10, 84, 85, 86, 87, 88, 89, 90, 91, 92, 93, 94, 95, 96, 97, 98, 99, 100, 101, 102, 103, 104, 105, 106, 107, 108, 109, 110, 111, 112, 113, 114, 115, 116, 117, 118, 119, 120, 121, 122, 123, 124, 125, 126, 127, 128, 129, 130, 131, 132, 133, 134, 135, 136, 137, 138, 139] rfl (by decide +kernel)
set_option maxRecDepth 20000 in
theorem gX10_goesAlong_X10_passes0 : GoodIn wsX10_goesAlong (wsV RX10 302 RX10 yX10_passes0 wsX10_passes0) := goodIn_app (goodIn_of _ (by decide +kernel)) ggX10_goesAlong_X10_passes0
set_option maxRecDepth 20000 in
theorem ggX10_goesAlong_X10_testOf : GoodIn wsX10_goesAlong wsX10_testOf := goodIn_r _ [71, 72, 73, 74, 15, 35, 36, 37, 38, 4, 12, 13, 14, 16, 2, 10, 75, 76, 77, 78, 79, 80, 81, 82, 83, 6, 24, 25, 26, 68, 69, 70, 17, 18, 19, 20, 21, 22, 23, 27, 28, 29, 30, 31, 32, 33, 1, 34, 39, 40, 41, 42, 43, 44, 45, 46, 47, 48, 49, 50, 51, 52, 53, 54, 55, 56, 57, 58, 59, 60, 61, 62, 63, 64, 65, 66, 67, 84, 85, 86, 87, 88, 89, 90, 91, 92, 93, 94, 95, 96, 97, 98, 99, 100, 101, 102, 103, 104, 105, 106, 107, 108, 109, 110, 111, 112, 113, 114, 115, 116, 117, 118, 119, 120, 121, 122, 123, 124, 125, 126, 127, 128, 129, 130, 131, 132, 133, 134, 135, 136, 137, 138, 139] rfl (by decide +kernel)
set_option maxRecDepth 20000 in
theorem gX10_goesAlong_X10_testOf : GoodIn wsX10_goesAlong (wsV RX10 332 RX10 yX10_testOf wsX10_testOf) := goodIn_app (goodIn_of _ (by decide +kernel)) ggX10_goesAlong_X10_testOf
theorem da9_dX10_goesAlong_0 : (decode cX10_goesAlong 0 = .ok (.aload_n 0, 1)) ∧ (decode cX10_goesAlong 1 = .ok (.iconst 1, 1)) ∧ (decode cX10_goesAlong 2 = .ok (.putfield 308, 3)) ∧ (decode cX10_goesAlong 5 = .ok (.aload_n 0, 1)) ∧ (decode cX10_goesAlong 6 = .ok (.iload_n 1, 1)) ∧ (decode cX10_goesAlong 7 = .ok (.putfield 275, 3)) ∧ (decode cX10_goesAlong 10 = .ok (.aload_n 0, 1)) ∧ (decode cX10_goesAlong 11 = .ok (.aload_n 0, 1)) ∧ (decode cX10_goesAlong 12 = .ok (.getfield 475, 3)) ∧ (decode cX10_goesAlong 15 = .ok (.putfield 278, 3)) ∧ (decode cX10_goesAlong 18 = .ok (.aload_n 0, 1)) ∧ (decode cX10_goesAlong 19 = .ok (.aload_n 0, 1)) ∧ (decode cX10_goesAlong 20 = .ok (.aload_n 0, 1)) ∧ (decode cX10_goesAlong 21 = .ok (.getfield 278, 3)) ∧ (decode cX10_goesAlong 24 = .ok (.invokevirtual 281, 3)) ∧ (decode cX10_goesAlong 27 = .ok (.putfield 484, 3)) := by decide +kernel
theorem dX10_goesAlong_0 : decode cX10_goesAlong 0 = .ok (.aload_n 0, 1) := da9_dX10_goesAlong_0.1
theorem dX10_goesAlong_1 : decode cX10_goesAlong 1 = .ok (.iconst 1, 1) := da9_dX10_goesAlong_0.2.1
theorem dX10_goesAlong_2 : decode cX10_goesAlong 2 = .ok (.putfield 308, 3) := da9_dX10_goesAlong_0.2.2.1
theorem dX10_goesAlong_5 : decode cX10_goesAlong 5 = .ok (.aload_n 0, 1) := da9_dX10_goesAlong_0.2.2.2.1
theorem dX10_goesAlong_6 : decode cX10_goesAlong 6 = .ok (.iload_n 1, 1) := da9_dX10_goesAlong_0.2.2.2.2.1
theorem dX10_goesAlong_7 : decode cX10_goesAlong 7 = .ok (.putfield 275, 3) := da9_dX10_goesAlong_0.2.2.2.2.2.1
theorem dX10_goesAlong_10 : decode cX10_goesAlong 10 = .ok (.aload_n 0, 1) := da9_dX10_goesAlong_0.2.2.2.2.2.2.1
theorem dX10_goesAlong_11 : decode cX10_goesAlong 11 = .ok (.aload_n 0, 1) := da9_dX10_goesAlong_0.2.2.2.2.2.2.2.1
theorem dX10_goesAlong_12 : decode cX10_goesAlong 12 = .ok (.getfield 475, 3) := da9_dX10_goesAlong_0.2.2.2.2.2.2.2.2.1
theorem dX10_goesAlong_15 : decode cX10_goesAlong 15 = .ok (.putfield 278, 3) := da9_dX10_goesAlong_0.2.2.2.2.2.2.2.2.2.1
theorem dX10_goesAlong_18 : decode cX10_goesAlong 18 = .ok (.aload_n 0, 1) := da9_dX10_goesAlong_0.2.2.2.2.2.2.2.2.2.2.1
theorem dX10_goesAlong_19 : decode cX10_goesAlong 19 = .ok (.aload_n 0, 1) := da9_dX10_goesAlong_0.2.2.2.2.2.2.2.2.2.2.2.1
theorem dX10_goesAlong_20 : decode cX10_goesAlong 20 = .ok (.aload_n 0, 1) := da9_dX10_goesAlong_0.2.2.2.2.2.2.2.2.2.2.2.2.1
theorem dX10_goesAlong_21 : decode cX10_goesAlong 21 = .ok (.getfield 278, 3) := da9_dX10_goesAlong_0.2.2.2.2.2.2.2.2.2.2.2.2.2.1
theorem dX10_goesAlong_24 : decode cX10_goesAlong 24 = .ok (.invokevirtual 281, 3) := da9_dX10_goesAlong_0.2.2.2.2.2.2.2.2.2.2.2.2.2.2.1
theorem dX10_goesAlong_27 : decode cX10_goesAlong 27 = .ok (.putfield 484, 3) := da9_dX10_goesAlong_0.2.2.2.2.2.2.2.2.2.2.2.2.2.2.2
theorem da9_dX10_goesAlong_30 : (decode cX10_goesAlong 30 = .ok (.aload_n 0, 1)) ∧ (decode cX10_goesAlong 31 = .ok (.dup, 1)) ∧ (decode cX10_goesAlong 32 = .ok (.getfield 278, 3)) ∧ (decode cX10_goesAlong 35 = .ok (.iconst 1, 1)) ∧ (decode cX10_goesAlong 36 = .ok (.iadd, 1)) ∧ (decode cX10_goesAlong 37 = .ok (.putfield 278, 3)) ∧ (decode cX10_goesAlong 40 = .ok (.aload_n 0, 1)) ∧ (decode cX10_goesAlong 41 = .ok (.iconst 0, 1)) ∧ (decode cX10_goesAlong 42 = .ok (.putfield 288, 3)) ∧ (decode cX10_goesAlong 45 = .ok (.aload_n 0, 1)) ∧ (decode cX10_goesAlong 46 = .ok (.aload_n 0, 1)) ∧ (decode cX10_goesAlong 47 = .ok (.getfield 484, 3)) ∧ (decode cX10_goesAlong 50 = .ok (.bipush 25, 2)) ∧ (decode cX10_goesAlong 52 = .ok (.if_icmp .ne 7, 3)) ∧ (decode cX10_goesAlong 55 = .ok (.lconst 0, 1)) ∧ (decode cX10_goesAlong 56 = .ok (.goto 8, 3)) := by decide +kernel
theorem dX10_goesAlong_30 : decode cX10_goesAlong 30 = .ok (.aload_n 0, 1) := da9_dX10_goesAlong_30.1
theorem dX10_goesAlong_31 : decode cX10_goesAlong 31 = .ok (.dup, 1) := da9_dX10_goesAlong_30.2.1
theorem dX10_goesAlong_32 : decode cX10_goesAlong 32 = .ok (.getfield 278, 3) := da9_dX10_goesAlong_30.2.2.1
theorem dX10_goesAlong_35 : decode cX10_goesAlong 35 = .ok (.iconst 1, 1) := da9_dX10_goesAlong_30.2.2.2.1
theorem dX10_goesAlong_36 : decode cX10_goesAlong 36 = .ok (.iadd, 1) := da9_dX10_goesAlong_30.2.2.2.2.1
theorem dX10_goesAlong_37 : decode cX10_goesAlong 37 = .ok (.putfield 278, 3) := da9_dX10_goesAlong_30.2.2.2.2.2.1
theorem dX10_goesAlong_40 : decode cX10_goesAlong 40 = .ok (.aload_n 0, 1) := da9_dX10_goesAlong_30.2.2.2.2.2.2.1
theorem dX10_goesAlong_41 : decode cX10_goesAlong 41 = .ok (.iconst 0, 1) := da9_dX10_goesAlong_30.2.2.2.2.2.2.2.1
theorem dX10_goesAlong_42 : decode cX10_goesAlong 42 = .ok (.putfield 288, 3) := da9_dX10_goesAlong_30.2.2.2.2.2.2.2.2.1
theorem dX10_goesAlong_45 : decode cX10_goesAlong 45 = .ok (.aload_n 0, 1) := da9_dX10_goesAlong_30.2.2.2.2.2.2.2.2.2.1
theorem dX10_goesAlong_46 : decode cX10_goesAlong 46 = .ok (.aload_n 0, 1) := da9_dX10_goesAlong_30.2.2.2.2.2.2.2.2.2.2.1
theorem dX10_goesAlong_47 : decode cX10_goesAlong 47 = .ok (.getfield 484, 3) := da9_dX10_goesAlong_30.2.2.2.2.2.2.2.2.2.2.2.1
theorem dX10_goesAlong_50 : decode cX10_goesAlong 50 = .ok (.bipush 25, 2) := da9_dX10_goesAlong_30.2.2.2.2.2.2.2.2.2.2.2.2.1
theorem dX10_goesAlong_52 : decode cX10_goesAlong 52 = .ok (.if_icmp .ne 7, 3) := da9_dX10_goesAlong_30.2.2.2.2.2.2.2.2.2.2.2.2.2.1
theorem dX10_goesAlong_55 : decode cX10_goesAlong 55 = .ok (.lconst 0, 1) := da9_dX10_goesAlong_30.2.2.2.2.2.2.2.2.2.2.2.2.2.2.1
theorem dX10_goesAlong_56 : decode cX10_goesAlong 56 = .ok (.goto 8, 3) := da9_dX10_goesAlong_30.2.2.2.2.2.2.2.2.2.2.2.2.2.2.2
theorem da9_dX10_goesAlong_59 : (decode cX10_goesAlong 59 = .ok (.aload_n 0, 1)) ∧ (decode cX10_goesAlong 60 = .ok (.iload_n 2, 1)) ∧ (decode cX10_goesAlong 61 = .ok (.invokevirtual 305, 3)) ∧ (decode cX10_goesAlong 64 = .ok (.putfield 487, 3)) ∧ (decode cX10_goesAlong 67 = .ok (.aload_n 0, 1)) ∧ (decode cX10_goesAlong 68 = .ok (.aload_n 0, 1)) ∧ (decode cX10_goesAlong 69 = .ok (.getfield 288, 3)) ∧ (decode cX10_goesAlong 72 = .ok (.ifCond .ne 7, 3)) ∧ (decode cX10_goesAlong 75 = .ok (.iconst 1, 1)) ∧ (decode cX10_goesAlong 76 = .ok (.goto 4, 3)) ∧ (decode cX10_goesAlong 79 = .ok (.iconst 0, 1)) ∧ (decode cX10_goesAlong 80 = .ok (.putfield 491, 3)) ∧ (decode cX10_goesAlong 83 = .ok (.aload_n 0, 1)) ∧ (decode cX10_goesAlong 84 = .ok (.iconst 1, 1)) ∧ (decode cX10_goesAlong 85 = .ok (.putfield 494, 3)) ∧ (decode cX10_goesAlong 88 = .ok (.aload_n 0, 1)) := by decide +kernel
theorem dX10_goesAlong_59 : decode cX10_goesAlong 59 = .ok (.aload_n 0, 1) := da9_dX10_goesAlong_59.1
theorem dX10_goesAlong_60 : decode cX10_goesAlong 60 = .ok (.iload_n 2, 1) := da9_dX10_goesAlong_59.2.1
theorem dX10_goesAlong_61 : decode cX10_goesAlong 61 = .ok (.invokevirtual 305, 3) := da9_dX10_goesAlong_59.2.2.1
theorem dX10_goesAlong_64 : decode cX10_goesAlong 64 = .ok (.putfield 487, 3) := da9_dX10_goesAlong_59.2.2.2.1
theorem dX10_goesAlong_67 : decode cX10_goesAlong 67 = .ok (.aload_n 0, 1) := da9_dX10_goesAlong_59.2.2.2.2.1
theorem dX10_goesAlong_68 : decode cX10_goesAlong 68 = .ok (.aload_n 0, 1) := da9_dX10_goesAlong_59.2.2.2.2.2.1
theorem dX10_goesAlong_69 : decode cX10_goesAlong 69 = .ok (.getfield 288, 3) := da9_dX10_goesAlong_59.2.2.2.2.2.2.1
theorem dX10_goesAlong_72 : decode cX10_goesAlong 72 = .ok (.ifCond .ne 7, 3) := da9_dX10_goesAlong_59.2.2.2.2.2.2.2.1
theorem dX10_goesAlong_75 : decode cX10_goesAlong 75 = .ok (.iconst 1, 1) := da9_dX10_goesAlong_59.2.2.2.2.2.2.2.2.1
theorem dX10_goesAlong_76 : decode cX10_goesAlong 76 = .ok (.goto 4, 3) := da9_dX10_goesAlong_59.2.2.2.2.2.2.2.2.2.1
theorem dX10_goesAlong_79 : decode cX10_goesAlong 79 = .ok (.iconst 0, 1) := da9_dX10_goesAlong_59.2.2.2.2.2.2.2.2.2.2.1
theorem dX10_goesAlong_80 : decode cX10_goesAlong 80 = .ok (.putfield 491, 3) := da9_dX10_goesAlong_59.2.2.2.2.2.2.2.2.2.2.2.1
theorem dX10_goesAlong_83 : decode cX10_goesAlong 83 = .ok (.aload_n 0, 1) := da9_dX10_goesAlong_59.2.2.2.2.2.2.2.2.2.2.2.2.1
theorem dX10_goesAlong_84 : decode cX10_goesAlong 84 = .ok (.iconst 1, 1) := da9_dX10_goesAlong_59.2.2.2.2.2.2.2.2.2.2.2.2.2.1
theorem dX10_goesAlong_85 : decode cX10_goesAlong 85 = .ok (.putfield 494, 3) := da9_dX10_goesAlong_59.2.2.2.2.2.2.2.2.2.2.2.2.2.2.1
theorem dX10_goesAlong_88 : decode cX10_goesAlong 88 = .ok (.aload_n 0, 1) := da9_dX10_goesAlong_59.2.2.2.2.2.2.2.2.2.2.2.2.2.2.2
theorem da9_dX10_goesAlong_89 : (decode cX10_goesAlong 89 = .ok (.bipush 26, 2)) ∧ (decode cX10_goesAlong 91 = .ok (.invokevirtual 302, 3)) ∧ (decode cX10_goesAlong 94 = .ok (.ifCond .eq 30, 3)) ∧ (decode cX10_goesAlong 97 = .ok (.aload_n 0, 1)) ∧ (decode cX10_goesAlong 98 = .ok (.aload_n 0, 1)) ∧ (decode cX10_goesAlong 99 = .ok (.getfield 28, 3)) ∧ (decode cX10_goesAlong 102 = .ok (.sipush 2840, 3)) ∧ (decode cX10_goesAlong 105 = .ok (.aload_n 0, 1)) ∧ (decode cX10_goesAlong 106 = .ok (.getfield 278, 3)) ∧ (decode cX10_goesAlong 109 = .ok (.iadd, 1)) ∧ (decode cX10_goesAlong 110 = .ok (.iaload, 1)) ∧ (decode cX10_goesAlong 111 = .ok (.putfield 494, 3)) ∧ (decode cX10_goesAlong 114 = .ok (.aload_n 0, 1)) ∧ (decode cX10_goesAlong 115 = .ok (.dup, 1)) ∧ (decode cX10_goesAlong 116 = .ok (.getfield 278, 3)) ∧ (decode cX10_goesAlong 119 = .ok (.iconst 1, 1)) := by decide +kernel
theorem dX10_goesAlong_89 : decode cX10_goesAlong 89 = .ok (.bipush 26, 2) := da9_dX10_goesAlong_89.1
theorem dX10_goesAlong_91 : decode cX10_goesAlong 91 = .ok (.invokevirtual 302, 3) := da9_dX10_goesAlong_89.2.1
theorem dX10_goesAlong_94 : decode cX10_goesAlong 94 = .ok (.ifCond .eq 30, 3) := da9_dX10_goesAlong_89.2.2.1
theorem dX10_goesAlong_97 : decode cX10_goesAlong 97 = .ok (.aload_n 0, 1) := da9_dX10_goesAlong_89.2.2.2.1
theorem dX10_goesAlong_98 : decode cX10_goesAlong 98 = .ok (.aload_n 0, 1) := da9_dX10_goesAlong_89.2.2.2.2.1
theorem dX10_goesAlong_99 : decode cX10_goesAlong 99 = .ok (.getfield 28, 3) := da9_dX10_goesAlong_89.2.2.2.2.2.1
theorem dX10_goesAlong_102 : decode cX10_goesAlong 102 = .ok (.sipush 2840, 3) := da9_dX10_goesAlong_89.2.2.2.2.2.2.1
theorem dX10_goesAlong_105 : decode cX10_goesAlong 105 = .ok (.aload_n 0, 1) := da9_dX10_goesAlong_89.2.2.2.2.2.2.2.1
theorem dX10_goesAlong_106 : decode cX10_goesAlong 106 = .ok (.getfield 278, 3) := da9_dX10_goesAlong_89.2.2.2.2.2.2.2.2.1
theorem dX10_goesAlong_109 : decode cX10_goesAlong 109 = .ok (.iadd, 1) := da9_dX10_goesAlong_89.2.2.2.2.2.2.2.2.2.1
theorem dX10_goesAlong_110 : decode cX10_goesAlong 110 = .ok (.iaload, 1) := da9_dX10_goesAlong_89.2.2.2.2.2.2.2.2.2.2.1
theorem dX10_goesAlong_111 : decode cX10_goesAlong 111 = .ok (.putfield 494, 3) := da9_dX10_goesAlong_89.2.2.2.2.2.2.2.2.2.2.2.1
theorem dX10_goesAlong_114 : decode cX10_goesAlong 114 = .ok (.aload_n 0, 1) := da9_dX10_goesAlong_89.2.2.2.2.2.2.2.2.2.2.2.2.1
theorem dX10_goesAlong_115 : decode cX10_goesAlong 115 = .ok (.dup, 1) := da9_dX10_goesAlong_89.2.2.2.2.2.2.2.2.2.2.2.2.2.1
theorem dX10_goesAlong_116 : decode cX10_goesAlong 116 = .ok (.getfield 278, 3) := da9_dX10_goesAlong_89.2.2.2.2.2.2.2.2.2.2.2.2.2.2.1
theorem dX10_goesAlong_119 : decode cX10_goesAlong 119 = .ok (.iconst 1, 1) := da9_dX10_goesAlong_89.2.2.2.2.2.2.2.2.2.2.2.2.2.2.2
theorem da9_dX10_goesAlong_120 : (decode cX10_goesAlong 120 = .ok (.iadd, 1)) ∧ (decode cX10_goesAlong 121 = .ok (.putfield 278, 3)) ∧ (decode cX10_goesAlong 124 = .ok (.aload_n 0, 1)) ∧ (decode cX10_goesAlong 125 = .ok (.iconst 0, 1)) ∧ (decode cX10_goesAlong 126 = .ok (.putfield 288, 3)) ∧ (decode cX10_goesAlong 129 = .ok (.aload_n 0, 1)) ∧ (decode cX10_goesAlong 130 = .ok (.aload_n 0, 1)) ∧ (decode cX10_goesAlong 131 = .ok (.iconst 4, 1)) ∧ (decode cX10_goesAlong 132 = .ok (.invokevirtual 302, 3)) ∧ (decode cX10_goesAlong 135 = .ok (.ifCond .eq 11, 3)) ∧ (decode cX10_goesAlong 138 = .ok (.aload_n 0, 1)) ∧ (decode cX10_goesAlong 139 = .ok (.iload_n 2, 1)) ∧ (decode cX10_goesAlong 140 = .ok (.invokevirtual 332, 3)) ∧ (decode cX10_goesAlong 143 = .ok (.ifCond .eq 7, 3)) ∧ (decode cX10_goesAlong 146 = .ok (.iconst 1, 1)) ∧ (decode cX10_goesAlong 147 = .ok (.goto 4, 3)) := by decide +kernel
theorem dX10_goesAlong_120 : decode cX10_goesAlong 120 = .ok (.iadd, 1) := da9_dX10_goesAlong_120.1
theorem dX10_goesAlong_121 : decode cX10_goesAlong 121 = .ok (.putfield 278, 3) := da9_dX10_goesAlong_120.2.1
theorem dX10_goesAlong_124 : decode cX10_goesAlong 124 = .ok (.aload_n 0, 1) := da9_dX10_goesAlong_120.2.2.1
theorem dX10_goesAlong_125 : decode cX10_goesAlong 125 = .ok (.iconst 0, 1) := da9_dX10_goesAlong_120.2.2.2.1
theorem dX10_goesAlong_126 : decode cX10_goesAlong 126 = .ok (.putfield 288, 3) := da9_dX10_goesAlong_120.2.2.2.2.1
theorem dX10_goesAlong_129 : decode cX10_goesAlong 129 = .ok (.aload_n 0, 1) := da9_dX10_goesAlong_120.2.2.2.2.2.1
theorem dX10_goesAlong_130 : decode cX10_goesAlong 130 = .ok (.aload_n 0, 1) := da9_dX10_goesAlong_120.2.2.2.2.2.2.1
theorem dX10_goesAlong_131 : decode cX10_goesAlong 131 = .ok (.iconst 4, 1) := da9_dX10_goesAlong_120.2.2.2.2.2.2.2.1
theorem dX10_goesAlong_132 : decode cX10_goesAlong 132 = .ok (.invokevirtual 302, 3) := da9_dX10_goesAlong_120.2.2.2.2.2.2.2.2.1
theorem dX10_goesAlong_135 : decode cX10_goesAlong 135 = .ok (.ifCond .eq 11, 3) := da9_dX10_goesAlong_120.2.2.2.2.2.2.2.2.2.1
theorem dX10_goesAlong_138 : decode cX10_goesAlong 138 = .ok (.aload_n 0, 1) := da9_dX10_goesAlong_120.2.2.2.2.2.2.2.2.2.2.1
theorem dX10_goesAlong_139 : decode cX10_goesAlong 139 = .ok (.iload_n 2, 1) := da9_dX10_goesAlong_120.2.2.2.2.2.2.2.2.2.2.2.1
theorem dX10_goesAlong_140 : decode cX10_goesAlong 140 = .ok (.invokevirtual 332, 3) := da9_dX10_goesAlong_120.2.2.2.2.2.2.2.2.2.2.2.2.1
theorem dX10_goesAlong_143 : decode cX10_goesAlong 143 = .ok (.ifCond .eq 7, 3) := da9_dX10_goesAlong_120.2.2.2.2.2.2.2.2.2.2.2.2.2.1
theorem dX10_goesAlong_146 : decode cX10_goesAlong 146 = .ok (.iconst 1, 1) := da9_dX10_goesAlong_120.2.2.2.2.2.2.2.2.2.2.2.2.2.2.1
theorem dX10_goesAlong_147 : decode cX10_goesAlong 147 = .ok (.goto 4, 3) := da9_dX10_goesAlong_120.2.2.2.2.2.2.2.2.2.2.2.2.2.2.2
theorem da9_dX10_goesAlong_150 : (decode cX10_goesAlong 150 = .ok (.iconst 0, 1)) ∧ (decode cX10_goesAlong 151 = .ok (.putfield 497, 3)) ∧ (decode cX10_goesAlong 154 = .ok (.aload_n 0, 1)) ∧ (decode cX10_goesAlong 155 = .ok (.aload_n 0, 1)) ∧ (decode cX10_goesAlong 156 = .ok (.getfield 497, 3)) ∧ (decode cX10_goesAlong 159 = .ok (.ifCond .eq 14, 3)) ∧ (decode cX10_goesAlong 162 = .ok (.aload_n 0, 1)) ∧ (decode cX10_goesAlong 163 = .ok (.getfield 288, 3)) ∧ (decode cX10_goesAlong 166 = .ok (.ifCond .ne 7, 3)) ∧ (decode cX10_goesAlong 169 = .ok (.iconst 1, 1)) ∧ (decode cX10_goesAlong 170 = .ok (.goto 4, 3)) ∧ (decode cX10_goesAlong 173 = .ok (.iconst 0, 1)) ∧ (decode cX10_goesAlong 174 = .ok (.putfield 497, 3)) ∧ (decode cX10_goesAlong 177 = .ok (.aload_n 0, 1)) ∧ (decode cX10_goesAlong 178 = .ok (.dup, 1)) ∧ (decode cX10_goesAlong 179 = .ok (.getfield 278, 3)) := by decide +kernel
theorem dX10_goesAlong_150 : decode cX10_goesAlong 150 = .ok (.iconst 0, 1) := da9_dX10_goesAlong_150.1
theorem dX10_goesAlong_151 : decode cX10_goesAlong 151 = .ok (.putfield 497, 3) := da9_dX10_goesAlong_150.2.1
theorem dX10_goesAlong_154 : decode cX10_goesAlong 154 = .ok (.aload_n 0, 1) := da9_dX10_goesAlong_150.2.2.1
theorem dX10_goesAlong_155 : decode cX10_goesAlong 155 = .ok (.aload_n 0, 1) := da9_dX10_goesAlong_150.2.2.2.1
theorem dX10_goesAlong_156 : decode cX10_goesAlong 156 = .ok (.getfield 497, 3) := da9_dX10_goesAlong_150.2.2.2.2.1
theorem dX10_goesAlong_159 : decode cX10_goesAlong 159 = .ok (.ifCond .eq 14, 3) := da9_dX10_goesAlong_150.2.2.2.2.2.1
theorem dX10_goesAlong_162 : decode cX10_goesAlong 162 = .ok (.aload_n 0, 1) := da9_dX10_goesAlong_150.2.2.2.2.2.2.1
theorem dX10_goesAlong_163 : decode cX10_goesAlong 163 = .ok (.getfield 288, 3) := da9_dX10_goesAlong_150.2.2.2.2.2.2.2.1
theorem dX10_goesAlong_166 : decode cX10_goesAlong 166 = .ok (.ifCond .ne 7, 3) := da9_dX10_goesAlong_150.2.2.2.2.2.2.2.2.1
theorem dX10_goesAlong_169 : decode cX10_goesAlong 169 = .ok (.iconst 1, 1) := da9_dX10_goesAlong_150.2.2.2.2.2.2.2.2.2.1
theorem dX10_goesAlong_170 : decode cX10_goesAlong 170 = .ok (.goto 4, 3) := da9_dX10_goesAlong_150.2.2.2.2.2.2.2.2.2.2.1
theorem dX10_goesAlong_173 : decode cX10_goesAlong 173 = .ok (.iconst 0, 1) := da9_dX10_goesAlong_150.2.2.2.2.2.2.2.2.2.2.2.1
theorem dX10_goesAlong_174 : decode cX10_goesAlong 174 = .ok (.putfield 497, 3) := da9_dX10_goesAlong_150.2.2.2.2.2.2.2.2.2.2.2.2.1
theorem dX10_goesAlong_177 : decode cX10_goesAlong 177 = .ok (.aload_n 0, 1) := da9_dX10_goesAlong_150.2.2.2.2.2.2.2.2.2.2.2.2.2.1
theorem dX10_goesAlong_178 : decode cX10_goesAlong 178 = .ok (.dup, 1) := da9_dX10_goesAlong_150.2.2.2.2.2.2.2.2.2.2.2.2.2.2.1
theorem dX10_goesAlong_179 : decode cX10_goesAlong 179 = .ok (.getfield 278, 3) := da9_dX10_goesAlong_150.2.2.2.2.2.2.2.2.2.2.2.2.2.2.2
theorem da9_dX10_goesAlong_182 : (decode cX10_goesAlong 182 = .ok (.iconst 1, 1)) ∧ (decode cX10_goesAlong 183 = .ok (.iadd, 1)) ∧ (decode cX10_goesAlong 184 = .ok (.putfield 278, 3)) ∧ (decode cX10_goesAlong 187 = .ok (.return_, 1)) := by decide +kernel
theorem dX10_goesAlong_182 : decode cX10_goesAlong 182 = .ok (.iconst 1, 1) := da9_dX10_goesAlong_182.1
theorem dX10_goesAlong_183 : decode cX10_goesAlong 183 = .ok (.iadd, 1) := da9_dX10_goesAlong_182.2.1
theorem dX10_goesAlong_184 : decode cX10_goesAlong 184 = .ok (.putfield 278, 3) := da9_dX10_goesAlong_182.2.2.1
theorem dX10_goesAlong_187 : decode cX10_goesAlong 187 = .ok (.return_, 1) := da9_dX10_goesAlong_182.2.2.2
theorem da9_dX10_small_0 : (decode cX10_small 0 = .ok (.lload_n 0, 1)) ∧ (decode cX10_small 1 = .ok (.lconst 0, 1)) ∧ (decode cX10_small 2 = .ok (.lcmp, 1)) ∧ (decode cX10_small 3 = .ok (.ifCond .lt 11, 3)) ∧ (decode cX10_small 6 = .ok (.lload_n 0, 1)) ∧ (decode cX10_small 7 = .ok (.ldc2_w 500, 3)) ∧ (decode cX10_small 10 = .ok (.lcmp, 1)) ∧ (decode cX10_small 11 = .ok (.ifCond .le 7, 3)) ∧ (decode cX10_small 14 = .ok (.iconst (-1), 1)) ∧ (decode cX10_small 15 = .ok (.goto 5, 3)) ∧ (decode cX10_small 18 = .ok (.lload_n 0, 1)) ∧ (decode cX10_small 19 = .ok (.l2i, 1)) ∧ (decode cX10_small 20 = .ok (.ireturn, 1)) := by decide +kernel
theorem dX10_small_0 : decode cX10_small 0 = .ok (.lload_n 0, 1) := da9_dX10_small_0.1
theorem dX10_small_1 : decode cX10_small 1 = .ok (.lconst 0, 1) := da9_dX10_small_0.2.1
theorem dX10_small_2 : decode cX10_small 2 = .ok (.lcmp, 1) := da9_dX10_small_0.2.2.1
theorem dX10_small_3 : decode cX10_small 3 = .ok (.ifCond .lt 11, 3) := da9_dX10_small_0.2.2.2.1
theorem dX10_small_6 : decode cX10_small 6 = .ok (.lload_n 0, 1) := da9_dX10_small_0.2.2.2.2.1
theorem dX10_small_7 : decode cX10_small 7 = .ok (.ldc2_w 500, 3) := da9_dX10_small_0.2.2.2.2.2.1
theorem dX10_small_10 : decode cX10_small 10 = .ok (.lcmp, 1) := da9_dX10_small_0.2.2.2.2.2.2.1
theorem dX10_small_11 : decode cX10_small 11 = .ok (.ifCond .le 7, 3) := da9_dX10_small_0.2.2.2.2.2.2.2.1
theorem dX10_small_14 : decode cX10_small 14 = .ok (.iconst (-1), 1) := da9_dX10_small_0.2.2.2.2.2.2.2.2.1
theorem dX10_small_15 : decode cX10_small 15 = .ok (.goto 5, 3) := da9_dX10_small_0.2.2.2.2.2.2.2.2.2.1
theorem dX10_small_18 : decode cX10_small 18 = .ok (.lload_n 0, 1) := da9_dX10_small_0.2.2.2.2.2.2.2.2.2.2.1
theorem dX10_small_19 : decode cX10_small 19 = .ok (.l2i, 1) := da9_dX10_small_0.2.2.2.2.2.2.2.2.2.2.2.1
theorem dX10_small_20 : decode cX10_small 20 = .ok (.ireturn, 1) := da9_dX10_small_0.2.2.2.2.2.2.2.2.2.2.2.2
set_option maxRecDepth 20000 in
theorem ggX10_obeys_X10_small : GoodIn wsX10_obeys wsX10_small := goodIn_r _ [7, 8] rfl (by decide +kernel)
set_option maxRecDepth 20000 in
theorem gX10_obeys_X10_small : GoodIn wsX10_obeys (va_wsS RX10 502 yX10_small wsX10_small) := goodIn_app (goodIn_of _ (by decide +kernel)) ggX10_obeys_X10_small
set_option maxRecDepth 20000 in
theorem ggX10_obeys_X10_rightsKept : GoodIn wsX10_obeys wsX10_rightsKept := goodIn_r _ [12, 13, 14, 15, 6, 16, 17, 18, 19, 20, 21, 22, 23, 24, 25, 26, 27, 28, 29, 30, 159, 160, 161, 162, 163, 164, 165, 166, 167, 168, 169, 170, 171, 172, 173, 174, 175, 176, 177, 178, 179, 180, 181, 182, 183, 184, 185, 186, 187, 188, 189, 190, 191, 192, 193, 194, 195, 196, 197, 198, 199, 200, 201, 202, 203, 204, 205, 206, 207, 208, 209, 210, 211, 212, 213, 214] rfl (by decide +kernel)
set_option maxRecDepth 20000 in
theorem gX10_obeys_X10_rightsKept : GoodIn wsX10_obeys (wsV RX10 371 RX10 yX10_rightsKept wsX10_rightsKept) := goodIn_app (goodIn_of _ (by decide +kernel)) ggX10_obeys_X10_rightsKept
set_option maxRecDepth 20000 in
theorem ggX10_obeys_X10_swapsKept : GoodIn wsX10_obeys wsX10_swapsKept := goodIn_r _ [34, 13, 14, 15, 6, 16, 17, 18, 19, 20, 21, 22, 23, 24, 25, 26, 27, 28, 29, 30, 35, 36, 37, 38, 159, 160, 161, 162, 163, 164, 165, 166, 167, 168, 169, 170, 171, 172, 173, 174, 175, 176, 177, 178, 179, 180, 181, 182, 183, 184, 185, 186, 187, 188, 189, 190, 191, 192, 193, 194, 195, 196, 197, 198, 199, 200, 201, 202, 203, 204, 205, 206, 207, 208, 209, 210, 211, 212, 213, 214] rfl (by decide +kernel)
set_option maxRecDepth 20000 in
theorem gX10_obeys_X10_swapsKept : GoodIn wsX10_obeys (wsV RX10 374 RX10 yX10_swapsKept wsX10_swapsKept) := goodIn_app (goodIn_of _ (by decide +kernel)) ggX10_obeys_X10_swapsKept
set_option maxRecDepth 20000 in
theorem ggX10_obeys_X10_passesKept : GoodIn wsX10_obeys wsX10_passesKept := goodIn_r _ [42, 13, 25, 26, 27, 6, 28, 29, 30, 43, 44, 45, 46, 47, 21, 22, 23, 24, 48, 49, 50, 51, 52, 53, 54, 55, 56, 57, 58, 59, 60, 61, 62, 63, 64, 65, 66, 67, 68, 69, 70, 71, 72, 73, 74, 75, 76, 77, 78, 79, 80, 81, 82, 83, 84, 85, 86, 87, 88, 89, 90, 91, 92, 93, 94, 95, 96, 97, 98, 99, 100, 101, 102, 103, 3, 17, 18, 19, 20, 14, 15, 16, 104, 105, 106, 107, 108, 109, 110, 111, 112, 113, 114, 115, 116, 117, 118, 119, 120, 121, 122, 123, 124, 125, 126, 127, 128, 129, 130, 131, 159, 160, 161, 162, 163, 164, 165, 166, 167, 168, 169, 170, 171, 172, 173, 174, 175, 176, 177, 178, 179, 180, 181, 182, 183, 184, 185, 186, 187, 188, 189, 190, 191, 192, 193, 194, 195, 196, 197, 198, 199, 200, 201, 202, 203, 204, 205, 206, 207, 208, 209, 210, 211, 212, 213, 214] rfl (by decide +kernel)
set_option maxRecDepth 20000 in
theorem gX10_obeys_X10_passesKept : GoodIn wsX10_obeys (wsV RX10 377 RX10 yX10_passesKept wsX10_passesKept) := goodIn_app (goodIn_of _ (by decide +kernel)) ggX10_obeys_X10_passesKept
set_option maxRecDepth 20000 in
theorem ggX10_obeys_X10_turnsKept : GoodIn wsX10_obeys wsX10_turnsKept := goodIn_r _ [135, 14, 15, 6, 16, 136, 137, 138, 139, 13, 21, 22, 23, 24, 140, 141, 142, 143, 144, 145, 146, 147, 56, 57, 58, 59, 60, 61, 62, 63, 64, 65, 66, 67, 68, 69, 70, 71, 72, 73, 74, 75, 76, 77, 78, 79, 80, 81, 82, 83, 84, 85, 86, 87, 88, 89, 90, 91, 92, 93, 94, 95, 96, 97, 98, 99, 100, 101, 102, 103, 3, 17, 18, 19, 20, 104, 105, 106, 107, 108, 109, 110, 111, 112, 113, 114, 115, 116, 117, 118, 119, 120, 121, 122, 123, 124, 125, 126, 127, 128, 129, 130, 131, 25, 26, 27, 28, 29, 30, 148, 149, 150, 151, 152, 153, 154, 155, 35, 36, 37, 38, 156, 157, 158, 159, 160, 161, 162, 163, 164, 165, 166, 167, 168, 169, 170, 171, 172, 173, 174, 175, 176, 177, 178, 179, 180, 181, 182, 183, 184, 185, 186, 187, 188, 189, 190, 191, 192, 193, 194, 195, 196, 197, 198, 199, 200, 201, 202, 203, 204, 205, 206, 207, 208, 209, 210, 211, 212, 213, 214] rfl (by decide +kernel)
set_option maxRecDepth 20000 in
theorem gX10_obeys_X10_turnsKept : GoodIn wsX10_obeys (wsV RX10 365 RX10 yX10_turnsKept wsX10_turnsKept) := goodIn_app (goodIn_of _ (by decide +kernel)) ggX10_obeys_X10_turnsKept
theorem da9_dX10_obeys_0 : (decode cX10_obeys 0 = .ok (.aload_n 0, 1)) ∧ (decode cX10_obeys 1 = .ok (.getfield 484, 3)) ∧ (decode cX10_obeys 4 = .ok (.tableswitch 57 23 25 #[28, 40, 52], 28)) ∧ (decode cX10_obeys 32 = .ok (.aload_n 0, 1)) ∧ (decode cX10_obeys 33 = .ok (.aload_n 0, 1)) ∧ (decode cX10_obeys 34 = .ok (.getfield 487, 3)) ∧ (decode cX10_obeys 37 = .ok (.invokestatic 502, 3)) ∧ (decode cX10_obeys 40 = .ok (.invokevirtual 371, 3)) ∧ (decode cX10_obeys 43 = .ok (.ireturn, 1)) ∧ (decode cX10_obeys 44 = .ok (.aload_n 0, 1)) ∧ (decode cX10_obeys 45 = .ok (.aload_n 0, 1)) ∧ (decode cX10_obeys 46 = .ok (.getfield 487, 3)) ∧ (decode cX10_obeys 49 = .ok (.invokestatic 502, 3)) ∧ (decode cX10_obeys 52 = .ok (.invokevirtual 374, 3)) ∧ (decode cX10_obeys 55 = .ok (.ireturn, 1)) ∧ (decode cX10_obeys 56 = .ok (.aload_n 0, 1)) := by decide +kernel
theorem dX10_obeys_0 : decode cX10_obeys 0 = .ok (.aload_n 0, 1) := da9_dX10_obeys_0.1
theorem dX10_obeys_1 : decode cX10_obeys 1 = .ok (.getfield 484, 3) := da9_dX10_obeys_0.2.1
theorem dX10_obeys_4 : decode cX10_obeys 4 = .ok (.tableswitch 57 23 25 #[28, 40, 52], 28) := da9_dX10_obeys_0.2.2.1
theorem dX10_obeys_32 : decode cX10_obeys 32 = .ok (.aload_n 0, 1) := da9_dX10_obeys_0.2.2.2.1
theorem dX10_obeys_33 : decode cX10_obeys 33 = .ok (.aload_n 0, 1) := da9_dX10_obeys_0.2.2.2.2.1
theorem dX10_obeys_34 : decode cX10_obeys 34 = .ok (.getfield 487, 3) := da9_dX10_obeys_0.2.2.2.2.2.1
theorem dX10_obeys_37 : decode cX10_obeys 37 = .ok (.invokestatic 502, 3) := da9_dX10_obeys_0.2.2.2.2.2.2.1
theorem dX10_obeys_40 : decode cX10_obeys 40 = .ok (.invokevirtual 371, 3) := da9_dX10_obeys_0.2.2.2.2.2.2.2.1
theorem dX10_obeys_43 : decode cX10_obeys 43 = .ok (.ireturn, 1) := da9_dX10_obeys_0.2.2.2.2.2.2.2.2.1
theorem dX10_obeys_44 : decode cX10_obeys 44 = .ok (.aload_n 0, 1) := da9_dX10_obeys_0.2.2.2.2.2.2.2.2.2.1
theorem dX10_obeys_45 : decode cX10_obeys 45 = .ok (.aload_n 0, 1) := da9_dX10_obeys_0.2.2.2.2.2.2.2.2.2.2.1
theorem dX10_obeys_46 : decode cX10_obeys 46 = .ok (.getfield 487, 3) := da9_dX10_obeys_0.2.2.2.2.2.2.2.2.2.2.2.1
theorem dX10_obeys_49 : decode cX10_obeys 49 = .ok (.invokestatic 502, 3) := da9_dX10_obeys_0.2.2.2.2.2.2.2.2.2.2.2.2.1
theorem dX10_obeys_52 : decode cX10_obeys 52 = .ok (.invokevirtual 374, 3) := da9_dX10_obeys_0.2.2.2.2.2.2.2.2.2.2.2.2.2.1
theorem dX10_obeys_55 : decode cX10_obeys 55 = .ok (.ireturn, 1) := da9_dX10_obeys_0.2.2.2.2.2.2.2.2.2.2.2.2.2.2.1
theorem dX10_obeys_56 : decode cX10_obeys 56 = .ok (.aload_n 0, 1) := da9_dX10_obeys_0.2.2.2.2.2.2.2.2.2.2.2.2.2.2.2
theorem da9_dX10_obeys_57 : (decode cX10_obeys 57 = .ok (.invokevirtual 377, 3)) ∧ (decode cX10_obeys 60 = .ok (.ireturn, 1)) ∧ (decode cX10_obeys 61 = .ok (.aload_n 0, 1)) ∧ (decode cX10_obeys 62 = .ok (.aload_n 0, 1)) ∧ (decode cX10_obeys 63 = .ok (.getfield 487, 3)) ∧ (decode cX10_obeys 66 = .ok (.invokestatic 502, 3)) ∧ (decode cX10_obeys 69 = .ok (.invokevirtual 365, 3)) ∧ (decode cX10_obeys 72 = .ok (.istore_n 1, 1)) ∧ (decode cX10_obeys 73 = .ok (.aload_n 0, 1)) ∧ (decode cX10_obeys 74 = .ok (.iload_n 1, 1)) ∧ (decode cX10_obeys 75 = .ok (.ifCond .ge 10, 3)) ∧ (decode cX10_obeys 78 = .ok (.aload_n 0, 1)) ∧ (decode cX10_obeys 79 = .ok (.getfield 317, 3)) ∧ (decode cX10_obeys 82 = .ok (.goto 4, 3)) ∧ (decode cX10_obeys 85 = .ok (.iload_n 1, 1)) ∧ (decode cX10_obeys 86 = .ok (.putfield 317, 3)) := by decide +kernel
theorem dX10_obeys_57 : decode cX10_obeys 57 = .ok (.invokevirtual 377, 3) := da9_dX10_obeys_57.1
theorem dX10_obeys_60 : decode cX10_obeys 60 = .ok (.ireturn, 1) := da9_dX10_obeys_57.2.1
theorem dX10_obeys_61 : decode cX10_obeys 61 = .ok (.aload_n 0, 1) := da9_dX10_obeys_57.2.2.1
theorem dX10_obeys_62 : decode cX10_obeys 62 = .ok (.aload_n 0, 1) := da9_dX10_obeys_57.2.2.2.1
theorem dX10_obeys_63 : decode cX10_obeys 63 = .ok (.getfield 487, 3) := da9_dX10_obeys_57.2.2.2.2.1
theorem dX10_obeys_66 : decode cX10_obeys 66 = .ok (.invokestatic 502, 3) := da9_dX10_obeys_57.2.2.2.2.2.1
theorem dX10_obeys_69 : decode cX10_obeys 69 = .ok (.invokevirtual 365, 3) := da9_dX10_obeys_57.2.2.2.2.2.2.1
theorem dX10_obeys_72 : decode cX10_obeys 72 = .ok (.istore_n 1, 1) := da9_dX10_obeys_57.2.2.2.2.2.2.2.1
theorem dX10_obeys_73 : decode cX10_obeys 73 = .ok (.aload_n 0, 1) := da9_dX10_obeys_57.2.2.2.2.2.2.2.2.1
theorem dX10_obeys_74 : decode cX10_obeys 74 = .ok (.iload_n 1, 1) := da9_dX10_obeys_57.2.2.2.2.2.2.2.2.2.1
theorem dX10_obeys_75 : decode cX10_obeys 75 = .ok (.ifCond .ge 10, 3) := da9_dX10_obeys_57.2.2.2.2.2.2.2.2.2.2.1
theorem dX10_obeys_78 : decode cX10_obeys 78 = .ok (.aload_n 0, 1) := da9_dX10_obeys_57.2.2.2.2.2.2.2.2.2.2.2.1
theorem dX10_obeys_79 : decode cX10_obeys 79 = .ok (.getfield 317, 3) := da9_dX10_obeys_57.2.2.2.2.2.2.2.2.2.2.2.2.1
theorem dX10_obeys_82 : decode cX10_obeys 82 = .ok (.goto 4, 3) := da9_dX10_obeys_57.2.2.2.2.2.2.2.2.2.2.2.2.2.1
theorem dX10_obeys_85 : decode cX10_obeys 85 = .ok (.iload_n 1, 1) := da9_dX10_obeys_57.2.2.2.2.2.2.2.2.2.2.2.2.2.2.1
theorem dX10_obeys_86 : decode cX10_obeys 86 = .ok (.putfield 317, 3) := da9_dX10_obeys_57.2.2.2.2.2.2.2.2.2.2.2.2.2.2.2
theorem da9_dX10_obeys_89 : (decode cX10_obeys 89 = .ok (.iload_n 1, 1)) ∧ (decode cX10_obeys 90 = .ok (.ireturn, 1)) := by decide +kernel
theorem dX10_obeys_89 : decode cX10_obeys 89 = .ok (.iload_n 1, 1) := da9_dX10_obeys_89.1
theorem dX10_obeys_90 : decode cX10_obeys 90 = .ok (.ireturn, 1) := da9_dX10_obeys_89.2
set_option maxRecDepth 20000 in
theorem ggX10_runs_X10_goesAlong : GoodIn wsX10_runs wsX10_goesAlong := goodIn_r _ [11, 12, 13, 6, 2, 14, 15, 16, 4, 1, 17, 3, 18, 19, 20, 10, 21, 22, 23, 24, 25, 26, 27, 28, 29, 30, 31, 32, 33, 34, 35, 36, 37, 38, 39, 40, 41, 42, 43, 44, 45, 46, 47, 5, 48, 49, 50, 51, 52, 53, 54, 55, 56, 57, 58, 59, 60, 61, 62, 63, 64, 65, 66, 67, 68, 69, 70, 71, 72, 73, 74, 75, 76, 77, 78, 79, 80, 81, 82, 83, 84, 85, 86, 87, 171, 172, 173, 174, 175, 176, 177, 178, 179, 180, 181, 182, 183, 184, 185, 186, 187, 188, 189, 190, 191, 192, 193, 194, 195, 196, 197, 198, 199, 200, 201, 202, 203, 204, 205, 206, 207, 208, 209, 210, 211, 212, 213, 214, 215, 216, 217, 218, 219, 220, 221, 222, 223, 224, 225, 226] rfl (by decide +kernel)
set_option maxRecDepth 20000 in
theorem gX10_runs_X10_goesAlong : GoodIn wsX10_runs (wsV RX10 506 RX10 yX10_goesAlong wsX10_goesAlong) := goodIn_app (goodIn_of _ (by decide +kernel)) ggX10_runs_X10_goesAlong
set_option maxRecDepth 20000 in
theorem ggX10_runs_X10_obeys : GoodIn wsX10_runs wsX10_obeys := goodIn_r _ [91, 14, 16, 48, 92, 93, 10, 94, 95, 96, 97, 98, 99, 17, 57, 58, 59, 49, 50, 51, 52, 53, 54, 55, 56, 100, 101, 102, 103, 104, 105, 106, 107, 108, 109, 110, 111, 112, 113, 114, 115, 116, 117, 118, 119, 120, 121, 122, 123, 124, 125, 126, 127, 128, 129, 130, 39, 131, 132, 133, 134, 135, 136, 137, 138, 139, 140, 141, 142, 12, 2, 13, 15, 143, 18, 19, 20, 21, 22, 23, 24, 25, 26, 27, 28, 29, 30, 31, 32, 33, 34, 35, 36, 37, 38, 40, 41, 42, 43, 44, 45, 46, 47, 5, 60, 61, 62, 63, 64, 65, 66, 67, 68, 69, 70, 71, 72, 73, 74, 75, 76, 77, 78, 79, 80, 81, 82, 83, 84, 85, 86, 87, 144, 145, 146, 147, 148, 149, 150, 151, 152, 153, 154, 155, 156, 157, 158, 159, 160, 161, 162, 163, 164, 165, 166, 167, 168, 169, 170, 171, 172, 173, 174, 175, 176, 177, 178, 179, 180, 181, 182, 183, 184, 185, 186, 187, 188, 189, 190, 191, 192, 193, 194, 195, 196, 197, 198, 199, 200, 201, 202, 203, 204, 205, 206, 207, 208, 209, 210, 211, 212, 213, 214, 215, 216, 217, 218, 219, 220, 221, 222, 223, 224, 225, 226] rfl (by decide +kernel)
set_option maxRecDepth 20000 in
theorem gX10_runs_X10_obeys : GoodIn wsX10_runs (wsV RX10 510 RX10 yX10_obeys wsX10_obeys) := goodIn_app (goodIn_of _ (by decide +kernel)) ggX10_runs_X10_obeys
theorem da9_dX10_runs_0 : (decode cX10_runs 0 = .ok (.aload_n 0, 1)) ∧ (decode cX10_runs 1 = .ok (.iload_n 1, 1)) ∧ (decode cX10_runs 2 = .ok (.iconst 0, 1)) ∧ (decode cX10_runs 3 = .ok (.invokevirtual 506, 3)) ∧ (decode cX10_runs 6 = .ok (.aload_n 0, 1)) ∧ (decode cX10_runs 7 = .ok (.getfield 494, 3)) ∧ (decode cX10_runs 10 = .ok (.istore_n 2, 1)) ∧ (decode cX10_runs 11 = .ok (.aload_n 0, 1)) ∧ (decode cX10_runs 12 = .ok (.getfield 278, 3)) ∧ (decode cX10_runs 15 = .ok (.istore_n 3, 1)) ∧ (decode cX10_runs 16 = .ok (.iconst 0, 1)) ∧ (decode cX10_runs 17 = .ok (.istore 4, 2)) ∧ (decode cX10_runs 19 = .ok (.iload 4, 2)) ∧ (decode cX10_runs 21 = .ok (.iload_n 2, 1)) ∧ (decode cX10_runs 22 = .ok (.if_icmp .ge 51, 3)) ∧ (decode cX10_runs 25 = .ok (.aload_n 0, 1)) := by decide +kernel
theorem dX10_runs_0 : decode cX10_runs 0 = .ok (.aload_n 0, 1) := da9_dX10_runs_0.1
theorem dX10_runs_1 : decode cX10_runs 1 = .ok (.iload_n 1, 1) := da9_dX10_runs_0.2.1
theorem dX10_runs_2 : decode cX10_runs 2 = .ok (.iconst 0, 1) := da9_dX10_runs_0.2.2.1
theorem dX10_runs_3 : decode cX10_runs 3 = .ok (.invokevirtual 506, 3) := da9_dX10_runs_0.2.2.2.1
theorem dX10_runs_6 : decode cX10_runs 6 = .ok (.aload_n 0, 1) := da9_dX10_runs_0.2.2.2.2.1
theorem dX10_runs_7 : decode cX10_runs 7 = .ok (.getfield 494, 3) := da9_dX10_runs_0.2.2.2.2.2.1
theorem dX10_runs_10 : decode cX10_runs 10 = .ok (.istore_n 2, 1) := da9_dX10_runs_0.2.2.2.2.2.2.1
theorem dX10_runs_11 : decode cX10_runs 11 = .ok (.aload_n 0, 1) := da9_dX10_runs_0.2.2.2.2.2.2.2.1
theorem dX10_runs_12 : decode cX10_runs 12 = .ok (.getfield 278, 3) := da9_dX10_runs_0.2.2.2.2.2.2.2.2.1
theorem dX10_runs_15 : decode cX10_runs 15 = .ok (.istore_n 3, 1) := da9_dX10_runs_0.2.2.2.2.2.2.2.2.2.1
theorem dX10_runs_16 : decode cX10_runs 16 = .ok (.iconst 0, 1) := da9_dX10_runs_0.2.2.2.2.2.2.2.2.2.2.1
theorem dX10_runs_17 : decode cX10_runs 17 = .ok (.istore 4, 2) := da9_dX10_runs_0.2.2.2.2.2.2.2.2.2.2.2.1
theorem dX10_runs_19 : decode cX10_runs 19 = .ok (.iload 4, 2) := da9_dX10_runs_0.2.2.2.2.2.2.2.2.2.2.2.2.1
theorem dX10_runs_21 : decode cX10_runs 21 = .ok (.iload_n 2, 1) := da9_dX10_runs_0.2.2.2.2.2.2.2.2.2.2.2.2.2.1
theorem dX10_runs_22 : decode cX10_runs 22 = .ok (.if_icmp .ge 51, 3) := da9_dX10_runs_0.2.2.2.2.2.2.2.2.2.2.2.2.2.2.1
theorem dX10_runs_25 : decode cX10_runs 25 = .ok (.aload_n 0, 1) := da9_dX10_runs_0.2.2.2.2.2.2.2.2.2.2.2.2.2.2.2
theorem da9_dX10_runs_26 : (decode cX10_runs 26 = .ok (.iload_n 1, 1)) ∧ (decode cX10_runs 27 = .ok (.iconst 1, 1)) ∧ (decode cX10_runs 28 = .ok (.invokevirtual 506, 3)) ∧ (decode cX10_runs 31 = .ok (.aload_n 0, 1)) ∧ (decode cX10_runs 32 = .ok (.getfield 497, 3)) ∧ (decode cX10_runs 35 = .ok (.ifCond .ne 6, 3)) ∧ (decode cX10_runs 38 = .ok (.goto 29, 3)) ∧ (decode cX10_runs 41 = .ok (.aload_n 0, 1)) ∧ (decode cX10_runs 42 = .ok (.getfield 491, 3)) ∧ (decode cX10_runs 45 = .ok (.ifCond .eq 10, 3)) ∧ (decode cX10_runs 48 = .ok (.aload_n 0, 1)) ∧ (decode cX10_runs 49 = .ok (.invokevirtual 510, 3)) ∧ (decode cX10_runs 52 = .ok (.ifCond .ge 5, 3)) ∧ (decode cX10_runs 55 = .ok (.iconst 0, 1)) ∧ (decode cX10_runs 56 = .ok (.ireturn, 1)) ∧ (decode cX10_runs 57 = .ok (.aload_n 0, 1)) := by decide +kernel
theorem dX10_runs_26 : decode cX10_runs 26 = .ok (.iload_n 1, 1) := da9_dX10_runs_26.1
theorem dX10_runs_27 : decode cX10_runs 27 = .ok (.iconst 1, 1) := da9_dX10_runs_26.2.1
theorem dX10_runs_28 : decode cX10_runs 28 = .ok (.invokevirtual 506, 3) := da9_dX10_runs_26.2.2.1
theorem dX10_runs_31 : decode cX10_runs 31 = .ok (.aload_n 0, 1) := da9_dX10_runs_26.2.2.2.1
theorem dX10_runs_32 : decode cX10_runs 32 = .ok (.getfield 497, 3) := da9_dX10_runs_26.2.2.2.2.1
theorem dX10_runs_35 : decode cX10_runs 35 = .ok (.ifCond .ne 6, 3) := da9_dX10_runs_26.2.2.2.2.2.1
theorem dX10_runs_38 : decode cX10_runs 38 = .ok (.goto 29, 3) := da9_dX10_runs_26.2.2.2.2.2.2.1
theorem dX10_runs_41 : decode cX10_runs 41 = .ok (.aload_n 0, 1) := da9_dX10_runs_26.2.2.2.2.2.2.2.1
theorem dX10_runs_42 : decode cX10_runs 42 = .ok (.getfield 491, 3) := da9_dX10_runs_26.2.2.2.2.2.2.2.2.1
theorem dX10_runs_45 : decode cX10_runs 45 = .ok (.ifCond .eq 10, 3) := da9_dX10_runs_26.2.2.2.2.2.2.2.2.2.1
theorem dX10_runs_48 : decode cX10_runs 48 = .ok (.aload_n 0, 1) := da9_dX10_runs_26.2.2.2.2.2.2.2.2.2.2.1
theorem dX10_runs_49 : decode cX10_runs 49 = .ok (.invokevirtual 510, 3) := da9_dX10_runs_26.2.2.2.2.2.2.2.2.2.2.2.1
theorem dX10_runs_52 : decode cX10_runs 52 = .ok (.ifCond .ge 5, 3) := da9_dX10_runs_26.2.2.2.2.2.2.2.2.2.2.2.2.1
theorem dX10_runs_55 : decode cX10_runs 55 = .ok (.iconst 0, 1) := da9_dX10_runs_26.2.2.2.2.2.2.2.2.2.2.2.2.2.1
theorem dX10_runs_56 : decode cX10_runs 56 = .ok (.ireturn, 1) := da9_dX10_runs_26.2.2.2.2.2.2.2.2.2.2.2.2.2.2.1
theorem dX10_runs_57 : decode cX10_runs 57 = .ok (.aload_n 0, 1) := da9_dX10_runs_26.2.2.2.2.2.2.2.2.2.2.2.2.2.2.2
theorem da9_dX10_runs_58 : (decode cX10_runs 58 = .ok (.dup, 1)) ∧ (decode cX10_runs 59 = .ok (.getfield 314, 3)) ∧ (decode cX10_runs 62 = .ok (.iconst 1, 1)) ∧ (decode cX10_runs 63 = .ok (.iadd, 1)) ∧ (decode cX10_runs 64 = .ok (.putfield 314, 3)) ∧ (decode cX10_runs 67 = .ok (.iinc 4 1, 3)) ∧ (decode cX10_runs 70 = .ok (.goto (-51), 3)) ∧ (decode cX10_runs 73 = .ok (.aload_n 0, 1)) ∧ (decode cX10_runs 74 = .ok (.iload_n 3, 1)) ∧ (decode cX10_runs 75 = .ok (.putfield 475, 3)) ∧ (decode cX10_runs 78 = .ok (.iconst 1, 1)) ∧ (decode cX10_runs 79 = .ok (.ireturn, 1)) := by decide +kernel
theorem dX10_runs_58 : decode cX10_runs 58 = .ok (.dup, 1) := da9_dX10_runs_58.1
theorem dX10_runs_59 : decode cX10_runs 59 = .ok (.getfield 314, 3) := da9_dX10_runs_58.2.1
theorem dX10_runs_62 : decode cX10_runs 62 = .ok (.iconst 1, 1) := da9_dX10_runs_58.2.2.1
theorem dX10_runs_63 : decode cX10_runs 63 = .ok (.iadd, 1) := da9_dX10_runs_58.2.2.2.1
theorem dX10_runs_64 : decode cX10_runs 64 = .ok (.putfield 314, 3) := da9_dX10_runs_58.2.2.2.2.1
theorem dX10_runs_67 : decode cX10_runs 67 = .ok (.iinc 4 1, 3) := da9_dX10_runs_58.2.2.2.2.2.1
theorem dX10_runs_70 : decode cX10_runs 70 = .ok (.goto (-51), 3) := da9_dX10_runs_58.2.2.2.2.2.2.1
theorem dX10_runs_73 : decode cX10_runs 73 = .ok (.aload_n 0, 1) := da9_dX10_runs_58.2.2.2.2.2.2.2.1
theorem dX10_runs_74 : decode cX10_runs 74 = .ok (.iload_n 3, 1) := da9_dX10_runs_58.2.2.2.2.2.2.2.2.1
theorem dX10_runs_75 : decode cX10_runs 75 = .ok (.putfield 475, 3) := da9_dX10_runs_58.2.2.2.2.2.2.2.2.2.1
theorem dX10_runs_78 : decode cX10_runs 78 = .ok (.iconst 1, 1) := da9_dX10_runs_58.2.2.2.2.2.2.2.2.2.2.1
theorem dX10_runs_79 : decode cX10_runs 79 = .ok (.ireturn, 1) := da9_dX10_runs_58.2.2.2.2.2.2.2.2.2.2.2
