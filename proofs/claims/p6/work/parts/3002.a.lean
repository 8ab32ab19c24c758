set_option maxRecDepth 20000 in
theorem ggX10_sumOf_X10_termOf : GoodIn wsX10_sumOf wsX10_termOf := goodIn_r _ [57, 1, 21, 58, 59, 60, 5, 6, 7, 8, 9, 10, 11, 12, 13, 14, 15, 16, 17, 18, 19, 20, 22, 23, 24, 25, 26, 27, 28, 29, 30, 31, 32, 33, 34, 35, 36, 37, 38, 39, 40, 41, 42, 43, 44, 45, 46, 47, 48, 49, 50, 51, 52, 53, 54, 55, 56, 0, 2, 3, 4, 61, 62, 63, 64, 65, 66, 67, 68, 69, 70, 71, 72, 73, 74, 75, 76, 77, 78, 79, 80, 81, 82, 83, 84, 85, 86, 87, 88, 89, 90, 91, 92, 93, 94, 95, 96, 97, 98, 99, 100, 101, 102, 103, 104, 105, 106, 107, 108, 109, 110, 111, 112, 113, 114, 115, 116] rfl (by decide +kernel)
set_option maxRecDepth 20000 in
theorem gX10_sumOf_X10_termOf : GoodIn wsX10_sumOf (wsV RX10 291 RX10 yX10_termOf wsX10_termOf) := goodIn_app (goodIn_of _ (by decide +kernel)) ggX10_sumOf_X10_termOf
set_option maxRecDepth 20000 in
theorem ggX10_sumOf_X10_codeAt : GoodIn wsX10_sumOf wsX10_codeAt := goodIn_r _ [9, 10, 11, 61, 62, 63, 64, 65, 66, 67, 68, 69, 70, 71, 72, 73, 74, 75, 76, 77, 78, 79, 80, 81, 82, 83, 84, 85, 86, 87, 88, 89, 90, 91, 92, 93, 94, 95, 96, 97, 98, 99, 100, 101, 102, 103, 104, 105, 106, 107, 108, 109, 110, 111, 112, 113, 114, 115, 116] rfl (by decide +kernel)
set_option maxRecDepth 20000 in
theorem gX10_sumOf_X10_codeAt : GoodIn wsX10_sumOf (wsV RX10 281 RX10 yX10_codeAt wsX10_codeAt) := goodIn_app (goodIn_of _ (by decide +kernel)) ggX10_sumOf_X10_codeAt
set_option maxRecDepth 20000 in
theorem ggX10_sumOf_X10_sign : GoodIn wsX10_sumOf wsX10_sign := goodIn_r _ [14] rfl (by decide +kernel)
set_option maxRecDepth 20000 in
theorem gX10_sumOf_X10_sign : GoodIn wsX10_sumOf (va_wsS RX10 237 yX10_sign wsX10_sign) := goodIn_app (goodIn_of _ (by decide +kernel)) ggX10_sumOf_X10_sign
set_option maxRecDepth 20000 in
theorem ggX10_sumOf_X10_bounded : GoodIn wsX10_sumOf wsX10_bounded := goodIn_r _ [18, 19, 20, 21, 61, 62, 63, 64, 65, 66, 67, 68, 69, 70, 71, 72, 73, 74, 75, 76, 77, 78, 79, 80, 81, 82, 83, 84, 85, 86, 87, 88, 89, 90, 91, 92, 93, 94, 95, 96, 97, 98, 99, 100, 101, 102, 103, 104, 105, 106, 107, 108, 109, 110, 111, 112, 113, 114, 115, 116] rfl (by decide +kernel)
set_option maxRecDepth 20000 in
theorem gX10_sumOf_X10_bounded : GoodIn wsX10_sumOf (wsV RX10 295 RX10 yX10_bounded wsX10_bounded) := goodIn_app (goodIn_of _ (by decide +kernel)) ggX10_sumOf_X10_bounded
theorem da9_dX10_sumOf_0 : (decode cX10_sumOf 0 = .ok (.aload_n 0, 1)) ∧ (decode cX10_sumOf 1 = .ok (.iload_n 1, 1)) ∧ (decode cX10_sumOf 2 = .ok (.invokevirtual 291, 3)) ∧ (decode cX10_sumOf 5 = .ok (.lstore_n 2, 1)) ∧ (decode cX10_sumOf 6 = .ok (.aload_n 0, 1)) ∧ (decode cX10_sumOf 7 = .ok (.aload_n 0, 1)) ∧ (decode cX10_sumOf 8 = .ok (.getfield 278, 3)) ∧ (decode cX10_sumOf 11 = .ok (.invokevirtual 281, 3)) ∧ (decode cX10_sumOf 14 = .ok (.bipush 43, 2)) ∧ (decode cX10_sumOf 16 = .ok (.invokestatic 237, 3)) ∧ (decode cX10_sumOf 19 = .ok (.if_icmp .eq 19, 3)) ∧ (decode cX10_sumOf 22 = .ok (.aload_n 0, 1)) ∧ (decode cX10_sumOf 23 = .ok (.aload_n 0, 1)) ∧ (decode cX10_sumOf 24 = .ok (.getfield 278, 3)) ∧ (decode cX10_sumOf 27 = .ok (.invokevirtual 281, 3)) ∧ (decode cX10_sumOf 30 = .ok (.bipush 45, 2)) := by decide +kernel
theorem dX10_sumOf_0 : decode cX10_sumOf 0 = .ok (.aload_n 0, 1) := da9_dX10_sumOf_0.1
theorem dX10_sumOf_1 : decode cX10_sumOf 1 = .ok (.iload_n 1, 1) := da9_dX10_sumOf_0.2.1
theorem dX10_sumOf_2 : decode cX10_sumOf 2 = .ok (.invokevirtual 291, 3) := da9_dX10_sumOf_0.2.2.1
theorem dX10_sumOf_5 : decode cX10_sumOf 5 = .ok (.lstore_n 2, 1) := da9_dX10_sumOf_0.2.2.2.1
theorem dX10_sumOf_6 : decode cX10_sumOf 6 = .ok (.aload_n 0, 1) := da9_dX10_sumOf_0.2.2.2.2.1
theorem dX10_sumOf_7 : decode cX10_sumOf 7 = .ok (.aload_n 0, 1) := da9_dX10_sumOf_0.2.2.2.2.2.1
theorem dX10_sumOf_8 : decode cX10_sumOf 8 = .ok (.getfield 278, 3) := da9_dX10_sumOf_0.2.2.2.2.2.2.1
theorem dX10_sumOf_11 : decode cX10_sumOf 11 = .ok (.invokevirtual 281, 3) := da9_dX10_sumOf_0.2.2.2.2.2.2.2.1
theorem dX10_sumOf_14 : decode cX10_sumOf 14 = .ok (.bipush 43, 2) := da9_dX10_sumOf_0.2.2.2.2.2.2.2.2.1
theorem dX10_sumOf_16 : decode cX10_sumOf 16 = .ok (.invokestatic 237, 3) := da9_dX10_sumOf_0.2.2.2.2.2.2.2.2.2.1
theorem dX10_sumOf_19 : decode cX10_sumOf 19 = .ok (.if_icmp .eq 19, 3) := da9_dX10_sumOf_0.2.2.2.2.2.2.2.2.2.2.1
theorem dX10_sumOf_22 : decode cX10_sumOf 22 = .ok (.aload_n 0, 1) := da9_dX10_sumOf_0.2.2.2.2.2.2.2.2.2.2.2.1
theorem dX10_sumOf_23 : decode cX10_sumOf 23 = .ok (.aload_n 0, 1) := da9_dX10_sumOf_0.2.2.2.2.2.2.2.2.2.2.2.2.1
theorem dX10_sumOf_24 : decode cX10_sumOf 24 = .ok (.getfield 278, 3) := da9_dX10_sumOf_0.2.2.2.2.2.2.2.2.2.2.2.2.2.1
theorem dX10_sumOf_27 : decode cX10_sumOf 27 = .ok (.invokevirtual 281, 3) := da9_dX10_sumOf_0.2.2.2.2.2.2.2.2.2.2.2.2.2.2.1
theorem dX10_sumOf_30 : decode cX10_sumOf 30 = .ok (.bipush 45, 2) := da9_dX10_sumOf_0.2.2.2.2.2.2.2.2.2.2.2.2.2.2.2
theorem da9_dX10_sumOf_32 : (decode cX10_sumOf 32 = .ok (.invokestatic 237, 3)) ∧ (decode cX10_sumOf 35 = .ok (.if_icmp .ne 68, 3)) ∧ (decode cX10_sumOf 38 = .ok (.aload_n 0, 1)) ∧ (decode cX10_sumOf 39 = .ok (.aload_n 0, 1)) ∧ (decode cX10_sumOf 40 = .ok (.getfield 278, 3)) ∧ (decode cX10_sumOf 43 = .ok (.invokevirtual 281, 3)) ∧ (decode cX10_sumOf 46 = .ok (.bipush 43, 2)) ∧ (decode cX10_sumOf 48 = .ok (.invokestatic 237, 3)) ∧ (decode cX10_sumOf 51 = .ok (.if_icmp .ne 7, 3)) ∧ (decode cX10_sumOf 54 = .ok (.iconst 1, 1)) ∧ (decode cX10_sumOf 55 = .ok (.goto 4, 3)) ∧ (decode cX10_sumOf 58 = .ok (.iconst 0, 1)) ∧ (decode cX10_sumOf 59 = .ok (.istore 4, 2)) ∧ (decode cX10_sumOf 61 = .ok (.aload_n 0, 1)) ∧ (decode cX10_sumOf 62 = .ok (.dup, 1)) ∧ (decode cX10_sumOf 63 = .ok (.getfield 278, 3)) := by decide +kernel
theorem dX10_sumOf_32 : decode cX10_sumOf 32 = .ok (.invokestatic 237, 3) := da9_dX10_sumOf_32.1
theorem dX10_sumOf_35 : decode cX10_sumOf 35 = .ok (.if_icmp .ne 68, 3) := da9_dX10_sumOf_32.2.1
theorem dX10_sumOf_38 : decode cX10_sumOf 38 = .ok (.aload_n 0, 1) := da9_dX10_sumOf_32.2.2.1
theorem dX10_sumOf_39 : decode cX10_sumOf 39 = .ok (.aload_n 0, 1) := da9_dX10_sumOf_32.2.2.2.1
theorem dX10_sumOf_40 : decode cX10_sumOf 40 = .ok (.getfield 278, 3) := da9_dX10_sumOf_32.2.2.2.2.1
theorem dX10_sumOf_43 : decode cX10_sumOf 43 = .ok (.invokevirtual 281, 3) := da9_dX10_sumOf_32.2.2.2.2.2.1
theorem dX10_sumOf_46 : decode cX10_sumOf 46 = .ok (.bipush 43, 2) := da9_dX10_sumOf_32.2.2.2.2.2.2.1
theorem dX10_sumOf_48 : decode cX10_sumOf 48 = .ok (.invokestatic 237, 3) := da9_dX10_sumOf_32.2.2.2.2.2.2.2.1
theorem dX10_sumOf_51 : decode cX10_sumOf 51 = .ok (.if_icmp .ne 7, 3) := da9_dX10_sumOf_32.2.2.2.2.2.2.2.2.1
theorem dX10_sumOf_54 : decode cX10_sumOf 54 = .ok (.iconst 1, 1) := da9_dX10_sumOf_32.2.2.2.2.2.2.2.2.2.1
theorem dX10_sumOf_55 : decode cX10_sumOf 55 = .ok (.goto 4, 3) := da9_dX10_sumOf_32.2.2.2.2.2.2.2.2.2.2.1
theorem dX10_sumOf_58 : decode cX10_sumOf 58 = .ok (.iconst 0, 1) := da9_dX10_sumOf_32.2.2.2.2.2.2.2.2.2.2.2.1
theorem dX10_sumOf_59 : decode cX10_sumOf 59 = .ok (.istore 4, 2) := da9_dX10_sumOf_32.2.2.2.2.2.2.2.2.2.2.2.2.1
theorem dX10_sumOf_61 : decode cX10_sumOf 61 = .ok (.aload_n 0, 1) := da9_dX10_sumOf_32.2.2.2.2.2.2.2.2.2.2.2.2.2.1
theorem dX10_sumOf_62 : decode cX10_sumOf 62 = .ok (.dup, 1) := da9_dX10_sumOf_32.2.2.2.2.2.2.2.2.2.2.2.2.2.2.1
theorem dX10_sumOf_63 : decode cX10_sumOf 63 = .ok (.getfield 278, 3) := da9_dX10_sumOf_32.2.2.2.2.2.2.2.2.2.2.2.2.2.2.2
theorem da9_dX10_sumOf_66 : (decode cX10_sumOf 66 = .ok (.iconst 1, 1)) ∧ (decode cX10_sumOf 67 = .ok (.iadd, 1)) ∧ (decode cX10_sumOf 68 = .ok (.putfield 278, 3)) ∧ (decode cX10_sumOf 71 = .ok (.aload_n 0, 1)) ∧ (decode cX10_sumOf 72 = .ok (.iload_n 1, 1)) ∧ (decode cX10_sumOf 73 = .ok (.invokevirtual 291, 3)) ∧ (decode cX10_sumOf 76 = .ok (.lstore 5, 2)) ∧ (decode cX10_sumOf 78 = .ok (.aload_n 0, 1)) ∧ (decode cX10_sumOf 79 = .ok (.iload 4, 2)) ∧ (decode cX10_sumOf 81 = .ok (.ifCond .eq 10, 3)) ∧ (decode cX10_sumOf 84 = .ok (.lload_n 2, 1)) ∧ (decode cX10_sumOf 85 = .ok (.lload 5, 2)) ∧ (decode cX10_sumOf 87 = .ok (.ladd, 1)) ∧ (decode cX10_sumOf 88 = .ok (.goto 7, 3)) ∧ (decode cX10_sumOf 91 = .ok (.lload_n 2, 1)) ∧ (decode cX10_sumOf 92 = .ok (.lload 5, 2)) := by decide +kernel
theorem dX10_sumOf_66 : decode cX10_sumOf 66 = .ok (.iconst 1, 1) := da9_dX10_sumOf_66.1
theorem dX10_sumOf_67 : decode cX10_sumOf 67 = .ok (.iadd, 1) := da9_dX10_sumOf_66.2.1
theorem dX10_sumOf_68 : decode cX10_sumOf 68 = .ok (.putfield 278, 3) := da9_dX10_sumOf_66.2.2.1
theorem dX10_sumOf_71 : decode cX10_sumOf 71 = .ok (.aload_n 0, 1) := da9_dX10_sumOf_66.2.2.2.1
theorem dX10_sumOf_72 : decode cX10_sumOf 72 = .ok (.iload_n 1, 1) := da9_dX10_sumOf_66.2.2.2.2.1
theorem dX10_sumOf_73 : decode cX10_sumOf 73 = .ok (.invokevirtual 291, 3) := da9_dX10_sumOf_66.2.2.2.2.2.1
theorem dX10_sumOf_76 : decode cX10_sumOf 76 = .ok (.lstore 5, 2) := da9_dX10_sumOf_66.2.2.2.2.2.2.1
theorem dX10_sumOf_78 : decode cX10_sumOf 78 = .ok (.aload_n 0, 1) := da9_dX10_sumOf_66.2.2.2.2.2.2.2.1
theorem dX10_sumOf_79 : decode cX10_sumOf 79 = .ok (.iload 4, 2) := da9_dX10_sumOf_66.2.2.2.2.2.2.2.2.1
theorem dX10_sumOf_81 : decode cX10_sumOf 81 = .ok (.ifCond .eq 10, 3) := da9_dX10_sumOf_66.2.2.2.2.2.2.2.2.2.1
theorem dX10_sumOf_84 : decode cX10_sumOf 84 = .ok (.lload_n 2, 1) := da9_dX10_sumOf_66.2.2.2.2.2.2.2.2.2.2.1
theorem dX10_sumOf_85 : decode cX10_sumOf 85 = .ok (.lload 5, 2) := da9_dX10_sumOf_66.2.2.2.2.2.2.2.2.2.2.2.1
theorem dX10_sumOf_87 : decode cX10_sumOf 87 = .ok (.ladd, 1) := da9_dX10_sumOf_66.2.2.2.2.2.2.2.2.2.2.2.2.1
theorem dX10_sumOf_88 : decode cX10_sumOf 88 = .ok (.goto 7, 3) := da9_dX10_sumOf_66.2.2.2.2.2.2.2.2.2.2.2.2.2.1
theorem dX10_sumOf_91 : decode cX10_sumOf 91 = .ok (.lload_n 2, 1) := da9_dX10_sumOf_66.2.2.2.2.2.2.2.2.2.2.2.2.2.2.1
theorem dX10_sumOf_92 : decode cX10_sumOf 92 = .ok (.lload 5, 2) := da9_dX10_sumOf_66.2.2.2.2.2.2.2.2.2.2.2.2.2.2.2
theorem da9_dX10_sumOf_94 : (decode cX10_sumOf 94 = .ok (.lsub, 1)) ∧ (decode cX10_sumOf 95 = .ok (.iload_n 1, 1)) ∧ (decode cX10_sumOf 96 = .ok (.invokevirtual 295, 3)) ∧ (decode cX10_sumOf 99 = .ok (.lstore_n 2, 1)) ∧ (decode cX10_sumOf 100 = .ok (.goto (-94), 3)) ∧ (decode cX10_sumOf 103 = .ok (.lload_n 2, 1)) ∧ (decode cX10_sumOf 104 = .ok (.lreturn, 1)) := by decide +kernel
theorem dX10_sumOf_94 : decode cX10_sumOf 94 = .ok (.lsub, 1) := da9_dX10_sumOf_94.1
theorem dX10_sumOf_95 : decode cX10_sumOf 95 = .ok (.iload_n 1, 1) := da9_dX10_sumOf_94.2.1
theorem dX10_sumOf_96 : decode cX10_sumOf 96 = .ok (.invokevirtual 295, 3) := da9_dX10_sumOf_94.2.2.1
theorem dX10_sumOf_99 : decode cX10_sumOf 99 = .ok (.lstore_n 2, 1) := da9_dX10_sumOf_94.2.2.2.1
theorem dX10_sumOf_100 : decode cX10_sumOf 100 = .ok (.goto (-94), 3) := da9_dX10_sumOf_94.2.2.2.2.1
theorem dX10_sumOf_103 : decode cX10_sumOf 103 = .ok (.lload_n 2, 1) := da9_dX10_sumOf_94.2.2.2.2.2.1
theorem dX10_sumOf_104 : decode cX10_sumOf 104 = .ok (.lreturn, 1) := da9_dX10_sumOf_94.2.2.2.2.2.2
set_option maxRecDepth 20000 in
theorem ggX10_termOf_X10_partOf : GoodIn wsX10_termOf wsX10_partOf := goodIn_r _ [22, 1, 23, 12, 2, 24, 13, 14, 6, 15, 25, 26, 27, 28, 7, 8, 9, 10, 11, 29, 30, 31, 32, 33, 34, 35, 36, 37, 38, 39, 40, 41, 42, 43, 44, 45, 46, 47, 48, 49, 50, 51, 52, 53, 54, 55, 56, 57, 58, 59, 60, 16, 17, 18, 19, 20, 21, 0, 3, 4, 5, 61, 62, 63, 64, 65, 66, 67, 68, 69, 70, 71, 72, 73, 74, 75, 76, 77, 78, 79, 80, 81, 82, 83, 84, 85, 86, 87, 88, 89, 90, 91, 92, 93, 94, 95, 96, 97, 98, 99, 100, 101, 102, 103, 104, 105, 106, 107, 108, 109, 110, 111, 112, 113, 114, 115, 116] rfl (by decide +kernel)
set_option maxRecDepth 20000 in
theorem gX10_termOf_X10_partOf : GoodIn wsX10_termOf (wsV RX10 299 RX10 yX10_partOf wsX10_partOf) := goodIn_app (goodIn_of _ (by decide +kernel)) ggX10_termOf_X10_partOf
set_option maxRecDepth 20000 in
theorem ggX10_termOf_X10_codeAt : GoodIn wsX10_termOf wsX10_codeAt := goodIn_r _ [10, 11, 12, 61, 62, 63, 64, 65, 66, 67, 68, 69, 70, 71, 72, 73, 74, 75, 76, 77, 78, 79, 80, 81, 82, 83, 84, 85, 86, 87, 88, 89, 90, 91, 92, 93, 94, 95, 96, 97, 98, 99, 100, 101, 102, 103, 104, 105, 106, 107, 108, 109, 110, 111, 112, 113, 114, 115, 116] rfl (by decide +kernel)
set_option maxRecDepth 20000 in
theorem gX10_termOf_X10_codeAt : GoodIn wsX10_termOf (wsV RX10 281 RX10 yX10_codeAt wsX10_codeAt) := goodIn_app (goodIn_of _ (by decide +kernel)) ggX10_termOf_X10_codeAt
set_option maxRecDepth 20000 in
theorem ggX10_termOf_X10_sign : GoodIn wsX10_termOf wsX10_sign := goodIn_r _ [15] rfl (by decide +kernel)
set_option maxRecDepth 20000 in
theorem gX10_termOf_X10_sign : GoodIn wsX10_termOf (va_wsS RX10 237 yX10_sign wsX10_sign) := goodIn_app (goodIn_of _ (by decide +kernel)) ggX10_termOf_X10_sign
set_option maxRecDepth 20000 in
theorem ggX10_termOf_X10_bounded : GoodIn wsX10_termOf wsX10_bounded := goodIn_r _ [19, 20, 21, 2, 61, 62, 63, 64, 65, 66, 67, 68, 69, 70, 71, 72, 73, 74, 75, 76, 77, 78, 79, 80, 81, 82, 83, 84, 85, 86, 87, 88, 89, 90, 91, 92, 93, 94, 95, 96, 97, 98, 99, 100, 101, 102, 103, 104, 105, 106, 107, 108, 109, 110, 111, 112, 113, 114, 115, 116] rfl (by decide +kernel)
set_option maxRecDepth 20000 in
theorem gX10_termOf_X10_bounded : GoodIn wsX10_termOf (wsV RX10 295 RX10 yX10_bounded wsX10_bounded) := goodIn_app (goodIn_of _ (by decide +kernel)) ggX10_termOf_X10_bounded
theorem da9_dX10_termOf_0 : (decode cX10_termOf 0 = .ok (.aload_n 0, 1)) ∧ (decode cX10_termOf 1 = .ok (.iload_n 1, 1)) ∧ (decode cX10_termOf 2 = .ok (.invokevirtual 299, 3)) ∧ (decode cX10_termOf 5 = .ok (.lstore_n 2, 1)) ∧ (decode cX10_termOf 6 = .ok (.aload_n 0, 1)) ∧ (decode cX10_termOf 7 = .ok (.aload_n 0, 1)) ∧ (decode cX10_termOf 8 = .ok (.getfield 278, 3)) ∧ (decode cX10_termOf 11 = .ok (.invokevirtual 281, 3)) ∧ (decode cX10_termOf 14 = .ok (.bipush 42, 2)) ∧ (decode cX10_termOf 16 = .ok (.invokestatic 237, 3)) ∧ (decode cX10_termOf 19 = .ok (.if_icmp .eq 35, 3)) ∧ (decode cX10_termOf 22 = .ok (.aload_n 0, 1)) ∧ (decode cX10_termOf 23 = .ok (.aload_n 0, 1)) ∧ (decode cX10_termOf 24 = .ok (.getfield 278, 3)) ∧ (decode cX10_termOf 27 = .ok (.invokevirtual 281, 3)) ∧ (decode cX10_termOf 30 = .ok (.bipush 47, 2)) := by decide +kernel
theorem dX10_termOf_0 : decode cX10_termOf 0 = .ok (.aload_n 0, 1) := da9_dX10_termOf_0.1
theorem dX10_termOf_1 : decode cX10_termOf 1 = .ok (.iload_n 1, 1) := da9_dX10_termOf_0.2.1
theorem dX10_termOf_2 : decode cX10_termOf 2 = .ok (.invokevirtual 299, 3) := da9_dX10_termOf_0.2.2.1
theorem dX10_termOf_5 : decode cX10_termOf 5 = .ok (.lstore_n 2, 1) := da9_dX10_termOf_0.2.2.2.1
theorem dX10_termOf_6 : decode cX10_termOf 6 = .ok (.aload_n 0, 1) := da9_dX10_termOf_0.2.2.2.2.1
theorem dX10_termOf_7 : decode cX10_termOf 7 = .ok (.aload_n 0, 1) := da9_dX10_termOf_0.2.2.2.2.2.1
theorem dX10_termOf_8 : decode cX10_termOf 8 = .ok (.getfield 278, 3) := da9_dX10_termOf_0.2.2.2.2.2.2.1
theorem dX10_termOf_11 : decode cX10_termOf 11 = .ok (.invokevirtual 281, 3) := da9_dX10_termOf_0.2.2.2.2.2.2.2.1
theorem dX10_termOf_14 : decode cX10_termOf 14 = .ok (.bipush 42, 2) := da9_dX10_termOf_0.2.2.2.2.2.2.2.2.1
theorem dX10_termOf_16 : decode cX10_termOf 16 = .ok (.invokestatic 237, 3) := da9_dX10_termOf_0.2.2.2.2.2.2.2.2.2.1
theorem dX10_termOf_19 : decode cX10_termOf 19 = .ok (.if_icmp .eq 35, 3) := da9_dX10_termOf_0.2.2.2.2.2.2.2.2.2.2.1
theorem dX10_termOf_22 : decode cX10_termOf 22 = .ok (.aload_n 0, 1) := da9_dX10_termOf_0.2.2.2.2.2.2.2.2.2.2.2.1
theorem dX10_termOf_23 : decode cX10_termOf 23 = .ok (.aload_n 0, 1) := da9_dX10_termOf_0.2.2.2.2.2.2.2.2.2.2.2.2.1
theorem dX10_termOf_24 : decode cX10_termOf 24 = .ok (.getfield 278, 3) := da9_dX10_termOf_0.2.2.2.2.2.2.2.2.2.2.2.2.2.1
theorem dX10_termOf_27 : decode cX10_termOf 27 = .ok (.invokevirtual 281, 3) := da9_dX10_termOf_0.2.2.2.2.2.2.2.2.2.2.2.2.2.2.1
theorem dX10_termOf_30 : decode cX10_termOf 30 = .ok (.bipush 47, 2) := da9_dX10_termOf_0.2.2.2.2.2.2.2.2.2.2.2.2.2.2.2
theorem da9_dX10_termOf_32 : (decode cX10_termOf 32 = .ok (.invokestatic 237, 3)) ∧ (decode cX10_termOf 35 = .ok (.if_icmp .eq 19, 3)) ∧ (decode cX10_termOf 38 = .ok (.aload_n 0, 1)) ∧ (decode cX10_termOf 39 = .ok (.aload_n 0, 1)) ∧ (decode cX10_termOf 40 = .ok (.getfield 278, 3)) ∧ (decode cX10_termOf 43 = .ok (.invokevirtual 281, 3)) ∧ (decode cX10_termOf 46 = .ok (.bipush 37, 2)) ∧ (decode cX10_termOf 48 = .ok (.invokestatic 237, 3)) ∧ (decode cX10_termOf 51 = .ok (.if_icmp .ne 117, 3)) ∧ (decode cX10_termOf 54 = .ok (.aload_n 0, 1)) ∧ (decode cX10_termOf 55 = .ok (.aload_n 0, 1)) ∧ (decode cX10_termOf 56 = .ok (.getfield 278, 3)) ∧ (decode cX10_termOf 59 = .ok (.invokevirtual 281, 3)) ∧ (decode cX10_termOf 62 = .ok (.istore 4, 2)) ∧ (decode cX10_termOf 64 = .ok (.aload_n 0, 1)) ∧ (decode cX10_termOf 65 = .ok (.dup, 1)) := by decide +kernel
theorem dX10_termOf_32 : decode cX10_termOf 32 = .ok (.invokestatic 237, 3) := da9_dX10_termOf_32.1
theorem dX10_termOf_35 : decode cX10_termOf 35 = .ok (.if_icmp .eq 19, 3) := da9_dX10_termOf_32.2.1
theorem dX10_termOf_38 : decode cX10_termOf 38 = .ok (.aload_n 0, 1) := da9_dX10_termOf_32.2.2.1
theorem dX10_termOf_39 : decode cX10_termOf 39 = .ok (.aload_n 0, 1) := da9_dX10_termOf_32.2.2.2.1
theorem dX10_termOf_40 : decode cX10_termOf 40 = .ok (.getfield 278, 3) := da9_dX10_termOf_32.2.2.2.2.1
theorem dX10_termOf_43 : decode cX10_termOf 43 = .ok (.invokevirtual 281, 3) := da9_dX10_termOf_32.2.2.2.2.2.1
theorem dX10_termOf_46 : decode cX10_termOf 46 = .ok (.bipush 37, 2) := da9_dX10_termOf_32.2.2.2.2.2.2.1
theorem dX10_termOf_48 : decode cX10_termOf 48 = .ok (.invokestatic 237, 3) := da9_dX10_termOf_32.2.2.2.2.2.2.2.1
theorem dX10_termOf_51 : decode cX10_termOf 51 = .ok (.if_icmp .ne 117, 3) := da9_dX10_termOf_32.2.2.2.2.2.2.2.2.1
theorem dX10_termOf_54 : decode cX10_termOf 54 = .ok (.aload_n 0, 1) := da9_dX10_termOf_32.2.2.2.2.2.2.2.2.2.1
theorem dX10_termOf_55 : decode cX10_termOf 55 = .ok (.aload_n 0, 1) := da9_dX10_termOf_32.2.2.2.2.2.2.2.2.2.2.1
theorem dX10_termOf_56 : decode cX10_termOf 56 = .ok (.getfield 278, 3) := da9_dX10_termOf_32.2.2.2.2.2.2.2.2.2.2.2.1
theorem dX10_termOf_59 : decode cX10_termOf 59 = .ok (.invokevirtual 281, 3) := da9_dX10_termOf_32.2.2.2.2.2.2.2.2.2.2.2.2.1
theorem dX10_termOf_62 : decode cX10_termOf 62 = .ok (.istore 4, 2) := da9_dX10_termOf_32.2.2.2.2.2.2.2.2.2.2.2.2.2.1
theorem dX10_termOf_64 : decode cX10_termOf 64 = .ok (.aload_n 0, 1) := da9_dX10_termOf_32.2.2.2.2.2.2.2.2.2.2.2.2.2.2.1
theorem dX10_termOf_65 : decode cX10_termOf 65 = .ok (.dup, 1) := da9_dX10_termOf_32.2.2.2.2.2.2.2.2.2.2.2.2.2.2.2
theorem da9_dX10_termOf_66 : (decode cX10_termOf 66 = .ok (.getfield 278, 3)) ∧ (decode cX10_termOf 69 = .ok (.iconst 1, 1)) ∧ (decode cX10_termOf 70 = .ok (.iadd, 1)) ∧ (decode cX10_termOf 71 = .ok (.putfield 278, 3)) ∧ (decode cX10_termOf 74 = .ok (.aload_n 0, 1)) ∧ (decode cX10_termOf 75 = .ok (.iload_n 1, 1)) ∧ (decode cX10_termOf 76 = .ok (.invokevirtual 299, 3)) ∧ (decode cX10_termOf 79 = .ok (.lstore 5, 2)) ∧ (decode cX10_termOf 81 = .ok (.iload 4, 2)) ∧ (decode cX10_termOf 83 = .ok (.bipush 42, 2)) ∧ (decode cX10_termOf 85 = .ok (.invokestatic 237, 3)) ∧ (decode cX10_termOf 88 = .ok (.if_icmp .eq 33, 3)) ∧ (decode cX10_termOf 91 = .ok (.lload 5, 2)) ∧ (decode cX10_termOf 93 = .ok (.lconst 0, 1)) ∧ (decode cX10_termOf 94 = .ok (.lcmp, 1)) ∧ (decode cX10_termOf 95 = .ok (.ifCond .ne 26, 3)) := by decide +kernel
theorem dX10_termOf_66 : decode cX10_termOf 66 = .ok (.getfield 278, 3) := da9_dX10_termOf_66.1
theorem dX10_termOf_69 : decode cX10_termOf 69 = .ok (.iconst 1, 1) := da9_dX10_termOf_66.2.1
theorem dX10_termOf_70 : decode cX10_termOf 70 = .ok (.iadd, 1) := da9_dX10_termOf_66.2.2.1
theorem dX10_termOf_71 : decode cX10_termOf 71 = .ok (.putfield 278, 3) := da9_dX10_termOf_66.2.2.2.1
theorem dX10_termOf_74 : decode cX10_termOf 74 = .ok (.aload_n 0, 1) := da9_dX10_termOf_66.2.2.2.2.1
theorem dX10_termOf_75 : decode cX10_termOf 75 = .ok (.iload_n 1, 1) := da9_dX10_termOf_66.2.2.2.2.2.1
theorem dX10_termOf_76 : decode cX10_termOf 76 = .ok (.invokevirtual 299, 3) := da9_dX10_termOf_66.2.2.2.2.2.2.1
theorem dX10_termOf_79 : decode cX10_termOf 79 = .ok (.lstore 5, 2) := da9_dX10_termOf_66.2.2.2.2.2.2.2.1
theorem dX10_termOf_81 : decode cX10_termOf 81 = .ok (.iload 4, 2) := da9_dX10_termOf_66.2.2.2.2.2.2.2.2.1
theorem dX10_termOf_83 : decode cX10_termOf 83 = .ok (.bipush 42, 2) := da9_dX10_termOf_66.2.2.2.2.2.2.2.2.2.1
theorem dX10_termOf_85 : decode cX10_termOf 85 = .ok (.invokestatic 237, 3) := da9_dX10_termOf_66.2.2.2.2.2.2.2.2.2.2.1
theorem dX10_termOf_88 : decode cX10_termOf 88 = .ok (.if_icmp .eq 33, 3) := da9_dX10_termOf_66.2.2.2.2.2.2.2.2.2.2.2.1
theorem dX10_termOf_91 : decode cX10_termOf 91 = .ok (.lload 5, 2) := da9_dX10_termOf_66.2.2.2.2.2.2.2.2.2.2.2.2.1
theorem dX10_termOf_93 : decode cX10_termOf 93 = .ok (.lconst 0, 1) := da9_dX10_termOf_66.2.2.2.2.2.2.2.2.2.2.2.2.2.1
theorem dX10_termOf_94 : decode cX10_termOf 94 = .ok (.lcmp, 1) := da9_dX10_termOf_66.2.2.2.2.2.2.2.2.2.2.2.2.2.2.1
theorem dX10_termOf_95 : decode cX10_termOf 95 = .ok (.ifCond .ne 26, 3) := da9_dX10_termOf_66.2.2.2.2.2.2.2.2.2.2.2.2.2.2.2
theorem da9_dX10_termOf_98 : (decode cX10_termOf 98 = .ok (.aload_n 0, 1)) ∧ (decode cX10_termOf 99 = .ok (.aload_n 0, 1)) ∧ (decode cX10_termOf 100 = .ok (.getfield 288, 3)) ∧ (decode cX10_termOf 103 = .ok (.ifCond .ne 7, 3)) ∧ (decode cX10_termOf 106 = .ok (.iload_n 1, 1)) ∧ (decode cX10_termOf 107 = .ok (.ifCond .eq 7, 3)) ∧ (decode cX10_termOf 110 = .ok (.iconst 1, 1)) ∧ (decode cX10_termOf 111 = .ok (.goto 4, 3)) ∧ (decode cX10_termOf 114 = .ok (.iconst 0, 1)) ∧ (decode cX10_termOf 115 = .ok (.putfield 288, 3)) ∧ (decode cX10_termOf 118 = .ok (.lconst 1, 1)) ∧ (decode cX10_termOf 119 = .ok (.lstore 5, 2)) ∧ (decode cX10_termOf 121 = .ok (.aload_n 0, 1)) ∧ (decode cX10_termOf 122 = .ok (.iload 4, 2)) ∧ (decode cX10_termOf 124 = .ok (.bipush 42, 2)) ∧ (decode cX10_termOf 126 = .ok (.invokestatic 237, 3)) := by decide +kernel
theorem dX10_termOf_98 : decode cX10_termOf 98 = .ok (.aload_n 0, 1) := da9_dX10_termOf_98.1
theorem dX10_termOf_99 : decode cX10_termOf 99 = .ok (.aload_n 0, 1) := da9_dX10_termOf_98.2.1
theorem dX10_termOf_100 : decode cX10_termOf 100 = .ok (.getfield 288, 3) := da9_dX10_termOf_98.2.2.1
theorem dX10_termOf_103 : decode cX10_termOf 103 = .ok (.ifCond .ne 7, 3) := da9_dX10_termOf_98.2.2.2.1
theorem dX10_termOf_106 : decode cX10_termOf 106 = .ok (.iload_n 1, 1) := da9_dX10_termOf_98.2.2.2.2.1
theorem dX10_termOf_107 : decode cX10_termOf 107 = .ok (.ifCond .eq 7, 3) := da9_dX10_termOf_98.2.2.2.2.2.1
theorem dX10_termOf_110 : decode cX10_termOf 110 = .ok (.iconst 1, 1) := da9_dX10_termOf_98.2.2.2.2.2.2.1
theorem dX10_termOf_111 : decode cX10_termOf 111 = .ok (.goto 4, 3) := da9_dX10_termOf_98.2.2.2.2.2.2.2.1
theorem dX10_termOf_114 : decode cX10_termOf 114 = .ok (.iconst 0, 1) := da9_dX10_termOf_98.2.2.2.2.2.2.2.2.1
theorem dX10_termOf_115 : decode cX10_termOf 115 = .ok (.putfield 288, 3) := da9_dX10_termOf_98.2.2.2.2.2.2.2.2.2.1
theorem dX10_termOf_118 : decode cX10_termOf 118 = .ok (.lconst 1, 1) := da9_dX10_termOf_98.2.2.2.2.2.2.2.2.2.2.1
theorem dX10_termOf_119 : decode cX10_termOf 119 = .ok (.lstore 5, 2) := da9_dX10_termOf_98.2.2.2.2.2.2.2.2.2.2.2.1
theorem dX10_termOf_121 : decode cX10_termOf 121 = .ok (.aload_n 0, 1) := da9_dX10_termOf_98.2.2.2.2.2.2.2.2.2.2.2.2.1
theorem dX10_termOf_122 : decode cX10_termOf 122 = .ok (.iload 4, 2) := da9_dX10_termOf_98.2.2.2.2.2.2.2.2.2.2.2.2.2.1
theorem dX10_termOf_124 : decode cX10_termOf 124 = .ok (.bipush 42, 2) := da9_dX10_termOf_98.2.2.2.2.2.2.2.2.2.2.2.2.2.2.1
theorem dX10_termOf_126 : decode cX10_termOf 126 = .ok (.invokestatic 237, 3) := da9_dX10_termOf_98.2.2.2.2.2.2.2.2.2.2.2.2.2.2.2
theorem da9_dX10_termOf_129 : (decode cX10_termOf 129 = .ok (.if_icmp .ne 10, 3)) ∧ (decode cX10_termOf 132 = .ok (.lload_n 2, 1)) ∧ (decode cX10_termOf 133 = .ok (.lload 5, 2)) ∧ (decode cX10_termOf 135 = .ok (.lmul, 1)) ∧ (decode cX10_termOf 136 = .ok (.goto 24, 3)) ∧ (decode cX10_termOf 139 = .ok (.iload 4, 2)) ∧ (decode cX10_termOf 141 = .ok (.bipush 47, 2)) ∧ (decode cX10_termOf 143 = .ok (.invokestatic 237, 3)) ∧ (decode cX10_termOf 146 = .ok (.if_icmp .ne 10, 3)) ∧ (decode cX10_termOf 149 = .ok (.lload_n 2, 1)) ∧ (decode cX10_termOf 150 = .ok (.lload 5, 2)) ∧ (decode cX10_termOf 152 = .ok (.ldiv, 1)) ∧ (decode cX10_termOf 153 = .ok (.goto 7, 3)) ∧ (decode cX10_termOf 156 = .ok (.lload_n 2, 1)) ∧ (decode cX10_termOf 157 = .ok (.lload 5, 2)) ∧ (decode cX10_termOf 159 = .ok (.lrem, 1)) := by decide +kernel
theorem dX10_termOf_129 : decode cX10_termOf 129 = .ok (.if_icmp .ne 10, 3) := da9_dX10_termOf_129.1
theorem dX10_termOf_132 : decode cX10_termOf 132 = .ok (.lload_n 2, 1) := da9_dX10_termOf_129.2.1
theorem dX10_termOf_133 : decode cX10_termOf 133 = .ok (.lload 5, 2) := da9_dX10_termOf_129.2.2.1
theorem dX10_termOf_135 : decode cX10_termOf 135 = .ok (.lmul, 1) := da9_dX10_termOf_129.2.2.2.1
theorem dX10_termOf_136 : decode cX10_termOf 136 = .ok (.goto 24, 3) := da9_dX10_termOf_129.2.2.2.2.1
theorem dX10_termOf_139 : decode cX10_termOf 139 = .ok (.iload 4, 2) := da9_dX10_termOf_129.2.2.2.2.2.1
theorem dX10_termOf_141 : decode cX10_termOf 141 = .ok (.bipush 47, 2) := da9_dX10_termOf_129.2.2.2.2.2.2.1
theorem dX10_termOf_143 : decode cX10_termOf 143 = .ok (.invokestatic 237, 3) := da9_dX10_termOf_129.2.2.2.2.2.2.2.1
theorem dX10_termOf_146 : decode cX10_termOf 146 = .ok (.if_icmp .ne 10, 3) := da9_dX10_termOf_129.2.2.2.2.2.2.2.2.1
theorem dX10_termOf_149 : decode cX10_termOf 149 = .ok (.lload_n 2, 1) := da9_dX10_termOf_129.2.2.2.2.2.2.2.2.2.1
theorem dX10_termOf_150 : decode cX10_termOf 150 = .ok (.lload 5, 2) := da9_dX10_termOf_129.2.2.2.2.2.2.2.2.2.2.1
theorem dX10_termOf_152 : decode cX10_termOf 152 = .ok (.ldiv, 1) := da9_dX10_termOf_129.2.2.2.2.2.2.2.2.2.2.2.1
theorem dX10_termOf_153 : decode cX10_termOf 153 = .ok (.goto 7, 3) := da9_dX10_termOf_129.2.2.2.2.2.2.2.2.2.2.2.2.1
theorem dX10_termOf_156 : decode cX10_termOf 156 = .ok (.lload_n 2, 1) := da9_dX10_termOf_129.2.2.2.2.2.2.2.2.2.2.2.2.2.1
theorem dX10_termOf_157 : decode cX10_termOf 157 = .ok (.lload 5, 2) := da9_dX10_termOf_129.2.2.2.2.2.2.2.2.2.2.2.2.2.2.1
theorem dX10_termOf_159 : decode cX10_termOf 159 = .ok (.lrem, 1) := da9_dX10_termOf_129.2.2.2.2.2.2.2.2.2.2.2.2.2.2.2
theorem da9_dX10_termOf_160 : (decode cX10_termOf 160 = .ok (.iload_n 1, 1)) ∧ (decode cX10_termOf 161 = .ok (.invokevirtual 295, 3)) ∧ (decode cX10_termOf 164 = .ok (.lstore_n 2, 1)) ∧ (decode cX10_termOf 165 = .ok (.goto (-159), 3)) ∧ (decode cX10_termOf 168 = .ok (.lload_n 2, 1)) ∧ (decode cX10_termOf 169 = .ok (.lreturn, 1)) := by decide +kernel
theorem dX10_termOf_160 : decode cX10_termOf 160 = .ok (.iload_n 1, 1) := da9_dX10_termOf_160.1
theorem dX10_termOf_161 : decode cX10_termOf 161 = .ok (.invokevirtual 295, 3) := da9_dX10_termOf_160.2.1
theorem dX10_termOf_164 : decode cX10_termOf 164 = .ok (.lstore_n 2, 1) := da9_dX10_termOf_160.2.2.1
theorem dX10_termOf_165 : decode cX10_termOf 165 = .ok (.goto (-159), 3) := da9_dX10_termOf_160.2.2.2.1
theorem dX10_termOf_168 : decode cX10_termOf 168 = .ok (.lload_n 2, 1) := da9_dX10_termOf_160.2.2.2.2.1
theorem dX10_termOf_169 : decode cX10_termOf 169 = .ok (.lreturn, 1) := da9_dX10_termOf_160.2.2.2.2.2
set_option maxRecDepth 20000 in
theorem ggX10_bothOf_X10_plainOf : GoodIn wsX10_bothOf wsX10_plainOf := goodIn_r _ [16, 5, 6, 7, 4, 8, 9, 10, 11, 12, 13, 14, 15, 17, 18, 19, 0, 1, 2, 3, 20, 21, 22, 23, 24, 25, 26, 27, 28, 29, 30, 31, 32, 33, 34, 35, 36, 37, 38, 39, 40, 41, 42, 43, 44, 45, 46, 47, 48, 49, 50, 51, 52, 53, 54, 55, 56, 57, 58, 59, 60, 61, 62, 63, 64, 65, 66, 67, 68, 69, 70, 71, 72, 73, 74, 75, 76, 77, 78, 79, 80, 81, 82, 83, 84, 85, 86, 87, 88, 89, 90, 91, 92, 93, 94, 95, 96, 97, 98, 99, 100, 101, 102, 103, 104, 105, 106, 107, 108, 109, 110, 111, 112, 113, 114, 115, 116, 117, 118, 119, 120, 121, 122, 123, 124, 125, 126, 127, 128, 129, 130, 131, 132] rfl (by decide +kernel)
set_option maxRecDepth 20000 in
theorem gX10_bothOf_X10_plainOf : GoodIn wsX10_bothOf (wsV RX10 326 RX10 yX10_plainOf wsX10_plainOf) := goodIn_app (goodIn_of _ (by decide +kernel)) ggX10_bothOf_X10_plainOf
set_option maxRecDepth 20000 in
theorem ggX10_bothOf_X10_passes0 : GoodIn wsX10_bothOf wsX10_passes0 := goodIn_r _ [8, 9, 10, 11, 12, 4, 13, 14, 15, 77, 78, 79, 80, 81, 82, 83, 84, 85, 86, 87, 88, 89, 90, 91, 92, 93, 94, 95, 96, 97, 98, 99, 100, 101, 102, 103, 104, 105, 106, 107, 108, 109, 110, 111, 112, 113, 114, 115, 116, 117, 118, 119, 120, 121, 122, 123, 124, 125, 126, 127, 128, 129, 130, 131, 132] rfl (by decide +kernel)
set_option maxRecDepth 20000 in
theorem gX10_bothOf_X10_passes0 : GoodIn wsX10_bothOf (wsV RX10 302 RX10 yX10_passes0 wsX10_passes0) := goodIn_app (goodIn_of _ (by decide +kernel)) ggX10_bothOf_X10_passes0
theorem da9_dX10_bothOf_0 : (decode cX10_bothOf 0 = .ok (.aload_n 0, 1)) ∧ (decode cX10_bothOf 1 = .ok (.iload_n 1, 1)) ∧ (decode cX10_bothOf 2 = .ok (.invokevirtual 326, 3)) ∧ (decode cX10_bothOf 5 = .ok (.istore_n 2, 1)) ∧ (decode cX10_bothOf 6 = .ok (.aload_n 0, 1)) ∧ (decode cX10_bothOf 7 = .ok (.bipush 6, 2)) ∧ (decode cX10_bothOf 9 = .ok (.invokevirtual 302, 3)) ∧ (decode cX10_bothOf 12 = .ok (.ifCond .eq 38, 3)) ∧ (decode cX10_bothOf 15 = .ok (.aload_n 0, 1)) ∧ (decode cX10_bothOf 16 = .ok (.iload_n 1, 1)) ∧ (decode cX10_bothOf 17 = .ok (.ifCond .eq 11, 3)) ∧ (decode cX10_bothOf 20 = .ok (.iload_n 2, 1)) ∧ (decode cX10_bothOf 21 = .ok (.ifCond .eq 7, 3)) ∧ (decode cX10_bothOf 24 = .ok (.iconst 1, 1)) ∧ (decode cX10_bothOf 25 = .ok (.goto 4, 3)) ∧ (decode cX10_bothOf 28 = .ok (.iconst 0, 1)) := by decide +kernel
theorem dX10_bothOf_0 : decode cX10_bothOf 0 = .ok (.aload_n 0, 1) := da9_dX10_bothOf_0.1
theorem dX10_bothOf_1 : decode cX10_bothOf 1 = .ok (.iload_n 1, 1) := da9_dX10_bothOf_0.2.1
theorem dX10_bothOf_2 : decode cX10_bothOf 2 = .ok (.invokevirtual 326, 3) := da9_dX10_bothOf_0.2.2.1
theorem dX10_bothOf_5 : decode cX10_bothOf 5 = .ok (.istore_n 2, 1) := da9_dX10_bothOf_0.2.2.2.1
theorem dX10_bothOf_6 : decode cX10_bothOf 6 = .ok (.aload_n 0, 1) := da9_dX10_bothOf_0.2.2.2.2.1
theorem dX10_bothOf_7 : decode cX10_bothOf 7 = .ok (.bipush 6, 2) := da9_dX10_bothOf_0.2.2.2.2.2.1
theorem dX10_bothOf_9 : decode cX10_bothOf 9 = .ok (.invokevirtual 302, 3) := da9_dX10_bothOf_0.2.2.2.2.2.2.1
theorem dX10_bothOf_12 : decode cX10_bothOf 12 = .ok (.ifCond .eq 38, 3) := da9_dX10_bothOf_0.2.2.2.2.2.2.2.1
theorem dX10_bothOf_15 : decode cX10_bothOf 15 = .ok (.aload_n 0, 1) := da9_dX10_bothOf_0.2.2.2.2.2.2.2.2.1
theorem dX10_bothOf_16 : decode cX10_bothOf 16 = .ok (.iload_n 1, 1) := da9_dX10_bothOf_0.2.2.2.2.2.2.2.2.2.1
theorem dX10_bothOf_17 : decode cX10_bothOf 17 = .ok (.ifCond .eq 11, 3) := da9_dX10_bothOf_0.2.2.2.2.2.2.2.2.2.2.1
theorem dX10_bothOf_20 : decode cX10_bothOf 20 = .ok (.iload_n 2, 1) := da9_dX10_bothOf_0.2.2.2.2.2.2.2.2.2.2.2.1
theorem dX10_bothOf_21 : decode cX10_bothOf 21 = .ok (.ifCond .eq 7, 3) := da9_dX10_bothOf_0.2.2.2.2.2.2.2.2.2.2.2.2.1
theorem dX10_bothOf_24 : decode cX10_bothOf 24 = .ok (.iconst 1, 1) := da9_dX10_bothOf_0.2.2.2.2.2.2.2.2.2.2.2.2.2.1
theorem dX10_bothOf_25 : decode cX10_bothOf 25 = .ok (.goto 4, 3) := da9_dX10_bothOf_0.2.2.2.2.2.2.2.2.2.2.2.2.2.2.1
theorem dX10_bothOf_28 : decode cX10_bothOf 28 = .ok (.iconst 0, 1) := da9_dX10_bothOf_0.2.2.2.2.2.2.2.2.2.2.2.2.2.2.2
theorem da9_dX10_bothOf_29 : (decode cX10_bothOf 29 = .ok (.invokevirtual 326, 3)) ∧ (decode cX10_bothOf 32 = .ok (.istore_n 3, 1)) ∧ (decode cX10_bothOf 33 = .ok (.iload_n 2, 1)) ∧ (decode cX10_bothOf 34 = .ok (.ifCond .eq 11, 3)) ∧ (decode cX10_bothOf 37 = .ok (.iload_n 3, 1)) ∧ (decode cX10_bothOf 38 = .ok (.ifCond .eq 7, 3)) ∧ (decode cX10_bothOf 41 = .ok (.iconst 1, 1)) ∧ (decode cX10_bothOf 42 = .ok (.goto 4, 3)) ∧ (decode cX10_bothOf 45 = .ok (.iconst 0, 1)) ∧ (decode cX10_bothOf 46 = .ok (.istore_n 2, 1)) ∧ (decode cX10_bothOf 47 = .ok (.goto (-41), 3)) ∧ (decode cX10_bothOf 50 = .ok (.iload_n 2, 1)) ∧ (decode cX10_bothOf 51 = .ok (.ireturn, 1)) := by decide +kernel
theorem dX10_bothOf_29 : decode cX10_bothOf 29 = .ok (.invokevirtual 326, 3) := da9_dX10_bothOf_29.1
theorem dX10_bothOf_32 : decode cX10_bothOf 32 = .ok (.istore_n 3, 1) := da9_dX10_bothOf_29.2.1
theorem dX10_bothOf_33 : decode cX10_bothOf 33 = .ok (.iload_n 2, 1) := da9_dX10_bothOf_29.2.2.1
theorem dX10_bothOf_34 : decode cX10_bothOf 34 = .ok (.ifCond .eq 11, 3) := da9_dX10_bothOf_29.2.2.2.1
theorem dX10_bothOf_37 : decode cX10_bothOf 37 = .ok (.iload_n 3, 1) := da9_dX10_bothOf_29.2.2.2.2.1
theorem dX10_bothOf_38 : decode cX10_bothOf 38 = .ok (.ifCond .eq 7, 3) := da9_dX10_bothOf_29.2.2.2.2.2.1
theorem dX10_bothOf_41 : decode cX10_bothOf 41 = .ok (.iconst 1, 1) := da9_dX10_bothOf_29.2.2.2.2.2.2.1
theorem dX10_bothOf_42 : decode cX10_bothOf 42 = .ok (.goto 4, 3) := da9_dX10_bothOf_29.2.2.2.2.2.2.2.1
theorem dX10_bothOf_45 : decode cX10_bothOf 45 = .ok (.iconst 0, 1) := da9_dX10_bothOf_29.2.2.2.2.2.2.2.2.1
theorem dX10_bothOf_46 : decode cX10_bothOf 46 = .ok (.istore_n 2, 1) := da9_dX10_bothOf_29.2.2.2.2.2.2.2.2.2.1
theorem dX10_bothOf_47 : decode cX10_bothOf 47 = .ok (.goto (-41), 3) := da9_dX10_bothOf_29.2.2.2.2.2.2.2.2.2.2.1
theorem dX10_bothOf_50 : decode cX10_bothOf 50 = .ok (.iload_n 2, 1) := da9_dX10_bothOf_29.2.2.2.2.2.2.2.2.2.2.2.1
theorem dX10_bothOf_51 : decode cX10_bothOf 51 = .ok (.ireturn, 1) := da9_dX10_bothOf_29.2.2.2.2.2.2.2.2.2.2.2.2
set_option maxRecDepth 20000 in
theorem ggX10_plainOf_X10_passes0 : GoodIn wsX10_plainOf wsX10_passes0 := goodIn_r _ [5, 6, 7, 8, 9, 4, 10, 11, 12, 77, 78, 79, 80, 81, 82, 83, 84, 85, 86, 87, 88, 89, 90, 91, 92, 93, 94, 95, 96, 97, 98, 99, 100, 101, 102, 103, 104, 105, 106, 107, 108, 109, 110, 111, 112, 113, 114, 115, 116, 117, 118, 119, 120, 121, 122, 123, 124, 125, 126, 127, 128, 129, 130, 131, 132] rfl (by decide +kernel)
set_option maxRecDepth 20000 in
theorem gX10_plainOf_X10_passes0 : GoodIn wsX10_plainOf (wsV RX10 302 RX10 yX10_passes0 wsX10_passes0) := goodIn_app (goodIn_of _ (by decide +kernel)) ggX10_plainOf_X10_passes0
set_option maxRecDepth 20000 in
theorem ggX10_plainOf_X10_positiveOf : GoodIn wsX10_plainOf wsX10_positiveOf := goodIn_r _ [20, 6, 21, 22, 23, 4, 24, 1, 2, 3, 5, 7, 8, 9, 10, 11, 12, 25, 26, 27, 28, 29, 30, 31, 32, 33, 34, 35, 36, 37, 38, 39, 40, 41, 42, 43, 44, 45, 46, 47, 48, 49, 50, 51, 52, 53, 54, 55, 56, 57, 58, 59, 60, 61, 62, 63, 64, 65, 66, 67, 68, 69, 70, 71, 72, 16, 17, 18, 19, 0, 13, 14, 15, 73, 74, 75, 76, 77, 78, 79, 80, 81, 82, 83, 84, 85, 86, 87, 88, 89, 90, 91, 92, 93, 94, 95, 96, 97, 98, 99, 100, 101, 102, 103, 104, 105, 106, 107, 108, 109, 110, 111, 112, 113, 114, 115, 116, 117, 118, 119, 120, 121, 122, 123, 124, 125, 126, 127, 128, 129, 130, 131, 132] rfl (by decide +kernel)
set_option maxRecDepth 20000 in
theorem gX10_plainOf_X10_positiveOf : GoodIn wsX10_plainOf (wsV RX10 329 RX10 yX10_positiveOf wsX10_positiveOf) := goodIn_app (goodIn_of _ (by decide +kernel)) ggX10_plainOf_X10_positiveOf
theorem da9_dX10_plainOf_0 : (decode cX10_plainOf 0 = .ok (.iconst 0, 1)) ∧ (decode cX10_plainOf 1 = .ok (.istore_n 2, 1)) ∧ (decode cX10_plainOf 2 = .ok (.aload_n 0, 1)) ∧ (decode cX10_plainOf 3 = .ok (.bipush 7, 2)) ∧ (decode cX10_plainOf 5 = .ok (.invokevirtual 302, 3)) ∧ (decode cX10_plainOf 8 = .ok (.ifCond .eq 16, 3)) ∧ (decode cX10_plainOf 11 = .ok (.iload_n 2, 1)) ∧ (decode cX10_plainOf 12 = .ok (.ifCond .ne 7, 3)) ∧ (decode cX10_plainOf 15 = .ok (.iconst 1, 1)) ∧ (decode cX10_plainOf 16 = .ok (.goto 4, 3)) ∧ (decode cX10_plainOf 19 = .ok (.iconst 0, 1)) ∧ (decode cX10_plainOf 20 = .ok (.istore_n 2, 1)) ∧ (decode cX10_plainOf 21 = .ok (.goto (-19), 3)) ∧ (decode cX10_plainOf 24 = .ok (.aload_n 0, 1)) ∧ (decode cX10_plainOf 25 = .ok (.iload_n 1, 1)) ∧ (decode cX10_plainOf 26 = .ok (.invokevirtual 329, 3)) := by decide +kernel
theorem dX10_plainOf_0 : decode cX10_plainOf 0 = .ok (.iconst 0, 1) := da9_dX10_plainOf_0.1
theorem dX10_plainOf_1 : decode cX10_plainOf 1 = .ok (.istore_n 2, 1) := da9_dX10_plainOf_0.2.1
theorem dX10_plainOf_2 : decode cX10_plainOf 2 = .ok (.aload_n 0, 1) := da9_dX10_plainOf_0.2.2.1
theorem dX10_plainOf_3 : decode cX10_plainOf 3 = .ok (.bipush 7, 2) := da9_dX10_plainOf_0.2.2.2.1
theorem dX10_plainOf_5 : decode cX10_plainOf 5 = .ok (.invokevirtual 302, 3) := da9_dX10_plainOf_0.2.2.2.2.1
theorem dX10_plainOf_8 : decode cX10_plainOf 8 = .ok (.ifCond .eq 16, 3) := da9_dX10_plainOf_0.2.2.2.2.2.1
theorem dX10_plainOf_11 : decode cX10_plainOf 11 = .ok (.iload_n 2, 1) := da9_dX10_plainOf_0.2.2.2.2.2.2.1
theorem dX10_plainOf_12 : decode cX10_plainOf 12 = .ok (.ifCond .ne 7, 3) := da9_dX10_plainOf_0.2.2.2.2.2.2.2.1
theorem dX10_plainOf_15 : decode cX10_plainOf 15 = .ok (.iconst 1, 1) := da9_dX10_plainOf_0.2.2.2.2.2.2.2.2.1
theorem dX10_plainOf_16 : decode cX10_plainOf 16 = .ok (.goto 4, 3) := da9_dX10_plainOf_0.2.2.2.2.2.2.2.2.2.1
theorem dX10_plainOf_19 : decode cX10_plainOf 19 = .ok (.iconst 0, 1) := da9_dX10_plainOf_0.2.2.2.2.2.2.2.2.2.2.1
theorem dX10_plainOf_20 : decode cX10_plainOf 20 = .ok (.istore_n 2, 1) := da9_dX10_plainOf_0.2.2.2.2.2.2.2.2.2.2.2.1
theorem dX10_plainOf_21 : decode cX10_plainOf 21 = .ok (.goto (-19), 3) := da9_dX10_plainOf_0.2.2.2.2.2.2.2.2.2.2.2.2.1
theorem dX10_plainOf_24 : decode cX10_plainOf 24 = .ok (.aload_n 0, 1) := da9_dX10_plainOf_0.2.2.2.2.2.2.2.2.2.2.2.2.2.1
theorem dX10_plainOf_25 : decode cX10_plainOf 25 = .ok (.iload_n 1, 1) := da9_dX10_plainOf_0.2.2.2.2.2.2.2.2.2.2.2.2.2.2.1
theorem dX10_plainOf_26 : decode cX10_plainOf 26 = .ok (.invokevirtual 329, 3) := da9_dX10_plainOf_0.2.2.2.2.2.2.2.2.2.2.2.2.2.2.2
theorem da9_dX10_plainOf_29 : (decode cX10_plainOf 29 = .ok (.iload_n 2, 1)) ∧ (decode cX10_plainOf 30 = .ok (.if_icmp .eq 7, 3)) ∧ (decode cX10_plainOf 33 = .ok (.iconst 1, 1)) ∧ (decode cX10_plainOf 34 = .ok (.goto 4, 3)) ∧ (decode cX10_plainOf 37 = .ok (.iconst 0, 1)) ∧ (decode cX10_plainOf 38 = .ok (.ireturn, 1)) := by decide +kernel
theorem dX10_plainOf_29 : decode cX10_plainOf 29 = .ok (.iload_n 2, 1) := da9_dX10_plainOf_29.1
theorem dX10_plainOf_30 : decode cX10_plainOf 30 = .ok (.if_icmp .eq 7, 3) := da9_dX10_plainOf_29.2.1
theorem dX10_plainOf_33 : decode cX10_plainOf 33 = .ok (.iconst 1, 1) := da9_dX10_plainOf_29.2.2.1
theorem dX10_plainOf_34 : decode cX10_plainOf 34 = .ok (.goto 4, 3) := da9_dX10_plainOf_29.2.2.2.1
theorem dX10_plainOf_37 : decode cX10_plainOf 37 = .ok (.iconst 0, 1) := da9_dX10_plainOf_29.2.2.2.2.1
theorem dX10_plainOf_38 : decode cX10_plainOf 38 = .ok (.ireturn, 1) := da9_dX10_plainOf_29.2.2.2.2.2
set_option maxRecDepth 20000 in
theorem ggX10_positiveOf_X10_sign : GoodIn wsX10_positiveOf wsX10_sign := goodIn_r _ [6] rfl (by decide +kernel)
set_option maxRecDepth 20000 in
theorem gX10_positiveOf_X10_sign : GoodIn wsX10_positiveOf (va_wsS RX10 237 yX10_sign wsX10_sign) := goodIn_app (goodIn_of _ (by decide +kernel)) ggX10_positiveOf_X10_sign
set_option maxRecDepth 20000 in
theorem ggX10_positiveOf_X10_passes0 : GoodIn wsX10_positiveOf wsX10_passes0 := goodIn_r _ [10, 1, 11, 12, 13, 5, 14, 15, 16, 77, 78, 79, 80, 81, 82, 83, 84, 85, 86, 87, 88, 89, 90, 91, 92, 93, 94, 95, 96, 97, 98, 99, 100, 101, 102, 103, 104, 105, 106, 107, 108, 109, 110, 111, 112, 113, 114, 115, 116, 117, 118, 119, 120, 121, 122, 123, 124, 125, 126, 127, 128, 129, 130, 131, 132] rfl (by decide +kernel)
set_option maxRecDepth 20000 in
theorem gX10_positiveOf_X10_passes0 : GoodIn wsX10_positiveOf (wsV RX10 302 RX10 yX10_passes0 wsX10_passes0) := goodIn_app (goodIn_of _ (by decide +kernel)) ggX10_positiveOf_X10_passes0
set_option maxRecDepth 20000 in
theorem ggX10_positiveOf_X10_testOf : GoodIn wsX10_positiveOf wsX10_testOf := goodIn_r _ [73, 74, 75, 76, 5, 7, 8, 9, 10, 1, 11, 12, 13, 14, 15, 16, 65, 66, 67, 68, 69, 70, 71, 72, 0, 2, 3, 4, 6, 17, 18, 19, 20, 21, 22, 23, 24, 25, 26, 27, 28, 29, 30, 31, 32, 33, 34, 35, 36, 37, 38, 39, 40, 41, 42, 43, 44, 45, 46, 47, 48, 49, 50, 51, 52, 53, 54, 55, 56, 57, 58, 59, 60, 61, 62, 63, 64, 77, 78, 79, 80, 81, 82, 83, 84, 85, 86, 87, 88, 89, 90, 91, 92, 93, 94, 95, 96, 97, 98, 99, 100, 101, 102, 103, 104, 105, 106, 107, 108, 109, 110, 111, 112, 113, 114, 115, 116, 117, 118, 119, 120, 121, 122, 123, 124, 125, 126, 127, 128, 129, 130, 131, 132] rfl (by decide +kernel)
set_option maxRecDepth 20000 in
theorem gX10_positiveOf_X10_testOf : GoodIn wsX10_positiveOf (wsV RX10 332 RX10 yX10_testOf wsX10_testOf) := goodIn_app (goodIn_of _ (by decide +kernel)) ggX10_positiveOf_X10_testOf
set_option maxRecDepth 20000 in
theorem ggX10_positiveOf_X10_sumOf : GoodIn wsX10_positiveOf wsX10_sumOf := goodIn_r _ [23, 1, 24, 25, 26, 5, 11, 12, 13, 14, 15, 16, 3, 4, 6, 27, 28, 29, 30, 31, 32, 2, 33, 34, 35, 7, 8, 9, 10, 20, 21, 22, 36, 37, 38, 39, 40, 41, 42, 43, 44, 45, 46, 47, 48, 49, 50, 51, 52, 53, 54, 55, 56, 57, 58, 59, 60, 61, 62, 63, 64, 77, 78, 79, 80, 81, 82, 83, 84, 85, 86, 87, 88, 89, 90, 91, 92, 93, 94, 95, 96, 97, 98, 99, 100, 101, 102, 103, 104, 105, 106, 107, 108, 109, 110, 111, 112, 113, 114, 115, 116, 117, 118, 119, 120, 121, 122, 123, 124, 125, 126, 127, 128, 129, 130, 131, 132] rfl (by decide +kernel)
set_option maxRecDepth 20000 in
theorem gX10_positiveOf_X10_sumOf : GoodIn wsX10_positiveOf (wsV RX10 305 RX10 yX10_sumOf wsX10_sumOf) := goodIn_app (goodIn_of _ (by decide +kernel)) ggX10_positiveOf_X10_sumOf
set_option maxRecDepth 20000 in
theorem ggX10_positiveOf_X10_codeAt : GoodIn wsX10_positiveOf wsX10_codeAt := goodIn_r _ [14, 15, 16, 77, 78, 79, 80, 81, 82, 83, 84, 85, 86, 87, 88, 89, 90, 91, 92, 93, 94, 95, 96, 97, 98, 99, 100, 101, 102, 103, 104, 105, 106, 107, 108, 109, 110, 111, 112, 113, 114, 115, 116, 117, 118, 119, 120, 121, 122, 123, 124, 125, 126, 127, 128, 129, 130, 131, 132] rfl (by decide +kernel)
set_option maxRecDepth 20000 in
theorem gX10_positiveOf_X10_codeAt : GoodIn wsX10_positiveOf (wsV RX10 281 RX10 yX10_codeAt wsX10_codeAt) := goodIn_app (goodIn_of _ (by decide +kernel)) ggX10_positiveOf_X10_codeAt
theorem da9_dX10_positiveOf_0 : (decode cX10_positiveOf 0 = .ok (.aload_n 0, 1)) ∧ (decode cX10_positiveOf 1 = .ok (.bipush 40, 2)) ∧ (decode cX10_positiveOf 3 = .ok (.invokestatic 237, 3)) ∧ (decode cX10_positiveOf 6 = .ok (.invokevirtual 302, 3)) ∧ (decode cX10_positiveOf 9 = .ok (.ifCond .eq 21, 3)) ∧ (decode cX10_positiveOf 12 = .ok (.aload_n 0, 1)) ∧ (decode cX10_positiveOf 13 = .ok (.iload_n 1, 1)) ∧ (decode cX10_positiveOf 14 = .ok (.invokevirtual 332, 3)) ∧ (decode cX10_positiveOf 17 = .ok (.istore_n 2, 1)) ∧ (decode cX10_positiveOf 18 = .ok (.aload_n 0, 1)) ∧ (decode cX10_positiveOf 19 = .ok (.dup, 1)) ∧ (decode cX10_positiveOf 20 = .ok (.getfield 278, 3)) ∧ (decode cX10_positiveOf 23 = .ok (.iconst 1, 1)) ∧ (decode cX10_positiveOf 24 = .ok (.iadd, 1)) ∧ (decode cX10_positiveOf 25 = .ok (.putfield 278, 3)) ∧ (decode cX10_positiveOf 28 = .ok (.iload_n 2, 1)) := by decide +kernel
theorem dX10_positiveOf_0 : decode cX10_positiveOf 0 = .ok (.aload_n 0, 1) := da9_dX10_positiveOf_0.1
theorem dX10_positiveOf_1 : decode cX10_positiveOf 1 = .ok (.bipush 40, 2) := da9_dX10_positiveOf_0.2.1
theorem dX10_positiveOf_3 : decode cX10_positiveOf 3 = .ok (.invokestatic 237, 3) := da9_dX10_positiveOf_0.2.2.1
theorem dX10_positiveOf_6 : decode cX10_positiveOf 6 = .ok (.invokevirtual 302, 3) := da9_dX10_positiveOf_0.2.2.2.1
theorem dX10_positiveOf_9 : decode cX10_positiveOf 9 = .ok (.ifCond .eq 21, 3) := da9_dX10_positiveOf_0.2.2.2.2.1
theorem dX10_positiveOf_12 : decode cX10_positiveOf 12 = .ok (.aload_n 0, 1) := da9_dX10_positiveOf_0.2.2.2.2.2.1
theorem dX10_positiveOf_13 : decode cX10_positiveOf 13 = .ok (.iload_n 1, 1) := da9_dX10_positiveOf_0.2.2.2.2.2.2.1
theorem dX10_positiveOf_14 : decode cX10_positiveOf 14 = .ok (.invokevirtual 332, 3) := da9_dX10_positiveOf_0.2.2.2.2.2.2.2.1
theorem dX10_positiveOf_17 : decode cX10_positiveOf 17 = .ok (.istore_n 2, 1) := da9_dX10_positiveOf_0.2.2.2.2.2.2.2.2.1
theorem dX10_positiveOf_18 : decode cX10_positiveOf 18 = .ok (.aload_n 0, 1) := da9_dX10_positiveOf_0.2.2.2.2.2.2.2.2.2.1
theorem dX10_positiveOf_19 : decode cX10_positiveOf 19 = .ok (.dup, 1) := da9_dX10_positiveOf_0.2.2.2.2.2.2.2.2.2.2.1
theorem dX10_positiveOf_20 : decode cX10_positiveOf 20 = .ok (.getfield 278, 3) := da9_dX10_positiveOf_0.2.2.2.2.2.2.2.2.2.2.2.1
theorem dX10_positiveOf_23 : decode cX10_positiveOf 23 = .ok (.iconst 1, 1) := da9_dX10_positiveOf_0.2.2.2.2.2.2.2.2.2.2.2.2.1
theorem dX10_positiveOf_24 : decode cX10_positiveOf 24 = .ok (.iadd, 1) := da9_dX10_positiveOf_0.2.2.2.2.2.2.2.2.2.2.2.2.2.1
theorem dX10_positiveOf_25 : decode cX10_positiveOf 25 = .ok (.putfield 278, 3) := da9_dX10_positiveOf_0.2.2.2.2.2.2.2.2.2.2.2.2.2.2.1
theorem dX10_positiveOf_28 : decode cX10_positiveOf 28 = .ok (.iload_n 2, 1) := da9_dX10_positiveOf_0.2.2.2.2.2.2.2.2.2.2.2.2.2.2.2
theorem da9_dX10_positiveOf_29 : (decode cX10_positiveOf 29 = .ok (.ireturn, 1)) ∧ (decode cX10_positiveOf 30 = .ok (.aload_n 0, 1)) ∧ (decode cX10_positiveOf 31 = .ok (.iload_n 1, 1)) ∧ (decode cX10_positiveOf 32 = .ok (.invokevirtual 305, 3)) ∧ (decode cX10_positiveOf 35 = .ok (.lstore_n 2, 1)) ∧ (decode cX10_positiveOf 36 = .ok (.aload_n 0, 1)) ∧ (decode cX10_positiveOf 37 = .ok (.aload_n 0, 1)) ∧ (decode cX10_positiveOf 38 = .ok (.getfield 278, 3)) ∧ (decode cX10_positiveOf 41 = .ok (.invokevirtual 281, 3)) ∧ (decode cX10_positiveOf 44 = .ok (.istore 4, 2)) ∧ (decode cX10_positiveOf 46 = .ok (.aload_n 0, 1)) ∧ (decode cX10_positiveOf 47 = .ok (.dup, 1)) ∧ (decode cX10_positiveOf 48 = .ok (.getfield 278, 3)) ∧ (decode cX10_positiveOf 51 = .ok (.iconst 1, 1)) ∧ (decode cX10_positiveOf 52 = .ok (.iadd, 1)) ∧ (decode cX10_positiveOf 53 = .ok (.putfield 278, 3)) := by decide +kernel
theorem dX10_positiveOf_29 : decode cX10_positiveOf 29 = .ok (.ireturn, 1) := da9_dX10_positiveOf_29.1
theorem dX10_positiveOf_30 : decode cX10_positiveOf 30 = .ok (.aload_n 0, 1) := da9_dX10_positiveOf_29.2.1
theorem dX10_positiveOf_31 : decode cX10_positiveOf 31 = .ok (.iload_n 1, 1) := da9_dX10_positiveOf_29.2.2.1
theorem dX10_positiveOf_32 : decode cX10_positiveOf 32 = .ok (.invokevirtual 305, 3) := da9_dX10_positiveOf_29.2.2.2.1
theorem dX10_positiveOf_35 : decode cX10_positiveOf 35 = .ok (.lstore_n 2, 1) := da9_dX10_positiveOf_29.2.2.2.2.1
theorem dX10_positiveOf_36 : decode cX10_positiveOf 36 = .ok (.aload_n 0, 1) := da9_dX10_positiveOf_29.2.2.2.2.2.1
theorem dX10_positiveOf_37 : decode cX10_positiveOf 37 = .ok (.aload_n 0, 1) := da9_dX10_positiveOf_29.2.2.2.2.2.2.1
theorem dX10_positiveOf_38 : decode cX10_positiveOf 38 = .ok (.getfield 278, 3) := da9_dX10_positiveOf_29.2.2.2.2.2.2.2.1
theorem dX10_positiveOf_41 : decode cX10_positiveOf 41 = .ok (.invokevirtual 281, 3) := da9_dX10_positiveOf_29.2.2.2.2.2.2.2.2.1
theorem dX10_positiveOf_44 : decode cX10_positiveOf 44 = .ok (.istore 4, 2) := da9_dX10_positiveOf_29.2.2.2.2.2.2.2.2.2.1
theorem dX10_positiveOf_46 : decode cX10_positiveOf 46 = .ok (.aload_n 0, 1) := da9_dX10_positiveOf_29.2.2.2.2.2.2.2.2.2.2.1
theorem dX10_positiveOf_47 : decode cX10_positiveOf 47 = .ok (.dup, 1) := da9_dX10_positiveOf_29.2.2.2.2.2.2.2.2.2.2.2.1
theorem dX10_positiveOf_48 : decode cX10_positiveOf 48 = .ok (.getfield 278, 3) := da9_dX10_positiveOf_29.2.2.2.2.2.2.2.2.2.2.2.2.1
theorem dX10_positiveOf_51 : decode cX10_positiveOf 51 = .ok (.iconst 1, 1) := da9_dX10_positiveOf_29.2.2.2.2.2.2.2.2.2.2.2.2.2.1
theorem dX10_positiveOf_52 : decode cX10_positiveOf 52 = .ok (.iadd, 1) := da9_dX10_positiveOf_29.2.2.2.2.2.2.2.2.2.2.2.2.2.2.1
theorem dX10_positiveOf_53 : decode cX10_positiveOf 53 = .ok (.putfield 278, 3) := da9_dX10_positiveOf_29.2.2.2.2.2.2.2.2.2.2.2.2.2.2.2
theorem da9_dX10_positiveOf_56 : (decode cX10_positiveOf 56 = .ok (.aload_n 0, 1)) ∧ (decode cX10_positiveOf 57 = .ok (.iload_n 1, 1)) ∧ (decode cX10_positiveOf 58 = .ok (.invokevirtual 305, 3)) ∧ (decode cX10_positiveOf 61 = .ok (.lstore 5, 2)) ∧ (decode cX10_positiveOf 63 = .ok (.iload_n 1, 1)) ∧ (decode cX10_positiveOf 64 = .ok (.ifCond .eq 61, 3)) ∧ (decode cX10_positiveOf 67 = .ok (.aload_n 0, 1)) ∧ (decode cX10_positiveOf 68 = .ok (.getfield 288, 3)) ∧ (decode cX10_positiveOf 71 = .ok (.ifCond .ne 54, 3)) ∧ (decode cX10_positiveOf 74 = .ok (.iload 4, 2)) ∧ (decode cX10_positiveOf 76 = .ok (.bipush 60, 2)) ∧ (decode cX10_positiveOf 78 = .ok (.invokestatic 237, 3)) ∧ (decode cX10_positiveOf 81 = .ok (.if_icmp .ne 13, 3)) ∧ (decode cX10_positiveOf 84 = .ok (.lload_n 2, 1)) ∧ (decode cX10_positiveOf 85 = .ok (.lload 5, 2)) ∧ (decode cX10_positiveOf 87 = .ok (.lcmp, 1)) := by decide +kernel
theorem dX10_positiveOf_56 : decode cX10_positiveOf 56 = .ok (.aload_n 0, 1) := da9_dX10_positiveOf_56.1
theorem dX10_positiveOf_57 : decode cX10_positiveOf 57 = .ok (.iload_n 1, 1) := da9_dX10_positiveOf_56.2.1
theorem dX10_positiveOf_58 : decode cX10_positiveOf 58 = .ok (.invokevirtual 305, 3) := da9_dX10_positiveOf_56.2.2.1
theorem dX10_positiveOf_61 : decode cX10_positiveOf 61 = .ok (.lstore 5, 2) := da9_dX10_positiveOf_56.2.2.2.1
theorem dX10_positiveOf_63 : decode cX10_positiveOf 63 = .ok (.iload_n 1, 1) := da9_dX10_positiveOf_56.2.2.2.2.1
theorem dX10_positiveOf_64 : decode cX10_positiveOf 64 = .ok (.ifCond .eq 61, 3) := da9_dX10_positiveOf_56.2.2.2.2.2.1
theorem dX10_positiveOf_67 : decode cX10_positiveOf 67 = .ok (.aload_n 0, 1) := da9_dX10_positiveOf_56.2.2.2.2.2.2.1
theorem dX10_positiveOf_68 : decode cX10_positiveOf 68 = .ok (.getfield 288, 3) := da9_dX10_positiveOf_56.2.2.2.2.2.2.2.1
theorem dX10_positiveOf_71 : decode cX10_positiveOf 71 = .ok (.ifCond .ne 54, 3) := da9_dX10_positiveOf_56.2.2.2.2.2.2.2.2.1
theorem dX10_positiveOf_74 : decode cX10_positiveOf 74 = .ok (.iload 4, 2) := da9_dX10_positiveOf_56.2.2.2.2.2.2.2.2.2.1
theorem dX10_positiveOf_76 : decode cX10_positiveOf 76 = .ok (.bipush 60, 2) := da9_dX10_positiveOf_56.2.2.2.2.2.2.2.2.2.2.1
theorem dX10_positiveOf_78 : decode cX10_positiveOf 78 = .ok (.invokestatic 237, 3) := da9_dX10_positiveOf_56.2.2.2.2.2.2.2.2.2.2.2.1
theorem dX10_positiveOf_81 : decode cX10_positiveOf 81 = .ok (.if_icmp .ne 13, 3) := da9_dX10_positiveOf_56.2.2.2.2.2.2.2.2.2.2.2.2.1
theorem dX10_positiveOf_84 : decode cX10_positiveOf 84 = .ok (.lload_n 2, 1) := da9_dX10_positiveOf_56.2.2.2.2.2.2.2.2.2.2.2.2.2.1
theorem dX10_positiveOf_85 : decode cX10_positiveOf 85 = .ok (.lload 5, 2) := da9_dX10_positiveOf_56.2.2.2.2.2.2.2.2.2.2.2.2.2.2.1
theorem dX10_positiveOf_87 : decode cX10_positiveOf 87 = .ok (.lcmp, 1) := da9_dX10_positiveOf_56.2.2.2.2.2.2.2.2.2.2.2.2.2.2.2
theorem da9_dX10_positiveOf_88 : (decode cX10_positiveOf 88 = .ok (.ifCond .ge 37, 3)) ∧ (decode cX10_positiveOf 91 = .ok (.goto 30, 3)) ∧ (decode cX10_positiveOf 94 = .ok (.iload 4, 2)) ∧ (decode cX10_positiveOf 96 = .ok (.bipush 62, 2)) ∧ (decode cX10_positiveOf 98 = .ok (.invokestatic 237, 3)) ∧ (decode cX10_positiveOf 101 = .ok (.if_icmp .ne 13, 3)) ∧ (decode cX10_positiveOf 104 = .ok (.lload_n 2, 1)) ∧ (decode cX10_positiveOf 105 = .ok (.lload 5, 2)) ∧ (decode cX10_positiveOf 107 = .ok (.lcmp, 1)) ∧ (decode cX10_positiveOf 108 = .ok (.ifCond .le 17, 3)) ∧ (decode cX10_positiveOf 111 = .ok (.goto 10, 3)) ∧ (decode cX10_positiveOf 114 = .ok (.lload_n 2, 1)) ∧ (decode cX10_positiveOf 115 = .ok (.lload 5, 2)) ∧ (decode cX10_positiveOf 117 = .ok (.lcmp, 1)) ∧ (decode cX10_positiveOf 118 = .ok (.ifCond .ne 7, 3)) ∧ (decode cX10_positiveOf 121 = .ok (.iconst 1, 1)) := by decide +kernel
theorem dX10_positiveOf_88 : decode cX10_positiveOf 88 = .ok (.ifCond .ge 37, 3) := da9_dX10_positiveOf_88.1
theorem dX10_positiveOf_91 : decode cX10_positiveOf 91 = .ok (.goto 30, 3) := da9_dX10_positiveOf_88.2.1
theorem dX10_positiveOf_94 : decode cX10_positiveOf 94 = .ok (.iload 4, 2) := da9_dX10_positiveOf_88.2.2.1
theorem dX10_positiveOf_96 : decode cX10_positiveOf 96 = .ok (.bipush 62, 2) := da9_dX10_positiveOf_88.2.2.2.1
theorem dX10_positiveOf_98 : decode cX10_positiveOf 98 = .ok (.invokestatic 237, 3) := da9_dX10_positiveOf_88.2.2.2.2.1
theorem dX10_positiveOf_101 : decode cX10_positiveOf 101 = .ok (.if_icmp .ne 13, 3) := da9_dX10_positiveOf_88.2.2.2.2.2.1
theorem dX10_positiveOf_104 : decode cX10_positiveOf 104 = .ok (.lload_n 2, 1) := da9_dX10_positiveOf_88.2.2.2.2.2.2.1
theorem dX10_positiveOf_105 : decode cX10_positiveOf 105 = .ok (.lload 5, 2) := da9_dX10_positiveOf_88.2.2.2.2.2.2.2.1
theorem dX10_positiveOf_107 : decode cX10_positiveOf 107 = .ok (.lcmp, 1) := da9_dX10_positiveOf_88.2.2.2.2.2.2.2.2.1
theorem dX10_positiveOf_108 : decode cX10_positiveOf 108 = .ok (.ifCond .le 17, 3) := da9_dX10_positiveOf_88.2.2.2.2.2.2.2.2.2.1
theorem dX10_positiveOf_111 : decode cX10_positiveOf 111 = .ok (.goto 10, 3) := da9_dX10_positiveOf_88.2.2.2.2.2.2.2.2.2.2.1
theorem dX10_positiveOf_114 : decode cX10_positiveOf 114 = .ok (.lload_n 2, 1) := da9_dX10_positiveOf_88.2.2.2.2.2.2.2.2.2.2.2.1
theorem dX10_positiveOf_115 : decode cX10_positiveOf 115 = .ok (.lload 5, 2) := da9_dX10_positiveOf_88.2.2.2.2.2.2.2.2.2.2.2.2.1
theorem dX10_positiveOf_117 : decode cX10_positiveOf 117 = .ok (.lcmp, 1) := da9_dX10_positiveOf_88.2.2.2.2.2.2.2.2.2.2.2.2.2.1
theorem dX10_positiveOf_118 : decode cX10_positiveOf 118 = .ok (.ifCond .ne 7, 3) := da9_dX10_positiveOf_88.2.2.2.2.2.2.2.2.2.2.2.2.2.2.1
theorem dX10_positiveOf_121 : decode cX10_positiveOf 121 = .ok (.iconst 1, 1) := da9_dX10_positiveOf_88.2.2.2.2.2.2.2.2.2.2.2.2.2.2.2
theorem da9_dX10_positiveOf_122 : (decode cX10_positiveOf 122 = .ok (.goto 4, 3)) ∧ (decode cX10_positiveOf 125 = .ok (.iconst 0, 1)) ∧ (decode cX10_positiveOf 126 = .ok (.ireturn, 1)) := by decide +kernel
theorem dX10_positiveOf_122 : decode cX10_positiveOf 122 = .ok (.goto 4, 3) := da9_dX10_positiveOf_122.1
theorem dX10_positiveOf_125 : decode cX10_positiveOf 125 = .ok (.iconst 0, 1) := da9_dX10_positiveOf_122.2.1
theorem dX10_positiveOf_126 : decode cX10_positiveOf 126 = .ok (.ireturn, 1) := da9_dX10_positiveOf_122.2.2
