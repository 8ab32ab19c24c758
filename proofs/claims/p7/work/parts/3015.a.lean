set_option maxRecDepth 20000 in
theorem ggX10_was_X10_size : GoodIn wsX10_was wsX10_size := goodIn_r _ [5, 6, 111, 112, 113, 114, 115, 116, 117, 118, 119, 120, 121, 122, 123, 124, 125, 126, 127, 128, 129, 130, 131, 132, 133, 134, 135, 136, 137, 138, 139, 140, 141, 142, 143, 144, 145, 146, 147, 148, 149, 150, 151, 152, 153, 154, 155, 156, 157, 158, 159, 160, 161, 162, 163, 164, 165, 166] rfl (by decide +kernel)
set_option maxRecDepth 20000 in
theorem gX10_was_X10_size : GoodIn wsX10_was (wsV RX10 125 RX10 yX10_size wsX10_size) := goodIn_app (goodIn_of _ (by decide +kernel)) ggX10_was_X10_size
set_option maxRecDepth 20000 in
theorem ggX10_was_X10_itWas : GoodIn wsX10_was wsX10_itWas := goodIn_r _ [10, 6, 11, 12, 13, 4, 14, 1, 2, 3, 5, 15, 16, 17, 18, 19, 20, 21, 22, 23, 24, 25, 26, 27, 28, 29, 30, 31, 32, 33, 34, 35, 36, 37, 38, 39, 40, 41, 42, 43, 44, 45, 46, 47, 48, 49, 50, 51, 52, 53, 54, 55, 56, 57, 58, 59, 60, 61, 62, 63, 64, 65, 66, 67, 68, 69, 70, 71, 72, 73, 74, 75, 76, 77, 78, 79, 80, 81, 82, 83, 84, 85, 86, 87, 88, 89, 90, 91, 92, 93, 94, 95, 96, 97, 98, 99, 100, 101, 102, 103, 104, 105, 106, 107, 108, 109, 110, 111, 112, 113, 114, 115, 116, 117, 118, 119, 120, 121, 122, 123, 124, 125, 126, 127, 128, 129, 130, 131, 132, 133, 134, 135, 136, 137, 138, 139, 140, 141, 142, 143, 144, 145, 146, 147, 148, 149, 150, 151, 152, 153, 154, 155, 156, 157, 158, 159, 160, 161, 162, 163, 164, 165, 166] rfl (by decide +kernel)
set_option maxRecDepth 20000 in
theorem gX10_was_X10_itWas : GoodIn wsX10_was (wsV RX10 457 RX10 yX10_itWas wsX10_itWas) := goodIn_app (goodIn_of _ (by decide +kernel)) ggX10_was_X10_itWas
theorem dX10_was_0 : decode cX10_was 0 = .ok (.iconst 0, 1) := by decide +kernel
theorem dX10_was_1 : decode cX10_was 1 = .ok (.istore_n 1, 1) := by decide +kernel
theorem dX10_was_2 : decode cX10_was 2 = .ok (.iconst 1, 1) := by decide +kernel
theorem dX10_was_3 : decode cX10_was 3 = .ok (.istore_n 2, 1) := by decide +kernel
theorem dX10_was_4 : decode cX10_was 4 = .ok (.iload_n 2, 1) := by decide +kernel
theorem dX10_was_5 : decode cX10_was 5 = .ok (.aload_n 0, 1) := by decide +kernel
theorem dX10_was_6 : decode cX10_was 6 = .ok (.invokevirtual 125, 3) := by decide +kernel
theorem dX10_was_9 : decode cX10_was 9 = .ok (.if_icmp .gt 27, 3) := by decide +kernel
theorem dX10_was_12 : decode cX10_was 12 = .ok (.iload_n 1, 1) := by decide +kernel
theorem dX10_was_13 : decode cX10_was 13 = .ok (.aload_n 0, 1) := by decide +kernel
theorem dX10_was_14 : decode cX10_was 14 = .ok (.iload_n 2, 1) := by decide +kernel
theorem dX10_was_15 : decode cX10_was 15 = .ok (.invokevirtual 457, 3) := by decide +kernel
theorem dX10_was_18 : decode cX10_was 18 = .ok (.ifCond .eq 9, 3) := by decide +kernel
theorem dX10_was_21 : decode cX10_was 21 = .ok (.iconst 1, 1) := by decide +kernel
theorem dX10_was_22 : decode cX10_was 22 = .ok (.iload_n 2, 1) := by decide +kernel
theorem dX10_was_23 : decode cX10_was 23 = .ok (.ishl, 1) := by decide +kernel
theorem dX10_was_24 : decode cX10_was 24 = .ok (.goto 4, 3) := by decide +kernel
theorem dX10_was_27 : decode cX10_was 27 = .ok (.iconst 0, 1) := by decide +kernel
theorem dX10_was_28 : decode cX10_was 28 = .ok (.ior, 1) := by decide +kernel
theorem dX10_was_29 : decode cX10_was 29 = .ok (.istore_n 1, 1) := by decide +kernel
theorem dX10_was_30 : decode cX10_was 30 = .ok (.iinc 2 1, 3) := by decide +kernel
theorem dX10_was_33 : decode cX10_was 33 = .ok (.goto (-29), 3) := by decide +kernel
theorem dX10_was_36 : decode cX10_was 36 = .ok (.iload_n 1, 1) := by decide +kernel
theorem dX10_was_37 : decode cX10_was 37 = .ok (.ireturn, 1) := by decide +kernel
set_option maxRecDepth 20000 in
theorem ggX10_mostAlike_X10_size : GoodIn wsX10_mostAlike wsX10_size := goodIn_r _ [6, 7, 25, 26, 27, 28, 29, 30, 31, 32, 33, 34, 35, 36, 37, 38, 39, 40, 41, 42, 43, 44, 45, 46, 47, 48, 49, 50, 51, 52, 53, 54, 55, 56, 57, 58, 59, 60, 61, 62, 63, 64, 65, 66, 67, 68, 69, 70, 71, 72, 73, 74, 75, 76, 77, 78, 79, 80] rfl (by decide +kernel)
set_option maxRecDepth 20000 in
theorem gX10_mostAlike_X10_size : GoodIn wsX10_mostAlike (wsV RX10 125 RX10 yX10_size wsX10_size) := goodIn_app (goodIn_of _ (by decide +kernel)) ggX10_mostAlike_X10_size
set_option maxRecDepth 20000 in
theorem ggX10_mostAlike_X10_isIn : GoodIn wsX10_mostAlike wsX10_isIn := goodIn_r _ [10] rfl (by decide +kernel)
set_option maxRecDepth 20000 in
theorem gX10_mostAlike_X10_isIn : GoodIn wsX10_mostAlike (va_wsS RX10 383 yX10_isIn wsX10_isIn) := goodIn_app (goodIn_of _ (by decide +kernel)) ggX10_mostAlike_X10_isIn
set_option maxRecDepth 20000 in
theorem ggX10_mostAlike_X10_rankBehind : GoodIn wsX10_mostAlike wsX10_rankBehind := goodIn_r _ [14, 7, 15, 16, 17, 5, 18, 2, 3, 4, 6, 19, 20, 21, 25, 26, 27, 28, 29, 30, 31, 32, 33, 34, 35, 36, 37, 38, 39, 40, 41, 42, 43, 44, 45, 46, 47, 48, 49, 50, 51, 52, 53, 54, 55, 56, 57, 58, 59, 60, 61, 62, 63, 64, 65, 66, 67, 68, 69, 70, 71, 72, 73, 74, 75, 76, 77, 78, 79, 80] rfl (by decide +kernel)
set_option maxRecDepth 20000 in
theorem gX10_mostAlike_X10_rankBehind : GoodIn wsX10_mostAlike (wsV RX10 454 RX10 yX10_rankBehind wsX10_rankBehind) := goodIn_app (goodIn_of _ (by decide +kernel)) ggX10_mostAlike_X10_rankBehind
set_option maxRecDepth 20000 in
theorem ggX10_mostAlike_X10_greater : GoodIn wsX10_mostAlike wsX10_greater := goodIn_r _ [24] rfl (by decide +kernel)
set_option maxRecDepth 20000 in
theorem gX10_mostAlike_X10_greater : GoodIn wsX10_mostAlike (va_wsS RX10 439 yX10_greater wsX10_greater) := goodIn_app (goodIn_of _ (by decide +kernel)) ggX10_mostAlike_X10_greater
theorem dX10_mostAlike_0 : decode cX10_mostAlike 0 = .ok (.iconst 0, 1) := by decide +kernel
theorem dX10_mostAlike_1 : decode cX10_mostAlike 1 = .ok (.istore_n 3, 1) := by decide +kernel
theorem dX10_mostAlike_2 : decode cX10_mostAlike 2 = .ok (.iload_n 3, 1) := by decide +kernel
theorem dX10_mostAlike_3 : decode cX10_mostAlike 3 = .ok (.bipush 6, 2) := by decide +kernel
theorem dX10_mostAlike_5 : decode cX10_mostAlike 5 = .ok (.if_icmp .ge 16, 3) := by decide +kernel
theorem dX10_mostAlike_8 : decode cX10_mostAlike 8 = .ok (.aload_n 0, 1) := by decide +kernel
theorem dX10_mostAlike_9 : decode cX10_mostAlike 9 = .ok (.getfield 103, 3) := by decide +kernel
theorem dX10_mostAlike_12 : decode cX10_mostAlike 12 = .ok (.iload_n 3, 1) := by decide +kernel
theorem dX10_mostAlike_13 : decode cX10_mostAlike 13 = .ok (.iconst 0, 1) := by decide +kernel
theorem dX10_mostAlike_14 : decode cX10_mostAlike 14 = .ok (.iastore, 1) := by decide +kernel
theorem dX10_mostAlike_15 : decode cX10_mostAlike 15 = .ok (.iinc 3 1, 3) := by decide +kernel
theorem dX10_mostAlike_18 : decode cX10_mostAlike 18 = .ok (.goto (-16), 3) := by decide +kernel
theorem dX10_mostAlike_21 : decode cX10_mostAlike 21 = .ok (.iconst 0, 1) := by decide +kernel
theorem dX10_mostAlike_22 : decode cX10_mostAlike 22 = .ok (.istore_n 3, 1) := by decide +kernel
theorem dX10_mostAlike_23 : decode cX10_mostAlike 23 = .ok (.iconst 1, 1) := by decide +kernel
theorem dX10_mostAlike_24 : decode cX10_mostAlike 24 = .ok (.istore 4, 2) := by decide +kernel
theorem dX10_mostAlike_26 : decode cX10_mostAlike 26 = .ok (.iload 4, 2) := by decide +kernel
theorem dX10_mostAlike_28 : decode cX10_mostAlike 28 = .ok (.aload_n 0, 1) := by decide +kernel
theorem dX10_mostAlike_29 : decode cX10_mostAlike 29 = .ok (.invokevirtual 125, 3) := by decide +kernel
theorem dX10_mostAlike_32 : decode cX10_mostAlike 32 = .ok (.if_icmp .gt 53, 3) := by decide +kernel
theorem dX10_mostAlike_35 : decode cX10_mostAlike 35 = .ok (.iload_n 1, 1) := by decide +kernel
theorem dX10_mostAlike_36 : decode cX10_mostAlike 36 = .ok (.iload 4, 2) := by decide +kernel
theorem dX10_mostAlike_38 : decode cX10_mostAlike 38 = .ok (.invokestatic 383, 3) := by decide +kernel
theorem dX10_mostAlike_41 : decode cX10_mostAlike 41 = .ok (.ifCond .ne 6, 3) := by decide +kernel
theorem dX10_mostAlike_44 : decode cX10_mostAlike 44 = .ok (.goto 35, 3) := by decide +kernel
theorem dX10_mostAlike_47 : decode cX10_mostAlike 47 = .ok (.aload_n 0, 1) := by decide +kernel
theorem dX10_mostAlike_48 : decode cX10_mostAlike 48 = .ok (.iload 4, 2) := by decide +kernel
theorem dX10_mostAlike_50 : decode cX10_mostAlike 50 = .ok (.iload_n 2, 1) := by decide +kernel
theorem dX10_mostAlike_51 : decode cX10_mostAlike 51 = .ok (.invokevirtual 454, 3) := by decide +kernel
theorem dX10_mostAlike_54 : decode cX10_mostAlike 54 = .ok (.istore 5, 2) := by decide +kernel
theorem dX10_mostAlike_56 : decode cX10_mostAlike 56 = .ok (.aload_n 0, 1) := by decide +kernel
theorem dX10_mostAlike_57 : decode cX10_mostAlike 57 = .ok (.getfield 103, 3) := by decide +kernel
theorem dX10_mostAlike_60 : decode cX10_mostAlike 60 = .ok (.iload 5, 2) := by decide +kernel
theorem dX10_mostAlike_62 : decode cX10_mostAlike 62 = .ok (.dup2, 1) := by decide +kernel
theorem dX10_mostAlike_63 : decode cX10_mostAlike 63 = .ok (.iaload, 1) := by decide +kernel
theorem dX10_mostAlike_64 : decode cX10_mostAlike 64 = .ok (.iconst 1, 1) := by decide +kernel
theorem dX10_mostAlike_65 : decode cX10_mostAlike 65 = .ok (.iadd, 1) := by decide +kernel
theorem dX10_mostAlike_66 : decode cX10_mostAlike 66 = .ok (.iastore, 1) := by decide +kernel
theorem dX10_mostAlike_67 : decode cX10_mostAlike 67 = .ok (.iload_n 3, 1) := by decide +kernel
theorem dX10_mostAlike_68 : decode cX10_mostAlike 68 = .ok (.aload_n 0, 1) := by decide +kernel
theorem dX10_mostAlike_69 : decode cX10_mostAlike 69 = .ok (.getfield 103, 3) := by decide +kernel
theorem dX10_mostAlike_72 : decode cX10_mostAlike 72 = .ok (.iload 5, 2) := by decide +kernel
theorem dX10_mostAlike_74 : decode cX10_mostAlike 74 = .ok (.iaload, 1) := by decide +kernel
theorem dX10_mostAlike_75 : decode cX10_mostAlike 75 = .ok (.invokestatic 439, 3) := by decide +kernel
theorem dX10_mostAlike_78 : decode cX10_mostAlike 78 = .ok (.istore_n 3, 1) := by decide +kernel
theorem dX10_mostAlike_79 : decode cX10_mostAlike 79 = .ok (.iinc 4 1, 3) := by decide +kernel
theorem dX10_mostAlike_82 : decode cX10_mostAlike 82 = .ok (.goto (-56), 3) := by decide +kernel
theorem dX10_mostAlike_85 : decode cX10_mostAlike 85 = .ok (.iload_n 3, 1) := by decide +kernel
theorem dX10_mostAlike_86 : decode cX10_mostAlike 86 = .ok (.ireturn, 1) := by decide +kernel
set_option maxRecDepth 20000 in
theorem ggX10_look_X10_lies : GoodIn wsX10_look wsX10_lies := goodIn_r _ [5] rfl (by decide +kernel)
set_option maxRecDepth 20000 in
theorem gX10_look_X10_lies : GoodIn wsX10_look (va_wsS RX10 18 yX10_lies wsX10_lies) := goodIn_app (goodIn_of _ (by decide +kernel)) ggX10_look_X10_lies
set_option maxRecDepth 20000 in
theorem ggX10_look_X10_was : GoodIn wsX10_look wsX10_was := goodIn_r _ [9, 10, 11, 12, 4, 13, 14, 15, 16, 17, 18, 19, 20, 21, 22, 23, 24, 25, 26, 27, 28, 29, 30, 31, 32, 33, 34, 35, 36, 37, 38, 39, 40, 41, 42, 43, 44, 45, 46, 47, 48, 49, 50, 51, 52, 53, 54, 55, 56, 57, 58, 59, 60, 61, 62, 63, 64, 65, 66, 67, 68, 69, 70, 71, 72, 73, 74, 75, 76, 77, 78, 79, 80, 81, 82, 83, 2, 3, 5, 84, 85, 86, 87, 88, 89, 90, 91, 92, 93, 94, 95, 96, 97, 98, 99, 100, 101, 102, 103, 104, 105, 106, 107, 108, 109, 110, 111, 112, 113, 114, 115, 127, 128, 129, 130, 131, 132, 133, 134, 135, 136, 137, 138, 139, 140, 141, 142, 143, 144, 145, 146, 147, 148, 149, 150, 151, 152, 153, 154, 155, 156, 157, 158, 159, 160, 161, 162, 163, 164, 165, 166, 167, 168, 169, 170, 171, 172, 173, 174, 175, 176, 177, 178, 179, 180, 181, 182] rfl (by decide +kernel)
set_option maxRecDepth 20000 in
theorem gX10_look_X10_was : GoodIn wsX10_look (wsV RX10 460 RX10 yX10_was wsX10_was) := goodIn_app (goodIn_of _ (by decide +kernel)) ggX10_look_X10_was
set_option maxRecDepth 20000 in
theorem ggX10_look_X10_size : GoodIn wsX10_look wsX10_size := goodIn_r _ [13, 14, 127, 128, 129, 130, 131, 132, 133, 134, 135, 136, 137, 138, 139, 140, 141, 142, 143, 144, 145, 146, 147, 148, 149, 150, 151, 152, 153, 154, 155, 156, 157, 158, 159, 160, 161, 162, 163, 164, 165, 166, 167, 168, 169, 170, 171, 172, 173, 174, 175, 176, 177, 178, 179, 180, 181, 182] rfl (by decide +kernel)
set_option maxRecDepth 20000 in
theorem gX10_look_X10_size : GoodIn wsX10_look (wsV RX10 125 RX10 yX10_size wsX10_size) := goodIn_app (goodIn_of _ (by decide +kernel)) ggX10_look_X10_size
set_option maxRecDepth 20000 in
theorem ggX10_look_X10_mostAlike : GoodIn wsX10_look wsX10_mostAlike := goodIn_r _ [119, 120, 10, 11, 12, 4, 13, 14, 121, 122, 123, 112, 113, 114, 115, 80, 81, 82, 83, 2, 3, 5, 124, 125, 126, 127, 128, 129, 130, 131, 132, 133, 134, 135, 136, 137, 138, 139, 140, 141, 142, 143, 144, 145, 146, 147, 148, 149, 150, 151, 152, 153, 154, 155, 156, 157, 158, 159, 160, 161, 162, 163, 164, 165, 166, 167, 168, 169, 170, 171, 172, 173, 174, 175, 176, 177, 178, 179, 180, 181, 182] rfl (by decide +kernel)
set_option maxRecDepth 20000 in
theorem gX10_look_X10_mostAlike : GoodIn wsX10_look (wsV RX10 463 RX10 yX10_mostAlike wsX10_mostAlike) := goodIn_app (goodIn_of _ (by decide +kernel)) ggX10_look_X10_mostAlike
theorem dX10_look_0 : decode cX10_look 0 = .ok (.iload_n 1, 1) := by decide +kernel
theorem dX10_look_1 : decode cX10_look 1 = .ok (.iconst 0, 1) := by decide +kernel
theorem dX10_look_2 : decode cX10_look 2 = .ok (.iconst 1, 1) := by decide +kernel
theorem dX10_look_3 : decode cX10_look 3 = .ok (.invokestatic 18, 3) := by decide +kernel
theorem dX10_look_6 : decode cX10_look 6 = .ok (.ifCond .ne 5, 3) := by decide +kernel
theorem dX10_look_9 : decode cX10_look 9 = .ok (.iconst (-1), 1) := by decide +kernel
theorem dX10_look_10 : decode cX10_look 10 = .ok (.ireturn, 1) := by decide +kernel
theorem dX10_look_11 : decode cX10_look 11 = .ok (.aload_n 0, 1) := by decide +kernel
theorem dX10_look_12 : decode cX10_look 12 = .ok (.invokevirtual 460, 3) := by decide +kernel
theorem dX10_look_15 : decode cX10_look 15 = .ok (.istore_n 2, 1) := by decide +kernel
theorem dX10_look_16 : decode cX10_look 16 = .ok (.iconst (-1), 1) := by decide +kernel
theorem dX10_look_17 : decode cX10_look 17 = .ok (.istore_n 3, 1) := by decide +kernel
theorem dX10_look_18 : decode cX10_look 18 = .ok (.ldc 188, 2) := by decide +kernel
theorem dX10_look_20 : decode cX10_look 20 = .ok (.istore 4, 2) := by decide +kernel
theorem dX10_look_22 : decode cX10_look 22 = .ok (.iconst 0, 1) := by decide +kernel
theorem dX10_look_23 : decode cX10_look 23 = .ok (.istore 5, 2) := by decide +kernel
theorem dX10_look_25 : decode cX10_look 25 = .ok (.iload 5, 2) := by decide +kernel
theorem dX10_look_27 : decode cX10_look 27 = .ok (.aload_n 0, 1) := by decide +kernel
theorem dX10_look_28 : decode cX10_look 28 = .ok (.invokevirtual 125, 3) := by decide +kernel
theorem dX10_look_31 : decode cX10_look 31 = .ok (.if_icmp .ge 39, 3) := by decide +kernel
theorem dX10_look_34 : decode cX10_look 34 = .ok (.iload_n 2, 1) := by decide +kernel
theorem dX10_look_35 : decode cX10_look 35 = .ok (.ifCond .eq 35, 3) := by decide +kernel
theorem dX10_look_38 : decode cX10_look 38 = .ok (.aload_n 0, 1) := by decide +kernel
theorem dX10_look_39 : decode cX10_look 39 = .ok (.iload_n 2, 1) := by decide +kernel
theorem dX10_look_40 : decode cX10_look 40 = .ok (.iload 5, 2) := by decide +kernel
theorem dX10_look_42 : decode cX10_look 42 = .ok (.invokevirtual 463, 3) := by decide +kernel
theorem dX10_look_45 : decode cX10_look 45 = .ok (.istore 6, 2) := by decide +kernel
theorem dX10_look_47 : decode cX10_look 47 = .ok (.iload 6, 2) := by decide +kernel
theorem dX10_look_49 : decode cX10_look 49 = .ok (.iload 4, 2) := by decide +kernel
theorem dX10_look_51 : decode cX10_look 51 = .ok (.if_icmp .lt 6, 3) := by decide +kernel
theorem dX10_look_54 : decode cX10_look 54 = .ok (.goto 10, 3) := by decide +kernel
theorem dX10_look_57 : decode cX10_look 57 = .ok (.iload 6, 2) := by decide +kernel
theorem dX10_look_59 : decode cX10_look 59 = .ok (.istore 4, 2) := by decide +kernel
theorem dX10_look_61 : decode cX10_look 61 = .ok (.iload 5, 2) := by decide +kernel
theorem dX10_look_63 : decode cX10_look 63 = .ok (.istore_n 3, 1) := by decide +kernel
theorem dX10_look_64 : decode cX10_look 64 = .ok (.iinc 5 1, 3) := by decide +kernel
theorem dX10_look_67 : decode cX10_look 67 = .ok (.goto (-42), 3) := by decide +kernel
theorem dX10_look_70 : decode cX10_look 70 = .ok (.iload_n 3, 1) := by decide +kernel
theorem dX10_look_71 : decode cX10_look 71 = .ok (.iconst (-1), 1) := by decide +kernel
theorem dX10_look_72 : decode cX10_look 72 = .ok (.if_icmp .eq 7, 3) := by decide +kernel
theorem dX10_look_75 : decode cX10_look 75 = .ok (.iload_n 1, 1) := by decide +kernel
theorem dX10_look_76 : decode cX10_look 76 = .ok (.ifCond .ne 7, 3) := by decide +kernel
theorem dX10_look_79 : decode cX10_look 79 = .ok (.iload_n 3, 1) := by decide +kernel
theorem dX10_look_80 : decode cX10_look 80 = .ok (.goto 5, 3) := by decide +kernel
theorem dX10_look_83 : decode cX10_look 83 = .ok (.iload 4, 2) := by decide +kernel
theorem dX10_look_85 : decode cX10_look 85 = .ok (.ireturn, 1) := by decide +kernel
set_option maxRecDepth 20000 in
theorem ggX10_few_X10_lies : GoodIn wsX10_few wsX10_lies := goodIn_r _ [9] rfl (by decide +kernel)
set_option maxRecDepth 20000 in
theorem gX10_few_X10_lies : GoodIn wsX10_few (va_wsS RX10 18 yX10_lies wsX10_lies) := goodIn_app (goodIn_of _ (by decide +kernel)) ggX10_few_X10_lies
theorem dX10_few_0 : decode cX10_few 0 = .ok (.iload_n 1, 1) := by decide +kernel
theorem dX10_few_1 : decode cX10_few 1 = .ok (.iconst 1, 1) := by decide +kernel
theorem dX10_few_2 : decode cX10_few 2 = .ok (.bipush 20, 2) := by decide +kernel
theorem dX10_few_4 : decode cX10_few 4 = .ok (.invokestatic 18, 3) := by decide +kernel
theorem dX10_few_7 : decode cX10_few 7 = .ok (.ifCond .eq 13, 3) := by decide +kernel
theorem dX10_few_10 : decode cX10_few 10 = .ok (.iload_n 2, 1) := by decide +kernel
theorem dX10_few_11 : decode cX10_few 11 = .ok (.iconst 0, 1) := by decide +kernel
theorem dX10_few_12 : decode cX10_few 12 = .ok (.bipush 99, 2) := by decide +kernel
theorem dX10_few_14 : decode cX10_few 14 = .ok (.invokestatic 18, 3) := by decide +kernel
theorem dX10_few_17 : decode cX10_few 17 = .ok (.ifCond .ne 7, 3) := by decide +kernel
theorem dX10_few_20 : decode cX10_few 20 = .ok (.ldc2_w 466, 3) := by decide +kernel
theorem dX10_few_23 : decode cX10_few 23 = .ok (.lreturn, 1) := by decide +kernel
theorem dX10_few_24 : decode cX10_few 24 = .ok (.iconst 0, 1) := by decide +kernel
theorem dX10_few_25 : decode cX10_few 25 = .ok (.istore_n 3, 1) := by decide +kernel
theorem dX10_few_26 : decode cX10_few 26 = .ok (.iload_n 3, 1) := by decide +kernel
theorem dX10_few_27 : decode cX10_few 27 = .ok (.bipush 20, 2) := by decide +kernel
theorem dX10_few_29 : decode cX10_few 29 = .ok (.if_icmp .gt 26, 3) := by decide +kernel
theorem dX10_few_32 : decode cX10_few 32 = .ok (.aload_n 0, 1) := by decide +kernel
theorem dX10_few_33 : decode cX10_few 33 = .ok (.getfield 106, 3) := by decide +kernel
theorem dX10_few_36 : decode cX10_few 36 = .ok (.iload_n 3, 1) := by decide +kernel
theorem dX10_few_37 : decode cX10_few 37 = .ok (.iload_n 3, 1) := by decide +kernel
theorem dX10_few_38 : decode cX10_few 38 = .ok (.ifCond .ne 9, 3) := by decide +kernel
theorem dX10_few_41 : decode cX10_few 41 = .ok (.ldc2_w 468, 3) := by decide +kernel
theorem dX10_few_44 : decode cX10_few 44 = .ok (.goto 4, 3) := by decide +kernel
theorem dX10_few_47 : decode cX10_few 47 = .ok (.lconst 0, 1) := by decide +kernel
theorem dX10_few_48 : decode cX10_few 48 = .ok (.lastore, 1) := by decide +kernel
theorem dX10_few_49 : decode cX10_few 49 = .ok (.iinc 3 1, 3) := by decide +kernel
theorem dX10_few_52 : decode cX10_few 52 = .ok (.goto (-26), 3) := by decide +kernel
theorem dX10_few_55 : decode cX10_few 55 = .ok (.iconst 0, 1) := by decide +kernel
theorem dX10_few_56 : decode cX10_few 56 = .ok (.istore_n 3, 1) := by decide +kernel
theorem dX10_few_57 : decode cX10_few 57 = .ok (.iload_n 3, 1) := by decide +kernel
theorem dX10_few_58 : decode cX10_few 58 = .ok (.iload_n 2, 1) := by decide +kernel
theorem dX10_few_59 : decode cX10_few 59 = .ok (.if_icmp .ge 87, 3) := by decide +kernel
theorem dX10_few_62 : decode cX10_few 62 = .ok (.iload_n 1, 1) := by decide +kernel
theorem dX10_few_63 : decode cX10_few 63 = .ok (.iconst 1, 1) := by decide +kernel
theorem dX10_few_64 : decode cX10_few 64 = .ok (.isub, 1) := by decide +kernel
theorem dX10_few_65 : decode cX10_few 65 = .ok (.istore 4, 2) := by decide +kernel
theorem dX10_few_67 : decode cX10_few 67 = .ok (.iload 4, 2) := by decide +kernel
theorem dX10_few_69 : decode cX10_few 69 = .ok (.ifCond .lt 71, 3) := by decide +kernel
theorem dX10_few_72 : decode cX10_few 72 = .ok (.aload_n 0, 1) := by decide +kernel
theorem dX10_few_73 : decode cX10_few 73 = .ok (.getfield 106, 3) := by decide +kernel
theorem dX10_few_76 : decode cX10_few 76 = .ok (.iload 4, 2) := by decide +kernel
theorem dX10_few_78 : decode cX10_few 78 = .ok (.iconst 1, 1) := by decide +kernel
theorem dX10_few_79 : decode cX10_few 79 = .ok (.iadd, 1) := by decide +kernel
theorem dX10_few_80 : decode cX10_few 80 = .ok (.dup2, 1) := by decide +kernel
theorem dX10_few_81 : decode cX10_few 81 = .ok (.laload, 1) := by decide +kernel
theorem dX10_few_82 : decode cX10_few 82 = .ok (.aload_n 0, 1) := by decide +kernel
theorem dX10_few_83 : decode cX10_few 83 = .ok (.getfield 106, 3) := by decide +kernel
theorem dX10_few_86 : decode cX10_few 86 = .ok (.iload 4, 2) := by decide +kernel
theorem dX10_few_88 : decode cX10_few 88 = .ok (.laload, 1) := by decide +kernel
theorem dX10_few_89 : decode cX10_few 89 = .ok (.aload_n 0, 1) := by decide +kernel
theorem dX10_few_90 : decode cX10_few 90 = .ok (.getfield 28, 3) := by decide +kernel
theorem dX10_few_93 : decode cX10_few 93 = .ok (.bipush 26, 2) := by decide +kernel
theorem dX10_few_95 : decode cX10_few 95 = .ok (.iaload, 1) := by decide +kernel
theorem dX10_few_96 : decode cX10_few 96 = .ok (.i2l, 1) := by decide +kernel
theorem dX10_few_97 : decode cX10_few 97 = .ok (.lmul, 1) := by decide +kernel
theorem dX10_few_98 : decode cX10_few 98 = .ok (.ldc2_w 470, 3) := by decide +kernel
theorem dX10_few_101 : decode cX10_few 101 = .ok (.ldiv, 1) := by decide +kernel
theorem dX10_few_102 : decode cX10_few 102 = .ok (.ladd, 1) := by decide +kernel
theorem dX10_few_103 : decode cX10_few 103 = .ok (.lastore, 1) := by decide +kernel
theorem dX10_few_104 : decode cX10_few 104 = .ok (.aload_n 0, 1) := by decide +kernel
theorem dX10_few_105 : decode cX10_few 105 = .ok (.getfield 106, 3) := by decide +kernel
theorem dX10_few_108 : decode cX10_few 108 = .ok (.iload 4, 2) := by decide +kernel
theorem dX10_few_110 : decode cX10_few 110 = .ok (.aload_n 0, 1) := by decide +kernel
theorem dX10_few_111 : decode cX10_few 111 = .ok (.getfield 106, 3) := by decide +kernel
theorem dX10_few_114 : decode cX10_few 114 = .ok (.iload 4, 2) := by decide +kernel
theorem dX10_few_116 : decode cX10_few 116 = .ok (.laload, 1) := by decide +kernel
theorem dX10_few_117 : decode cX10_few 117 = .ok (.bipush 10, 2) := by decide +kernel
theorem dX10_few_119 : decode cX10_few 119 = .ok (.aload_n 0, 1) := by decide +kernel
theorem dX10_few_120 : decode cX10_few 120 = .ok (.getfield 28, 3) := by decide +kernel
theorem dX10_few_123 : decode cX10_few 123 = .ok (.bipush 26, 2) := by decide +kernel
theorem dX10_few_125 : decode cX10_few 125 = .ok (.iaload, 1) := by decide +kernel
theorem dX10_few_126 : decode cX10_few 126 = .ok (.isub, 1) := by decide +kernel
theorem dX10_few_127 : decode cX10_few 127 = .ok (.i2l, 1) := by decide +kernel
theorem dX10_few_128 : decode cX10_few 128 = .ok (.lmul, 1) := by decide +kernel
theorem dX10_few_129 : decode cX10_few 129 = .ok (.ldc2_w 470, 3) := by decide +kernel
theorem dX10_few_132 : decode cX10_few 132 = .ok (.ldiv, 1) := by decide +kernel
theorem dX10_few_133 : decode cX10_few 133 = .ok (.lastore, 1) := by decide +kernel
theorem dX10_few_134 : decode cX10_few 134 = .ok (.iinc 4 (-1), 3) := by decide +kernel
theorem dX10_few_137 : decode cX10_few 137 = .ok (.goto (-70), 3) := by decide +kernel
theorem dX10_few_140 : decode cX10_few 140 = .ok (.iinc 3 1, 3) := by decide +kernel
theorem dX10_few_143 : decode cX10_few 143 = .ok (.goto (-86), 3) := by decide +kernel
theorem dX10_few_146 : decode cX10_few 146 = .ok (.lconst 0, 1) := by decide +kernel
theorem dX10_few_147 : decode cX10_few 147 = .ok (.lstore_n 3, 1) := by decide +kernel
theorem dX10_few_148 : decode cX10_few 148 = .ok (.iconst 0, 1) := by decide +kernel
theorem dX10_few_149 : decode cX10_few 149 = .ok (.istore 5, 2) := by decide +kernel
theorem dX10_few_151 : decode cX10_few 151 = .ok (.iload 5, 2) := by decide +kernel
theorem dX10_few_153 : decode cX10_few 153 = .ok (.iload_n 1, 1) := by decide +kernel
theorem dX10_few_154 : decode cX10_few 154 = .ok (.if_icmp .ge 19, 3) := by decide +kernel
theorem dX10_few_157 : decode cX10_few 157 = .ok (.lload_n 3, 1) := by decide +kernel
theorem dX10_few_158 : decode cX10_few 158 = .ok (.aload_n 0, 1) := by decide +kernel
theorem dX10_few_159 : decode cX10_few 159 = .ok (.getfield 106, 3) := by decide +kernel
theorem dX10_few_162 : decode cX10_few 162 = .ok (.iload 5, 2) := by decide +kernel
theorem dX10_few_164 : decode cX10_few 164 = .ok (.laload, 1) := by decide +kernel
theorem dX10_few_165 : decode cX10_few 165 = .ok (.ladd, 1) := by decide +kernel
theorem dX10_few_166 : decode cX10_few 166 = .ok (.lstore_n 3, 1) := by decide +kernel
theorem dX10_few_167 : decode cX10_few 167 = .ok (.iinc 5 1, 3) := by decide +kernel
theorem dX10_few_170 : decode cX10_few 170 = .ok (.goto (-19), 3) := by decide +kernel
theorem dX10_few_173 : decode cX10_few 173 = .ok (.lload_n 3, 1) := by decide +kernel
theorem dX10_few_174 : decode cX10_few 174 = .ok (.lreturn, 1) := by decide +kernel
theorem dX10_stopped_0 : decode cX10_stopped 0 = .ok (.aload_n 0, 1) := by decide +kernel
theorem dX10_stopped_1 : decode cX10_stopped 1 = .ok (.getfield 110, 3) := by decide +kernel
theorem dX10_stopped_4 : decode cX10_stopped 4 = .ok (.ireturn, 1) := by decide +kernel
