theorem da9_dX4_fail_0 : (decode cX4_fail 0 = .ok (.aload_n 0, 1)) ∧ (decode cX4_fail 1 = .ok (.getfield 45, 3)) ∧ (decode cX4_fail 4 = .ok (.iconst (-1), 1)) ∧ (decode cX4_fail 5 = .ok (.if_icmp .ne 11, 3)) ∧ (decode cX4_fail 8 = .ok (.aload_n 0, 1)) ∧ (decode cX4_fail 9 = .ok (.aload_n 0, 1)) ∧ (decode cX4_fail 10 = .ok (.getfield 30, 3)) ∧ (decode cX4_fail 13 = .ok (.putfield 45, 3)) ∧ (decode cX4_fail 16 = .ok (.return_, 1)) := by decide +kernel
theorem dX4_fail_0 : decode cX4_fail 0 = .ok (.aload_n 0, 1) := da9_dX4_fail_0.1
theorem dX4_fail_1 : decode cX4_fail 1 = .ok (.getfield 45, 3) := da9_dX4_fail_0.2.1
theorem dX4_fail_4 : decode cX4_fail 4 = .ok (.iconst (-1), 1) := da9_dX4_fail_0.2.2.1
theorem dX4_fail_5 : decode cX4_fail 5 = .ok (.if_icmp .ne 11, 3) := da9_dX4_fail_0.2.2.2.1
theorem dX4_fail_8 : decode cX4_fail 8 = .ok (.aload_n 0, 1) := da9_dX4_fail_0.2.2.2.2.1
theorem dX4_fail_9 : decode cX4_fail 9 = .ok (.aload_n 0, 1) := da9_dX4_fail_0.2.2.2.2.2.1
theorem dX4_fail_10 : decode cX4_fail 10 = .ok (.getfield 30, 3) := da9_dX4_fail_0.2.2.2.2.2.2.1
theorem dX4_fail_13 : decode cX4_fail 13 = .ok (.putfield 45, 3) := da9_dX4_fail_0.2.2.2.2.2.2.2.1
theorem dX4_fail_16 : decode cX4_fail 16 = .ok (.return_, 1) := da9_dX4_fail_0.2.2.2.2.2.2.2.2
set_option maxRecDepth 20000 in
theorem ggX4_step_X4_tokenOf : GoodIn wsX4_step wsX4_tokenOf := goodIn_r _ [15] rfl (by decide +kernel)
set_option maxRecDepth 20000 in
theorem gX4_step_X4_tokenOf : GoodIn wsX4_step (va_wsS RX4 163 yX4_tokenOf wsX4_tokenOf) := goodIn_app (goodIn_of _ (by decide +kernel)) ggX4_step_X4_tokenOf
theorem da9_dX4_step_0 : (decode cX4_step 0 = .ok (.aload_n 0, 1)) ∧ (decode cX4_step 1 = .ok (.getfield 45, 3)) ∧ (decode cX4_step 4 = .ok (.iconst (-1), 1)) ∧ (decode cX4_step 5 = .ok (.if_icmp .eq 4, 3)) ∧ (decode cX4_step 8 = .ok (.return_, 1)) ∧ (decode cX4_step 9 = .ok (.aload_n 0, 1)) ∧ (decode cX4_step 10 = .ok (.aload_n 0, 1)) ∧ (decode cX4_step 11 = .ok (.getfield 33, 3)) ∧ (decode cX4_step 14 = .ok (.putfield 30, 3)) ∧ (decode cX4_step 17 = .ok (.aload_n 0, 1)) ∧ (decode cX4_step 18 = .ok (.getfield 30, 3)) ∧ (decode cX4_step 21 = .ok (.aload_n 0, 1)) ∧ (decode cX4_step 22 = .ok (.getfield 15, 3)) ∧ (decode cX4_step 25 = .ok (.if_icmp .ge 30, 3)) ∧ (decode cX4_step 28 = .ok (.aload_n 0, 1)) ∧ (decode cX4_step 29 = .ok (.getfield 9, 3)) := by decide +kernel
theorem dX4_step_0 : decode cX4_step 0 = .ok (.aload_n 0, 1) := da9_dX4_step_0.1
theorem dX4_step_1 : decode cX4_step 1 = .ok (.getfield 45, 3) := da9_dX4_step_0.2.1
theorem dX4_step_4 : decode cX4_step 4 = .ok (.iconst (-1), 1) := da9_dX4_step_0.2.2.1
theorem dX4_step_5 : decode cX4_step 5 = .ok (.if_icmp .eq 4, 3) := da9_dX4_step_0.2.2.2.1
theorem dX4_step_8 : decode cX4_step 8 = .ok (.return_, 1) := da9_dX4_step_0.2.2.2.2.1
theorem dX4_step_9 : decode cX4_step 9 = .ok (.aload_n 0, 1) := da9_dX4_step_0.2.2.2.2.2.1
theorem dX4_step_10 : decode cX4_step 10 = .ok (.aload_n 0, 1) := da9_dX4_step_0.2.2.2.2.2.2.1
theorem dX4_step_11 : decode cX4_step 11 = .ok (.getfield 33, 3) := da9_dX4_step_0.2.2.2.2.2.2.2.1
theorem dX4_step_14 : decode cX4_step 14 = .ok (.putfield 30, 3) := da9_dX4_step_0.2.2.2.2.2.2.2.2.1
theorem dX4_step_17 : decode cX4_step 17 = .ok (.aload_n 0, 1) := da9_dX4_step_0.2.2.2.2.2.2.2.2.2.1
theorem dX4_step_18 : decode cX4_step 18 = .ok (.getfield 30, 3) := da9_dX4_step_0.2.2.2.2.2.2.2.2.2.2.1
theorem dX4_step_21 : decode cX4_step 21 = .ok (.aload_n 0, 1) := da9_dX4_step_0.2.2.2.2.2.2.2.2.2.2.2.1
theorem dX4_step_22 : decode cX4_step 22 = .ok (.getfield 15, 3) := da9_dX4_step_0.2.2.2.2.2.2.2.2.2.2.2.2.1
theorem dX4_step_25 : decode cX4_step 25 = .ok (.if_icmp .ge 30, 3) := da9_dX4_step_0.2.2.2.2.2.2.2.2.2.2.2.2.2.1
theorem dX4_step_28 : decode cX4_step 28 = .ok (.aload_n 0, 1) := da9_dX4_step_0.2.2.2.2.2.2.2.2.2.2.2.2.2.2.1
theorem dX4_step_29 : decode cX4_step 29 = .ok (.getfield 9, 3) := da9_dX4_step_0.2.2.2.2.2.2.2.2.2.2.2.2.2.2.2
theorem da9_dX4_step_32 : (decode cX4_step 32 = .ok (.aload_n 0, 1)) ∧ (decode cX4_step 33 = .ok (.getfield 30, 3)) ∧ (decode cX4_step 36 = .ok (.iaload, 1)) ∧ (decode cX4_step 37 = .ok (.bipush 32, 2)) ∧ (decode cX4_step 39 = .ok (.if_icmp .ne 16, 3)) ∧ (decode cX4_step 42 = .ok (.aload_n 0, 1)) ∧ (decode cX4_step 43 = .ok (.dup, 1)) ∧ (decode cX4_step 44 = .ok (.getfield 30, 3)) ∧ (decode cX4_step 47 = .ok (.iconst 1, 1)) ∧ (decode cX4_step 48 = .ok (.iadd, 1)) ∧ (decode cX4_step 49 = .ok (.putfield 30, 3)) ∧ (decode cX4_step 52 = .ok (.goto (-35), 3)) ∧ (decode cX4_step 55 = .ok (.aload_n 0, 1)) ∧ (decode cX4_step 56 = .ok (.aload_n 0, 1)) ∧ (decode cX4_step 57 = .ok (.getfield 30, 3)) ∧ (decode cX4_step 60 = .ok (.putfield 33, 3)) := by decide +kernel
theorem dX4_step_32 : decode cX4_step 32 = .ok (.aload_n 0, 1) := da9_dX4_step_32.1
theorem dX4_step_33 : decode cX4_step 33 = .ok (.getfield 30, 3) := da9_dX4_step_32.2.1
theorem dX4_step_36 : decode cX4_step 36 = .ok (.iaload, 1) := da9_dX4_step_32.2.2.1
theorem dX4_step_37 : decode cX4_step 37 = .ok (.bipush 32, 2) := da9_dX4_step_32.2.2.2.1
theorem dX4_step_39 : decode cX4_step 39 = .ok (.if_icmp .ne 16, 3) := da9_dX4_step_32.2.2.2.2.1
theorem dX4_step_42 : decode cX4_step 42 = .ok (.aload_n 0, 1) := da9_dX4_step_32.2.2.2.2.2.1
theorem dX4_step_43 : decode cX4_step 43 = .ok (.dup, 1) := da9_dX4_step_32.2.2.2.2.2.2.1
theorem dX4_step_44 : decode cX4_step 44 = .ok (.getfield 30, 3) := da9_dX4_step_32.2.2.2.2.2.2.2.1
theorem dX4_step_47 : decode cX4_step 47 = .ok (.iconst 1, 1) := da9_dX4_step_32.2.2.2.2.2.2.2.2.1
theorem dX4_step_48 : decode cX4_step 48 = .ok (.iadd, 1) := da9_dX4_step_32.2.2.2.2.2.2.2.2.2.1
theorem dX4_step_49 : decode cX4_step 49 = .ok (.putfield 30, 3) := da9_dX4_step_32.2.2.2.2.2.2.2.2.2.2.1
theorem dX4_step_52 : decode cX4_step 52 = .ok (.goto (-35), 3) := da9_dX4_step_32.2.2.2.2.2.2.2.2.2.2.2.1
theorem dX4_step_55 : decode cX4_step 55 = .ok (.aload_n 0, 1) := da9_dX4_step_32.2.2.2.2.2.2.2.2.2.2.2.2.1
theorem dX4_step_56 : decode cX4_step 56 = .ok (.aload_n 0, 1) := da9_dX4_step_32.2.2.2.2.2.2.2.2.2.2.2.2.2.1
theorem dX4_step_57 : decode cX4_step 57 = .ok (.getfield 30, 3) := da9_dX4_step_32.2.2.2.2.2.2.2.2.2.2.2.2.2.2.1
theorem dX4_step_60 : decode cX4_step 60 = .ok (.putfield 33, 3) := da9_dX4_step_32.2.2.2.2.2.2.2.2.2.2.2.2.2.2.2
theorem da9_dX4_step_63 : (decode cX4_step 63 = .ok (.aload_n 0, 1)) ∧ (decode cX4_step 64 = .ok (.iconst 0, 1)) ∧ (decode cX4_step 65 = .ok (.putfield 36, 3)) ∧ (decode cX4_step 68 = .ok (.aload_n 0, 1)) ∧ (decode cX4_step 69 = .ok (.iconst 0, 1)) ∧ (decode cX4_step 70 = .ok (.putfield 27, 3)) ∧ (decode cX4_step 73 = .ok (.aload_n 0, 1)) ∧ (decode cX4_step 74 = .ok (.getfield 30, 3)) ∧ (decode cX4_step 77 = .ok (.aload_n 0, 1)) ∧ (decode cX4_step 78 = .ok (.getfield 15, 3)) ∧ (decode cX4_step 81 = .ok (.if_icmp .lt 4, 3)) ∧ (decode cX4_step 84 = .ok (.return_, 1)) ∧ (decode cX4_step 85 = .ok (.aload_n 0, 1)) ∧ (decode cX4_step 86 = .ok (.aload_n 0, 1)) ∧ (decode cX4_step 87 = .ok (.getfield 9, 3)) ∧ (decode cX4_step 90 = .ok (.aload_n 0, 1)) := by decide +kernel
theorem dX4_step_63 : decode cX4_step 63 = .ok (.aload_n 0, 1) := da9_dX4_step_63.1
theorem dX4_step_64 : decode cX4_step 64 = .ok (.iconst 0, 1) := da9_dX4_step_63.2.1
theorem dX4_step_65 : decode cX4_step 65 = .ok (.putfield 36, 3) := da9_dX4_step_63.2.2.1
theorem dX4_step_68 : decode cX4_step 68 = .ok (.aload_n 0, 1) := da9_dX4_step_63.2.2.2.1
theorem dX4_step_69 : decode cX4_step 69 = .ok (.iconst 0, 1) := da9_dX4_step_63.2.2.2.2.1
theorem dX4_step_70 : decode cX4_step 70 = .ok (.putfield 27, 3) := da9_dX4_step_63.2.2.2.2.2.1
theorem dX4_step_73 : decode cX4_step 73 = .ok (.aload_n 0, 1) := da9_dX4_step_63.2.2.2.2.2.2.1
theorem dX4_step_74 : decode cX4_step 74 = .ok (.getfield 30, 3) := da9_dX4_step_63.2.2.2.2.2.2.2.1
theorem dX4_step_77 : decode cX4_step 77 = .ok (.aload_n 0, 1) := da9_dX4_step_63.2.2.2.2.2.2.2.2.1
theorem dX4_step_78 : decode cX4_step 78 = .ok (.getfield 15, 3) := da9_dX4_step_63.2.2.2.2.2.2.2.2.2.1
theorem dX4_step_81 : decode cX4_step 81 = .ok (.if_icmp .lt 4, 3) := da9_dX4_step_63.2.2.2.2.2.2.2.2.2.2.1
theorem dX4_step_84 : decode cX4_step 84 = .ok (.return_, 1) := da9_dX4_step_63.2.2.2.2.2.2.2.2.2.2.2.1
theorem dX4_step_85 : decode cX4_step 85 = .ok (.aload_n 0, 1) := da9_dX4_step_63.2.2.2.2.2.2.2.2.2.2.2.2.1
theorem dX4_step_86 : decode cX4_step 86 = .ok (.aload_n 0, 1) := da9_dX4_step_63.2.2.2.2.2.2.2.2.2.2.2.2.2.1
theorem dX4_step_87 : decode cX4_step 87 = .ok (.getfield 9, 3) := da9_dX4_step_63.2.2.2.2.2.2.2.2.2.2.2.2.2.2.1
theorem dX4_step_90 : decode cX4_step 90 = .ok (.aload_n 0, 1) := da9_dX4_step_63.2.2.2.2.2.2.2.2.2.2.2.2.2.2.2
theorem da9_dX4_step_91 : (decode cX4_step 91 = .ok (.getfield 30, 3)) ∧ (decode cX4_step 94 = .ok (.iaload, 1)) ∧ (decode cX4_step 95 = .ok (.invokestatic 163, 3)) ∧ (decode cX4_step 98 = .ok (.putfield 27, 3)) ∧ (decode cX4_step 101 = .ok (.aload_n 0, 1)) ∧ (decode cX4_step 102 = .ok (.dup, 1)) ∧ (decode cX4_step 103 = .ok (.getfield 33, 3)) ∧ (decode cX4_step 106 = .ok (.iconst 1, 1)) ∧ (decode cX4_step 107 = .ok (.iadd, 1)) ∧ (decode cX4_step 108 = .ok (.putfield 33, 3)) ∧ (decode cX4_step 111 = .ok (.aload_n 0, 1)) ∧ (decode cX4_step 112 = .ok (.getfield 33, 3)) ∧ (decode cX4_step 115 = .ok (.aload_n 0, 1)) ∧ (decode cX4_step 116 = .ok (.getfield 15, 3)) ∧ (decode cX4_step 119 = .ok (.if_icmp .ge 43, 3)) ∧ (decode cX4_step 122 = .ok (.aload_n 0, 1)) := by decide +kernel
theorem dX4_step_91 : decode cX4_step 91 = .ok (.getfield 30, 3) := da9_dX4_step_91.1
theorem dX4_step_94 : decode cX4_step 94 = .ok (.iaload, 1) := da9_dX4_step_91.2.1
theorem dX4_step_95 : decode cX4_step 95 = .ok (.invokestatic 163, 3) := da9_dX4_step_91.2.2.1
theorem dX4_step_98 : decode cX4_step 98 = .ok (.putfield 27, 3) := da9_dX4_step_91.2.2.2.1
theorem dX4_step_101 : decode cX4_step 101 = .ok (.aload_n 0, 1) := da9_dX4_step_91.2.2.2.2.1
theorem dX4_step_102 : decode cX4_step 102 = .ok (.dup, 1) := da9_dX4_step_91.2.2.2.2.2.1
theorem dX4_step_103 : decode cX4_step 103 = .ok (.getfield 33, 3) := da9_dX4_step_91.2.2.2.2.2.2.1
theorem dX4_step_106 : decode cX4_step 106 = .ok (.iconst 1, 1) := da9_dX4_step_91.2.2.2.2.2.2.2.1
theorem dX4_step_107 : decode cX4_step 107 = .ok (.iadd, 1) := da9_dX4_step_91.2.2.2.2.2.2.2.2.1
theorem dX4_step_108 : decode cX4_step 108 = .ok (.putfield 33, 3) := da9_dX4_step_91.2.2.2.2.2.2.2.2.2.1
theorem dX4_step_111 : decode cX4_step 111 = .ok (.aload_n 0, 1) := da9_dX4_step_91.2.2.2.2.2.2.2.2.2.2.1
theorem dX4_step_112 : decode cX4_step 112 = .ok (.getfield 33, 3) := da9_dX4_step_91.2.2.2.2.2.2.2.2.2.2.2.1
theorem dX4_step_115 : decode cX4_step 115 = .ok (.aload_n 0, 1) := da9_dX4_step_91.2.2.2.2.2.2.2.2.2.2.2.2.1
theorem dX4_step_116 : decode cX4_step 116 = .ok (.getfield 15, 3) := da9_dX4_step_91.2.2.2.2.2.2.2.2.2.2.2.2.2.1
theorem dX4_step_119 : decode cX4_step 119 = .ok (.if_icmp .ge 43, 3) := da9_dX4_step_91.2.2.2.2.2.2.2.2.2.2.2.2.2.2.1
theorem dX4_step_122 : decode cX4_step 122 = .ok (.aload_n 0, 1) := da9_dX4_step_91.2.2.2.2.2.2.2.2.2.2.2.2.2.2.2
theorem da9_dX4_step_123 : (decode cX4_step 123 = .ok (.getfield 27, 3)) ∧ (decode cX4_step 126 = .ok (.iconst 3, 1)) ∧ (decode cX4_step 127 = .ok (.if_icmp .eq 35, 3)) ∧ (decode cX4_step 130 = .ok (.aload_n 0, 1)) ∧ (decode cX4_step 131 = .ok (.getfield 9, 3)) ∧ (decode cX4_step 134 = .ok (.aload_n 0, 1)) ∧ (decode cX4_step 135 = .ok (.getfield 33, 3)) ∧ (decode cX4_step 138 = .ok (.iaload, 1)) ∧ (decode cX4_step 139 = .ok (.invokestatic 163, 3)) ∧ (decode cX4_step 142 = .ok (.aload_n 0, 1)) ∧ (decode cX4_step 143 = .ok (.getfield 27, 3)) ∧ (decode cX4_step 146 = .ok (.if_icmp .ne 16, 3)) ∧ (decode cX4_step 149 = .ok (.aload_n 0, 1)) ∧ (decode cX4_step 150 = .ok (.dup, 1)) ∧ (decode cX4_step 151 = .ok (.getfield 33, 3)) ∧ (decode cX4_step 154 = .ok (.iconst 1, 1)) := by decide +kernel
theorem dX4_step_123 : decode cX4_step 123 = .ok (.getfield 27, 3) := da9_dX4_step_123.1
theorem dX4_step_126 : decode cX4_step 126 = .ok (.iconst 3, 1) := da9_dX4_step_123.2.1
theorem dX4_step_127 : decode cX4_step 127 = .ok (.if_icmp .eq 35, 3) := da9_dX4_step_123.2.2.1
theorem dX4_step_130 : decode cX4_step 130 = .ok (.aload_n 0, 1) := da9_dX4_step_123.2.2.2.1
theorem dX4_step_131 : decode cX4_step 131 = .ok (.getfield 9, 3) := da9_dX4_step_123.2.2.2.2.1
theorem dX4_step_134 : decode cX4_step 134 = .ok (.aload_n 0, 1) := da9_dX4_step_123.2.2.2.2.2.1
theorem dX4_step_135 : decode cX4_step 135 = .ok (.getfield 33, 3) := da9_dX4_step_123.2.2.2.2.2.2.1
theorem dX4_step_138 : decode cX4_step 138 = .ok (.iaload, 1) := da9_dX4_step_123.2.2.2.2.2.2.2.1
theorem dX4_step_139 : decode cX4_step 139 = .ok (.invokestatic 163, 3) := da9_dX4_step_123.2.2.2.2.2.2.2.2.1
theorem dX4_step_142 : decode cX4_step 142 = .ok (.aload_n 0, 1) := da9_dX4_step_123.2.2.2.2.2.2.2.2.2.1
theorem dX4_step_143 : decode cX4_step 143 = .ok (.getfield 27, 3) := da9_dX4_step_123.2.2.2.2.2.2.2.2.2.2.1
theorem dX4_step_146 : decode cX4_step 146 = .ok (.if_icmp .ne 16, 3) := da9_dX4_step_123.2.2.2.2.2.2.2.2.2.2.2.1
theorem dX4_step_149 : decode cX4_step 149 = .ok (.aload_n 0, 1) := da9_dX4_step_123.2.2.2.2.2.2.2.2.2.2.2.2.1
theorem dX4_step_150 : decode cX4_step 150 = .ok (.dup, 1) := da9_dX4_step_123.2.2.2.2.2.2.2.2.2.2.2.2.2.1
theorem dX4_step_151 : decode cX4_step 151 = .ok (.getfield 33, 3) := da9_dX4_step_123.2.2.2.2.2.2.2.2.2.2.2.2.2.2.1
theorem dX4_step_154 : decode cX4_step 154 = .ok (.iconst 1, 1) := da9_dX4_step_123.2.2.2.2.2.2.2.2.2.2.2.2.2.2.2
theorem da9_dX4_step_155 : (decode cX4_step 155 = .ok (.iadd, 1)) ∧ (decode cX4_step 156 = .ok (.putfield 33, 3)) ∧ (decode cX4_step 159 = .ok (.goto (-48), 3)) ∧ (decode cX4_step 162 = .ok (.aload_n 0, 1)) ∧ (decode cX4_step 163 = .ok (.getfield 30, 3)) ∧ (decode cX4_step 166 = .ok (.istore_n 1, 1)) ∧ (decode cX4_step 167 = .ok (.iload_n 1, 1)) ∧ (decode cX4_step 168 = .ok (.aload_n 0, 1)) ∧ (decode cX4_step 169 = .ok (.getfield 33, 3)) ∧ (decode cX4_step 172 = .ok (.if_icmp .ge 44, 3)) ∧ (decode cX4_step 175 = .ok (.aload_n 0, 1)) ∧ (decode cX4_step 176 = .ok (.getfield 27, 3)) ∧ (decode cX4_step 179 = .ok (.iconst 2, 1)) ∧ (decode cX4_step 180 = .ok (.if_icmp .ne 36, 3)) ∧ (decode cX4_step 183 = .ok (.aload_n 0, 1)) ∧ (decode cX4_step 184 = .ok (.sipush 1001, 3)) := by decide +kernel
theorem dX4_step_155 : decode cX4_step 155 = .ok (.iadd, 1) := da9_dX4_step_155.1
theorem dX4_step_156 : decode cX4_step 156 = .ok (.putfield 33, 3) := da9_dX4_step_155.2.1
theorem dX4_step_159 : decode cX4_step 159 = .ok (.goto (-48), 3) := da9_dX4_step_155.2.2.1
theorem dX4_step_162 : decode cX4_step 162 = .ok (.aload_n 0, 1) := da9_dX4_step_155.2.2.2.1
theorem dX4_step_163 : decode cX4_step 163 = .ok (.getfield 30, 3) := da9_dX4_step_155.2.2.2.2.1
theorem dX4_step_166 : decode cX4_step 166 = .ok (.istore_n 1, 1) := da9_dX4_step_155.2.2.2.2.2.1
theorem dX4_step_167 : decode cX4_step 167 = .ok (.iload_n 1, 1) := da9_dX4_step_155.2.2.2.2.2.2.1
theorem dX4_step_168 : decode cX4_step 168 = .ok (.aload_n 0, 1) := da9_dX4_step_155.2.2.2.2.2.2.2.1
theorem dX4_step_169 : decode cX4_step 169 = .ok (.getfield 33, 3) := da9_dX4_step_155.2.2.2.2.2.2.2.2.1
theorem dX4_step_172 : decode cX4_step 172 = .ok (.if_icmp .ge 44, 3) := da9_dX4_step_155.2.2.2.2.2.2.2.2.2.1
theorem dX4_step_175 : decode cX4_step 175 = .ok (.aload_n 0, 1) := da9_dX4_step_155.2.2.2.2.2.2.2.2.2.2.1
theorem dX4_step_176 : decode cX4_step 176 = .ok (.getfield 27, 3) := da9_dX4_step_155.2.2.2.2.2.2.2.2.2.2.2.1
theorem dX4_step_179 : decode cX4_step 179 = .ok (.iconst 2, 1) := da9_dX4_step_155.2.2.2.2.2.2.2.2.2.2.2.2.1
theorem dX4_step_180 : decode cX4_step 180 = .ok (.if_icmp .ne 36, 3) := da9_dX4_step_155.2.2.2.2.2.2.2.2.2.2.2.2.2.1
theorem dX4_step_183 : decode cX4_step 183 = .ok (.aload_n 0, 1) := da9_dX4_step_155.2.2.2.2.2.2.2.2.2.2.2.2.2.2.1
theorem dX4_step_184 : decode cX4_step 184 = .ok (.sipush 1001, 3) := da9_dX4_step_155.2.2.2.2.2.2.2.2.2.2.2.2.2.2.2
theorem da9_dX4_step_187 : (decode cX4_step 187 = .ok (.aload_n 0, 1)) ∧ (decode cX4_step 188 = .ok (.getfield 36, 3)) ∧ (decode cX4_step 191 = .ok (.bipush 10, 2)) ∧ (decode cX4_step 193 = .ok (.imul, 1)) ∧ (decode cX4_step 194 = .ok (.aload_n 0, 1)) ∧ (decode cX4_step 195 = .ok (.getfield 9, 3)) ∧ (decode cX4_step 198 = .ok (.iload_n 1, 1)) ∧ (decode cX4_step 199 = .ok (.iaload, 1)) ∧ (decode cX4_step 200 = .ok (.iadd, 1)) ∧ (decode cX4_step 201 = .ok (.bipush 48, 2)) ∧ (decode cX4_step 203 = .ok (.isub, 1)) ∧ (decode cX4_step 204 = .ok (.invokestatic 48, 3)) ∧ (decode cX4_step 207 = .ok (.putfield 36, 3)) ∧ (decode cX4_step 210 = .ok (.iinc 1 1, 3)) ∧ (decode cX4_step 213 = .ok (.goto (-46), 3)) ∧ (decode cX4_step 216 = .ok (.return_, 1)) := by decide +kernel
theorem dX4_step_187 : decode cX4_step 187 = .ok (.aload_n 0, 1) := da9_dX4_step_187.1
theorem dX4_step_188 : decode cX4_step 188 = .ok (.getfield 36, 3) := da9_dX4_step_187.2.1
theorem dX4_step_191 : decode cX4_step 191 = .ok (.bipush 10, 2) := da9_dX4_step_187.2.2.1
theorem dX4_step_193 : decode cX4_step 193 = .ok (.imul, 1) := da9_dX4_step_187.2.2.2.1
theorem dX4_step_194 : decode cX4_step 194 = .ok (.aload_n 0, 1) := da9_dX4_step_187.2.2.2.2.1
theorem dX4_step_195 : decode cX4_step 195 = .ok (.getfield 9, 3) := da9_dX4_step_187.2.2.2.2.2.1
theorem dX4_step_198 : decode cX4_step 198 = .ok (.iload_n 1, 1) := da9_dX4_step_187.2.2.2.2.2.2.1
theorem dX4_step_199 : decode cX4_step 199 = .ok (.iaload, 1) := da9_dX4_step_187.2.2.2.2.2.2.2.1
theorem dX4_step_200 : decode cX4_step 200 = .ok (.iadd, 1) := da9_dX4_step_187.2.2.2.2.2.2.2.2.1
theorem dX4_step_201 : decode cX4_step 201 = .ok (.bipush 48, 2) := da9_dX4_step_187.2.2.2.2.2.2.2.2.2.1
theorem dX4_step_203 : decode cX4_step 203 = .ok (.isub, 1) := da9_dX4_step_187.2.2.2.2.2.2.2.2.2.2.1
theorem dX4_step_204 : decode cX4_step 204 = .ok (.invokestatic 48, 3) := da9_dX4_step_187.2.2.2.2.2.2.2.2.2.2.2.1
theorem dX4_step_207 : decode cX4_step 207 = .ok (.putfield 36, 3) := da9_dX4_step_187.2.2.2.2.2.2.2.2.2.2.2.2.1
theorem dX4_step_210 : decode cX4_step 210 = .ok (.iinc 1 1, 3) := da9_dX4_step_187.2.2.2.2.2.2.2.2.2.2.2.2.2.1
theorem dX4_step_213 : decode cX4_step 213 = .ok (.goto (-46), 3) := da9_dX4_step_187.2.2.2.2.2.2.2.2.2.2.2.2.2.2.1
theorem dX4_step_216 : decode cX4_step 216 = .ok (.return_, 1) := da9_dX4_step_187.2.2.2.2.2.2.2.2.2.2.2.2.2.2.2
theorem da9_dX4_tokenOf_0 : (decode cX4_tokenOf 0 = .ok (.iload_n 0, 1)) ∧ (decode cX4_tokenOf 1 = .ok (.bipush 97, 2)) ∧ (decode cX4_tokenOf 3 = .ok (.if_icmp .lt 11, 3)) ∧ (decode cX4_tokenOf 6 = .ok (.iload_n 0, 1)) ∧ (decode cX4_tokenOf 7 = .ok (.bipush 122, 2)) ∧ (decode cX4_tokenOf 9 = .ok (.if_icmp .gt 5, 3)) ∧ (decode cX4_tokenOf 12 = .ok (.iconst 1, 1)) ∧ (decode cX4_tokenOf 13 = .ok (.ireturn, 1)) ∧ (decode cX4_tokenOf 14 = .ok (.iload_n 0, 1)) ∧ (decode cX4_tokenOf 15 = .ok (.bipush 48, 2)) ∧ (decode cX4_tokenOf 17 = .ok (.if_icmp .lt 13, 3)) ∧ (decode cX4_tokenOf 20 = .ok (.iload_n 0, 1)) ∧ (decode cX4_tokenOf 21 = .ok (.bipush 57, 2)) ∧ (decode cX4_tokenOf 23 = .ok (.if_icmp .gt 7, 3)) ∧ (decode cX4_tokenOf 26 = .ok (.iconst 2, 1)) ∧ (decode cX4_tokenOf 27 = .ok (.goto 4, 3)) := by decide +kernel
theorem dX4_tokenOf_0 : decode cX4_tokenOf 0 = .ok (.iload_n 0, 1) := da9_dX4_tokenOf_0.1
theorem dX4_tokenOf_1 : decode cX4_tokenOf 1 = .ok (.bipush 97, 2) := da9_dX4_tokenOf_0.2.1
theorem dX4_tokenOf_3 : decode cX4_tokenOf 3 = .ok (.if_icmp .lt 11, 3) := da9_dX4_tokenOf_0.2.2.1
theorem dX4_tokenOf_6 : decode cX4_tokenOf 6 = .ok (.iload_n 0, 1) := da9_dX4_tokenOf_0.2.2.2.1
theorem dX4_tokenOf_7 : decode cX4_tokenOf 7 = .ok (.bipush 122, 2) := da9_dX4_tokenOf_0.2.2.2.2.1
theorem dX4_tokenOf_9 : decode cX4_tokenOf 9 = .ok (.if_icmp .gt 5, 3) := da9_dX4_tokenOf_0.2.2.2.2.2.1
theorem dX4_tokenOf_12 : decode cX4_tokenOf 12 = .ok (.iconst 1, 1) := da9_dX4_tokenOf_0.2.2.2.2.2.2.1
theorem dX4_tokenOf_13 : decode cX4_tokenOf 13 = .ok (.ireturn, 1) := da9_dX4_tokenOf_0.2.2.2.2.2.2.2.1
theorem dX4_tokenOf_14 : decode cX4_tokenOf 14 = .ok (.iload_n 0, 1) := da9_dX4_tokenOf_0.2.2.2.2.2.2.2.2.1
theorem dX4_tokenOf_15 : decode cX4_tokenOf 15 = .ok (.bipush 48, 2) := da9_dX4_tokenOf_0.2.2.2.2.2.2.2.2.2.1
theorem dX4_tokenOf_17 : decode cX4_tokenOf 17 = .ok (.if_icmp .lt 13, 3) := da9_dX4_tokenOf_0.2.2.2.2.2.2.2.2.2.2.1
theorem dX4_tokenOf_20 : decode cX4_tokenOf 20 = .ok (.iload_n 0, 1) := da9_dX4_tokenOf_0.2.2.2.2.2.2.2.2.2.2.2.1
theorem dX4_tokenOf_21 : decode cX4_tokenOf 21 = .ok (.bipush 57, 2) := da9_dX4_tokenOf_0.2.2.2.2.2.2.2.2.2.2.2.2.1
theorem dX4_tokenOf_23 : decode cX4_tokenOf 23 = .ok (.if_icmp .gt 7, 3) := da9_dX4_tokenOf_0.2.2.2.2.2.2.2.2.2.2.2.2.2.1
theorem dX4_tokenOf_26 : decode cX4_tokenOf 26 = .ok (.iconst 2, 1) := da9_dX4_tokenOf_0.2.2.2.2.2.2.2.2.2.2.2.2.2.2.1
theorem dX4_tokenOf_27 : decode cX4_tokenOf 27 = .ok (.goto 4, 3) := da9_dX4_tokenOf_0.2.2.2.2.2.2.2.2.2.2.2.2.2.2.2
theorem da9_dX4_tokenOf_30 : (decode cX4_tokenOf 30 = .ok (.iconst 3, 1)) ∧ (decode cX4_tokenOf 31 = .ok (.ireturn, 1)) := by decide +kernel
theorem dX4_tokenOf_30 : decode cX4_tokenOf 30 = .ok (.iconst 3, 1) := da9_dX4_tokenOf_30.1
theorem dX4_tokenOf_31 : decode cX4_tokenOf 31 = .ok (.ireturn, 1) := da9_dX4_tokenOf_30.2
set_option maxRecDepth 20000 in
theorem ggX4_wordIn_J0_length_8abf5 : GoodIn wsX4_wordIn wsJ0_length_8abf5 := goodIn_r _ [6, 7, 8, 9, 10, 5, 11, 12, 13] rfl (by decide +kernel)
set_option maxRecDepth 20000 in
theorem gX4_wordIn_J0_length_8abf5 : GoodIn wsX4_wordIn (wsV RX4 167 RJ0 yJ0_length_8abf5 wsJ0_length_8abf5) := goodIn_app (goodIn_of _ (by decide +kernel)) ggX4_wordIn_J0_length_8abf5
set_option maxRecDepth 20000 in
theorem ggX4_wordIn_J0_charAt_5068e : GoodIn wsX4_wordIn wsJ0_charAt_5068e := goodIn_r _ [17, 7, 18, 19, 20, 5, 21, 12, 13, 22, 23, 24, 25, 26, 27, 28, 29, 30, 31, 32, 33, 34, 35, 36, 37, 38, 39, 40, 41, 42, 43, 44, 45, 46, 47, 48, 49, 50] rfl (by decide +kernel)
set_option maxRecDepth 20000 in
theorem gX4_wordIn_J0_charAt_5068e : GoodIn wsX4_wordIn (wsV RX4 172 RJ0 yJ0_charAt_5068e wsJ0_charAt_5068e) := goodIn_app (goodIn_of _ (by decide +kernel)) ggX4_wordIn_J0_charAt_5068e
set_option maxRecDepth 20000 in
theorem ggX4_wordIn_X4_isSame : GoodIn wsX4_wordIn wsX4_isSame := goodIn_r _ [55, 56, 57, 58, 14, 15, 16, 5, 17, 7, 18, 19, 20, 21, 12, 13, 22, 23, 24, 25, 26, 27, 28, 29, 30, 31, 32, 33, 34, 35, 36, 37, 38, 39, 40, 41, 42, 43, 44, 45, 46, 47, 48, 49, 50, 59, 60, 61, 62, 63, 64, 65, 66, 67, 68, 69] rfl (by decide +kernel)
set_option maxRecDepth 20000 in
theorem gX4_wordIn_X4_isSame : GoodIn wsX4_wordIn (wsV RX4 176 RX4 yX4_isSame wsX4_isSame) := goodIn_app (goodIn_of _ (by decide +kernel)) ggX4_wordIn_X4_isSame
theorem da9_dX4_wordIn_0 : (decode cX4_wordIn 0 = .ok (.iconst 0, 1)) ∧ (decode cX4_wordIn 1 = .ok (.istore_n 2, 1)) ∧ (decode cX4_wordIn 2 = .ok (.iconst 0, 1)) ∧ (decode cX4_wordIn 3 = .ok (.istore_n 3, 1)) ∧ (decode cX4_wordIn 4 = .ok (.iconst 0, 1)) ∧ (decode cX4_wordIn 5 = .ok (.istore 4, 2)) ∧ (decode cX4_wordIn 7 = .ok (.iload 4, 2)) ∧ (decode cX4_wordIn 9 = .ok (.aload_n 1, 1)) ∧ (decode cX4_wordIn 10 = .ok (.invokevirtual 167, 3)) ∧ (decode cX4_wordIn 13 = .ok (.if_icmp .ge 49, 3)) ∧ (decode cX4_wordIn 16 = .ok (.aload_n 0, 1)) ∧ (decode cX4_wordIn 17 = .ok (.getfield 27, 3)) ∧ (decode cX4_wordIn 20 = .ok (.iconst 1, 1)) ∧ (decode cX4_wordIn 21 = .ok (.if_icmp .ne 41, 3)) ∧ (decode cX4_wordIn 24 = .ok (.aload_n 1, 1)) ∧ (decode cX4_wordIn 25 = .ok (.iload 4, 2)) := by decide +kernel
theorem dX4_wordIn_0 : decode cX4_wordIn 0 = .ok (.iconst 0, 1) := da9_dX4_wordIn_0.1
theorem dX4_wordIn_1 : decode cX4_wordIn 1 = .ok (.istore_n 2, 1) := da9_dX4_wordIn_0.2.1
theorem dX4_wordIn_2 : decode cX4_wordIn 2 = .ok (.iconst 0, 1) := da9_dX4_wordIn_0.2.2.1
theorem dX4_wordIn_3 : decode cX4_wordIn 3 = .ok (.istore_n 3, 1) := da9_dX4_wordIn_0.2.2.2.1
theorem dX4_wordIn_4 : decode cX4_wordIn 4 = .ok (.iconst 0, 1) := da9_dX4_wordIn_0.2.2.2.2.1
theorem dX4_wordIn_5 : decode cX4_wordIn 5 = .ok (.istore 4, 2) := da9_dX4_wordIn_0.2.2.2.2.2.1
theorem dX4_wordIn_7 : decode cX4_wordIn 7 = .ok (.iload 4, 2) := da9_dX4_wordIn_0.2.2.2.2.2.2.1
theorem dX4_wordIn_9 : decode cX4_wordIn 9 = .ok (.aload_n 1, 1) := da9_dX4_wordIn_0.2.2.2.2.2.2.2.1
theorem dX4_wordIn_10 : decode cX4_wordIn 10 = .ok (.invokevirtual 167, 3) := da9_dX4_wordIn_0.2.2.2.2.2.2.2.2.1
theorem dX4_wordIn_13 : decode cX4_wordIn 13 = .ok (.if_icmp .ge 49, 3) := da9_dX4_wordIn_0.2.2.2.2.2.2.2.2.2.1
theorem dX4_wordIn_16 : decode cX4_wordIn 16 = .ok (.aload_n 0, 1) := da9_dX4_wordIn_0.2.2.2.2.2.2.2.2.2.2.1
theorem dX4_wordIn_17 : decode cX4_wordIn 17 = .ok (.getfield 27, 3) := da9_dX4_wordIn_0.2.2.2.2.2.2.2.2.2.2.2.1
theorem dX4_wordIn_20 : decode cX4_wordIn 20 = .ok (.iconst 1, 1) := da9_dX4_wordIn_0.2.2.2.2.2.2.2.2.2.2.2.2.1
theorem dX4_wordIn_21 : decode cX4_wordIn 21 = .ok (.if_icmp .ne 41, 3) := da9_dX4_wordIn_0.2.2.2.2.2.2.2.2.2.2.2.2.2.1
theorem dX4_wordIn_24 : decode cX4_wordIn 24 = .ok (.aload_n 1, 1) := da9_dX4_wordIn_0.2.2.2.2.2.2.2.2.2.2.2.2.2.2.1
theorem dX4_wordIn_25 : decode cX4_wordIn 25 = .ok (.iload 4, 2) := da9_dX4_wordIn_0.2.2.2.2.2.2.2.2.2.2.2.2.2.2.2
theorem da9_dX4_wordIn_27 : (decode cX4_wordIn 27 = .ok (.invokevirtual 172, 3)) ∧ (decode cX4_wordIn 30 = .ok (.bipush 32, 2)) ∧ (decode cX4_wordIn 32 = .ok (.if_icmp .ne 24, 3)) ∧ (decode cX4_wordIn 35 = .ok (.aload_n 0, 1)) ∧ (decode cX4_wordIn 36 = .ok (.aload_n 1, 1)) ∧ (decode cX4_wordIn 37 = .ok (.iload_n 3, 1)) ∧ (decode cX4_wordIn 38 = .ok (.iload 4, 2)) ∧ (decode cX4_wordIn 40 = .ok (.invokevirtual 176, 3)) ∧ (decode cX4_wordIn 43 = .ok (.ifCond .eq 5, 3)) ∧ (decode cX4_wordIn 46 = .ok (.iload_n 2, 1)) ∧ (decode cX4_wordIn 47 = .ok (.ireturn, 1)) ∧ (decode cX4_wordIn 48 = .ok (.iinc 2 1, 3)) ∧ (decode cX4_wordIn 51 = .ok (.iload 4, 2)) ∧ (decode cX4_wordIn 53 = .ok (.iconst 1, 1)) ∧ (decode cX4_wordIn 54 = .ok (.iadd, 1)) ∧ (decode cX4_wordIn 55 = .ok (.istore_n 3, 1)) := by decide +kernel
theorem dX4_wordIn_27 : decode cX4_wordIn 27 = .ok (.invokevirtual 172, 3) := da9_dX4_wordIn_27.1
theorem dX4_wordIn_30 : decode cX4_wordIn 30 = .ok (.bipush 32, 2) := da9_dX4_wordIn_27.2.1
theorem dX4_wordIn_32 : decode cX4_wordIn 32 = .ok (.if_icmp .ne 24, 3) := da9_dX4_wordIn_27.2.2.1
theorem dX4_wordIn_35 : decode cX4_wordIn 35 = .ok (.aload_n 0, 1) := da9_dX4_wordIn_27.2.2.2.1
theorem dX4_wordIn_36 : decode cX4_wordIn 36 = .ok (.aload_n 1, 1) := da9_dX4_wordIn_27.2.2.2.2.1
theorem dX4_wordIn_37 : decode cX4_wordIn 37 = .ok (.iload_n 3, 1) := da9_dX4_wordIn_27.2.2.2.2.2.1
theorem dX4_wordIn_38 : decode cX4_wordIn 38 = .ok (.iload 4, 2) := da9_dX4_wordIn_27.2.2.2.2.2.2.1
theorem dX4_wordIn_40 : decode cX4_wordIn 40 = .ok (.invokevirtual 176, 3) := da9_dX4_wordIn_27.2.2.2.2.2.2.2.1
theorem dX4_wordIn_43 : decode cX4_wordIn 43 = .ok (.ifCond .eq 5, 3) := da9_dX4_wordIn_27.2.2.2.2.2.2.2.2.1
theorem dX4_wordIn_46 : decode cX4_wordIn 46 = .ok (.iload_n 2, 1) := da9_dX4_wordIn_27.2.2.2.2.2.2.2.2.2.1
theorem dX4_wordIn_47 : decode cX4_wordIn 47 = .ok (.ireturn, 1) := da9_dX4_wordIn_27.2.2.2.2.2.2.2.2.2.2.1
theorem dX4_wordIn_48 : decode cX4_wordIn 48 = .ok (.iinc 2 1, 3) := da9_dX4_wordIn_27.2.2.2.2.2.2.2.2.2.2.2.1
theorem dX4_wordIn_51 : decode cX4_wordIn 51 = .ok (.iload 4, 2) := da9_dX4_wordIn_27.2.2.2.2.2.2.2.2.2.2.2.2.1
theorem dX4_wordIn_53 : decode cX4_wordIn 53 = .ok (.iconst 1, 1) := da9_dX4_wordIn_27.2.2.2.2.2.2.2.2.2.2.2.2.2.1
theorem dX4_wordIn_54 : decode cX4_wordIn 54 = .ok (.iadd, 1) := da9_dX4_wordIn_27.2.2.2.2.2.2.2.2.2.2.2.2.2.2.1
theorem dX4_wordIn_55 : decode cX4_wordIn 55 = .ok (.istore_n 3, 1) := da9_dX4_wordIn_27.2.2.2.2.2.2.2.2.2.2.2.2.2.2.2
theorem da9_dX4_wordIn_56 : (decode cX4_wordIn 56 = .ok (.iinc 4 1, 3)) ∧ (decode cX4_wordIn 59 = .ok (.goto (-52), 3)) ∧ (decode cX4_wordIn 62 = .ok (.iconst (-1), 1)) ∧ (decode cX4_wordIn 63 = .ok (.ireturn, 1)) := by decide +kernel
theorem dX4_wordIn_56 : decode cX4_wordIn 56 = .ok (.iinc 4 1, 3) := da9_dX4_wordIn_56.1
theorem dX4_wordIn_59 : decode cX4_wordIn 59 = .ok (.goto (-52), 3) := da9_dX4_wordIn_56.2.1
theorem dX4_wordIn_62 : decode cX4_wordIn 62 = .ok (.iconst (-1), 1) := da9_dX4_wordIn_56.2.2.1
theorem dX4_wordIn_63 : decode cX4_wordIn 63 = .ok (.ireturn, 1) := da9_dX4_wordIn_56.2.2.2
set_option maxRecDepth 20000 in
theorem ggX4_isSame_J0_charAt_5068e : GoodIn wsX4_isSame wsJ0_charAt_5068e := goodIn_r _ [8, 9, 10, 11, 12, 7, 13, 14, 15, 16, 17, 18, 19, 20, 21, 22, 23, 24, 25, 26, 27, 28, 29, 30, 31, 32, 33, 34, 35, 36, 37, 38, 39, 40, 41, 42, 43, 44] rfl (by decide +kernel)
set_option maxRecDepth 20000 in
theorem gX4_isSame_J0_charAt_5068e : GoodIn wsX4_isSame (wsV RX4 172 RJ0 yJ0_charAt_5068e wsJ0_charAt_5068e) := goodIn_app (goodIn_of _ (by decide +kernel)) ggX4_isSame_J0_charAt_5068e
theorem da9_dX4_isSame_0 : (decode cX4_isSame 0 = .ok (.iload_n 3, 1)) ∧ (decode cX4_isSame 1 = .ok (.iload_n 2, 1)) ∧ (decode cX4_isSame 2 = .ok (.isub, 1)) ∧ (decode cX4_isSame 3 = .ok (.aload_n 0, 1)) ∧ (decode cX4_isSame 4 = .ok (.getfield 33, 3)) ∧ (decode cX4_isSame 7 = .ok (.aload_n 0, 1)) ∧ (decode cX4_isSame 8 = .ok (.getfield 30, 3)) ∧ (decode cX4_isSame 11 = .ok (.isub, 1)) ∧ (decode cX4_isSame 12 = .ok (.if_icmp .eq 5, 3)) ∧ (decode cX4_isSame 15 = .ok (.iconst 0, 1)) ∧ (decode cX4_isSame 16 = .ok (.ireturn, 1)) ∧ (decode cX4_isSame 17 = .ok (.iload_n 2, 1)) ∧ (decode cX4_isSame 18 = .ok (.istore 4, 2)) ∧ (decode cX4_isSame 20 = .ok (.iload 4, 2)) ∧ (decode cX4_isSame 22 = .ok (.iload_n 3, 1)) ∧ (decode cX4_isSame 23 = .ok (.if_icmp .ge 34, 3)) := by decide +kernel
theorem dX4_isSame_0 : decode cX4_isSame 0 = .ok (.iload_n 3, 1) := da9_dX4_isSame_0.1
theorem dX4_isSame_1 : decode cX4_isSame 1 = .ok (.iload_n 2, 1) := da9_dX4_isSame_0.2.1
theorem dX4_isSame_2 : decode cX4_isSame 2 = .ok (.isub, 1) := da9_dX4_isSame_0.2.2.1
theorem dX4_isSame_3 : decode cX4_isSame 3 = .ok (.aload_n 0, 1) := da9_dX4_isSame_0.2.2.2.1
theorem dX4_isSame_4 : decode cX4_isSame 4 = .ok (.getfield 33, 3) := da9_dX4_isSame_0.2.2.2.2.1
theorem dX4_isSame_7 : decode cX4_isSame 7 = .ok (.aload_n 0, 1) := da9_dX4_isSame_0.2.2.2.2.2.1
theorem dX4_isSame_8 : decode cX4_isSame 8 = .ok (.getfield 30, 3) := da9_dX4_isSame_0.2.2.2.2.2.2.1
theorem dX4_isSame_11 : decode cX4_isSame 11 = .ok (.isub, 1) := da9_dX4_isSame_0.2.2.2.2.2.2.2.1
theorem dX4_isSame_12 : decode cX4_isSame 12 = .ok (.if_icmp .eq 5, 3) := da9_dX4_isSame_0.2.2.2.2.2.2.2.2.1
theorem dX4_isSame_15 : decode cX4_isSame 15 = .ok (.iconst 0, 1) := da9_dX4_isSame_0.2.2.2.2.2.2.2.2.2.1
theorem dX4_isSame_16 : decode cX4_isSame 16 = .ok (.ireturn, 1) := da9_dX4_isSame_0.2.2.2.2.2.2.2.2.2.2.1
theorem dX4_isSame_17 : decode cX4_isSame 17 = .ok (.iload_n 2, 1) := da9_dX4_isSame_0.2.2.2.2.2.2.2.2.2.2.2.1
theorem dX4_isSame_18 : decode cX4_isSame 18 = .ok (.istore 4, 2) := da9_dX4_isSame_0.2.2.2.2.2.2.2.2.2.2.2.2.1
theorem dX4_isSame_20 : decode cX4_isSame 20 = .ok (.iload 4, 2) := da9_dX4_isSame_0.2.2.2.2.2.2.2.2.2.2.2.2.2.1
theorem dX4_isSame_22 : decode cX4_isSame 22 = .ok (.iload_n 3, 1) := da9_dX4_isSame_0.2.2.2.2.2.2.2.2.2.2.2.2.2.2.1
theorem dX4_isSame_23 : decode cX4_isSame 23 = .ok (.if_icmp .ge 34, 3) := da9_dX4_isSame_0.2.2.2.2.2.2.2.2.2.2.2.2.2.2.2
theorem da9_dX4_isSame_26 : (decode cX4_isSame 26 = .ok (.aload_n 1, 1)) ∧ (decode cX4_isSame 27 = .ok (.iload 4, 2)) ∧ (decode cX4_isSame 29 = .ok (.invokevirtual 172, 3)) ∧ (decode cX4_isSame 32 = .ok (.aload_n 0, 1)) ∧ (decode cX4_isSame 33 = .ok (.getfield 9, 3)) ∧ (decode cX4_isSame 36 = .ok (.aload_n 0, 1)) ∧ (decode cX4_isSame 37 = .ok (.getfield 30, 3)) ∧ (decode cX4_isSame 40 = .ok (.iload 4, 2)) ∧ (decode cX4_isSame 42 = .ok (.iadd, 1)) ∧ (decode cX4_isSame 43 = .ok (.iload_n 2, 1)) ∧ (decode cX4_isSame 44 = .ok (.isub, 1)) ∧ (decode cX4_isSame 45 = .ok (.iaload, 1)) ∧ (decode cX4_isSame 46 = .ok (.if_icmp .eq 5, 3)) ∧ (decode cX4_isSame 49 = .ok (.iconst 0, 1)) ∧ (decode cX4_isSame 50 = .ok (.ireturn, 1)) ∧ (decode cX4_isSame 51 = .ok (.iinc 4 1, 3)) := by decide +kernel
theorem dX4_isSame_26 : decode cX4_isSame 26 = .ok (.aload_n 1, 1) := da9_dX4_isSame_26.1
theorem dX4_isSame_27 : decode cX4_isSame 27 = .ok (.iload 4, 2) := da9_dX4_isSame_26.2.1
theorem dX4_isSame_29 : decode cX4_isSame 29 = .ok (.invokevirtual 172, 3) := da9_dX4_isSame_26.2.2.1
theorem dX4_isSame_32 : decode cX4_isSame 32 = .ok (.aload_n 0, 1) := da9_dX4_isSame_26.2.2.2.1
theorem dX4_isSame_33 : decode cX4_isSame 33 = .ok (.getfield 9, 3) := da9_dX4_isSame_26.2.2.2.2.1
theorem dX4_isSame_36 : decode cX4_isSame 36 = .ok (.aload_n 0, 1) := da9_dX4_isSame_26.2.2.2.2.2.1
theorem dX4_isSame_37 : decode cX4_isSame 37 = .ok (.getfield 30, 3) := da9_dX4_isSame_26.2.2.2.2.2.2.1
theorem dX4_isSame_40 : decode cX4_isSame 40 = .ok (.iload 4, 2) := da9_dX4_isSame_26.2.2.2.2.2.2.2.1
theorem dX4_isSame_42 : decode cX4_isSame 42 = .ok (.iadd, 1) := da9_dX4_isSame_26.2.2.2.2.2.2.2.2.1
theorem dX4_isSame_43 : decode cX4_isSame 43 = .ok (.iload_n 2, 1) := da9_dX4_isSame_26.2.2.2.2.2.2.2.2.2.1
theorem dX4_isSame_44 : decode cX4_isSame 44 = .ok (.isub, 1) := da9_dX4_isSame_26.2.2.2.2.2.2.2.2.2.2.1
theorem dX4_isSame_45 : decode cX4_isSame 45 = .ok (.iaload, 1) := da9_dX4_isSame_26.2.2.2.2.2.2.2.2.2.2.2.1
theorem dX4_isSame_46 : decode cX4_isSame 46 = .ok (.if_icmp .eq 5, 3) := da9_dX4_isSame_26.2.2.2.2.2.2.2.2.2.2.2.2.1
theorem dX4_isSame_49 : decode cX4_isSame 49 = .ok (.iconst 0, 1) := da9_dX4_isSame_26.2.2.2.2.2.2.2.2.2.2.2.2.2.1
theorem dX4_isSame_50 : decode cX4_isSame 50 = .ok (.ireturn, 1) := da9_dX4_isSame_26.2.2.2.2.2.2.2.2.2.2.2.2.2.2.1
theorem dX4_isSame_51 : decode cX4_isSame 51 = .ok (.iinc 4 1, 3) := da9_dX4_isSame_26.2.2.2.2.2.2.2.2.2.2.2.2.2.2.2
theorem da9_dX4_isSame_54 : (decode cX4_isSame 54 = .ok (.goto (-34), 3)) ∧ (decode cX4_isSame 57 = .ok (.iconst 1, 1)) ∧ (decode cX4_isSame 58 = .ok (.ireturn, 1)) := by decide +kernel
theorem dX4_isSame_54 : decode cX4_isSame 54 = .ok (.goto (-34), 3) := da9_dX4_isSame_54.1
theorem dX4_isSame_57 : decode cX4_isSame 57 = .ok (.iconst 1, 1) := da9_dX4_isSame_54.2.1
theorem dX4_isSame_58 : decode cX4_isSame 58 = .ok (.ireturn, 1) := da9_dX4_isSame_54.2.2
theorem da9_dX7_clear_0 : (decode cX7_clear 0 = .ok (.aload_n 0, 1)) ∧ (decode cX7_clear 1 = .ok (.iconst 0, 1)) ∧ (decode cX7_clear 2 = .ok (.putfield 7, 3)) ∧ (decode cX7_clear 5 = .ok (.aload_n 0, 1)) ∧ (decode cX7_clear 6 = .ok (.iconst 0, 1)) ∧ (decode cX7_clear 7 = .ok (.putfield 13, 3)) ∧ (decode cX7_clear 10 = .ok (.return_, 1)) := by decide +kernel
theorem dX7_clear_0 : decode cX7_clear 0 = .ok (.aload_n 0, 1) := da9_dX7_clear_0.1
theorem dX7_clear_1 : decode cX7_clear 1 = .ok (.iconst 0, 1) := da9_dX7_clear_0.2.1
theorem dX7_clear_2 : decode cX7_clear 2 = .ok (.putfield 7, 3) := da9_dX7_clear_0.2.2.1
theorem dX7_clear_5 : decode cX7_clear 5 = .ok (.aload_n 0, 1) := da9_dX7_clear_0.2.2.2.1
theorem dX7_clear_6 : decode cX7_clear 6 = .ok (.iconst 0, 1) := da9_dX7_clear_0.2.2.2.2.1
theorem dX7_clear_7 : decode cX7_clear 7 = .ok (.putfield 13, 3) := da9_dX7_clear_0.2.2.2.2.2.1
theorem dX7_clear_10 : decode cX7_clear 10 = .ok (.return_, 1) := da9_dX7_clear_0.2.2.2.2.2.2
theorem da9_dX7_beginClause_0 : (decode cX7_beginClause 0 = .ok (.aload_n 0, 1)) ∧ (decode cX7_beginClause 1 = .ok (.getfield 7, 3)) ∧ (decode cX7_beginClause 4 = .ok (.aload_n 0, 1)) ∧ (decode cX7_beginClause 5 = .ok (.getfield 16, 3)) ∧ (decode cX7_beginClause 8 = .ok (.arraylength, 1)) ∧ (decode cX7_beginClause 9 = .ok (.if_icmp .ge 72, 3)) ∧ (decode cX7_beginClause 12 = .ok (.aload_n 0, 1)) ∧ (decode cX7_beginClause 13 = .ok (.getfield 16, 3)) ∧ (decode cX7_beginClause 16 = .ok (.aload_n 0, 1)) ∧ (decode cX7_beginClause 17 = .ok (.getfield 7, 3)) ∧ (decode cX7_beginClause 20 = .ok (.iload_n 1, 1)) ∧ (decode cX7_beginClause 21 = .ok (.iastore, 1)) ∧ (decode cX7_beginClause 22 = .ok (.aload_n 0, 1)) ∧ (decode cX7_beginClause 23 = .ok (.getfield 20, 3)) ∧ (decode cX7_beginClause 26 = .ok (.aload_n 0, 1)) ∧ (decode cX7_beginClause 27 = .ok (.getfield 7, 3)) := by decide +kernel
theorem dX7_beginClause_0 : decode cX7_beginClause 0 = .ok (.aload_n 0, 1) := da9_dX7_beginClause_0.1
theorem dX7_beginClause_1 : decode cX7_beginClause 1 = .ok (.getfield 7, 3) := da9_dX7_beginClause_0.2.1
theorem dX7_beginClause_4 : decode cX7_beginClause 4 = .ok (.aload_n 0, 1) := da9_dX7_beginClause_0.2.2.1
theorem dX7_beginClause_5 : decode cX7_beginClause 5 = .ok (.getfield 16, 3) := da9_dX7_beginClause_0.2.2.2.1
theorem dX7_beginClause_8 : decode cX7_beginClause 8 = .ok (.arraylength, 1) := da9_dX7_beginClause_0.2.2.2.2.1
theorem dX7_beginClause_9 : decode cX7_beginClause 9 = .ok (.if_icmp .ge 72, 3) := da9_dX7_beginClause_0.2.2.2.2.2.1
theorem dX7_beginClause_12 : decode cX7_beginClause 12 = .ok (.aload_n 0, 1) := da9_dX7_beginClause_0.2.2.2.2.2.2.1
theorem dX7_beginClause_13 : decode cX7_beginClause 13 = .ok (.getfield 16, 3) := da9_dX7_beginClause_0.2.2.2.2.2.2.2.1
theorem dX7_beginClause_16 : decode cX7_beginClause 16 = .ok (.aload_n 0, 1) := da9_dX7_beginClause_0.2.2.2.2.2.2.2.2.1
theorem dX7_beginClause_17 : decode cX7_beginClause 17 = .ok (.getfield 7, 3) := da9_dX7_beginClause_0.2.2.2.2.2.2.2.2.2.1
theorem dX7_beginClause_20 : decode cX7_beginClause 20 = .ok (.iload_n 1, 1) := da9_dX7_beginClause_0.2.2.2.2.2.2.2.2.2.2.1
theorem dX7_beginClause_21 : decode cX7_beginClause 21 = .ok (.iastore, 1) := da9_dX7_beginClause_0.2.2.2.2.2.2.2.2.2.2.2.1
theorem dX7_beginClause_22 : decode cX7_beginClause 22 = .ok (.aload_n 0, 1) := da9_dX7_beginClause_0.2.2.2.2.2.2.2.2.2.2.2.2.1
theorem dX7_beginClause_23 : decode cX7_beginClause 23 = .ok (.getfield 20, 3) := da9_dX7_beginClause_0.2.2.2.2.2.2.2.2.2.2.2.2.2.1
theorem dX7_beginClause_26 : decode cX7_beginClause 26 = .ok (.aload_n 0, 1) := da9_dX7_beginClause_0.2.2.2.2.2.2.2.2.2.2.2.2.2.2.1
theorem dX7_beginClause_27 : decode cX7_beginClause 27 = .ok (.getfield 7, 3) := da9_dX7_beginClause_0.2.2.2.2.2.2.2.2.2.2.2.2.2.2.2
theorem da9_dX7_beginClause_30 : (decode cX7_beginClause 30 = .ok (.iconst 1, 1)) ∧ (decode cX7_beginClause 31 = .ok (.iastore, 1)) ∧ (decode cX7_beginClause 32 = .ok (.aload_n 0, 1)) ∧ (decode cX7_beginClause 33 = .ok (.getfield 23, 3)) ∧ (decode cX7_beginClause 36 = .ok (.aload_n 0, 1)) ∧ (decode cX7_beginClause 37 = .ok (.getfield 7, 3)) ∧ (decode cX7_beginClause 40 = .ok (.aload_n 0, 1)) ∧ (decode cX7_beginClause 41 = .ok (.getfield 13, 3)) ∧ (decode cX7_beginClause 44 = .ok (.iastore, 1)) ∧ (decode cX7_beginClause 45 = .ok (.aload_n 0, 1)) ∧ (decode cX7_beginClause 46 = .ok (.getfield 26, 3)) ∧ (decode cX7_beginClause 49 = .ok (.aload_n 0, 1)) ∧ (decode cX7_beginClause 50 = .ok (.getfield 7, 3)) ∧ (decode cX7_beginClause 53 = .ok (.aload_n 0, 1)) ∧ (decode cX7_beginClause 54 = .ok (.getfield 13, 3)) ∧ (decode cX7_beginClause 57 = .ok (.iastore, 1)) := by decide +kernel
theorem dX7_beginClause_30 : decode cX7_beginClause 30 = .ok (.iconst 1, 1) := da9_dX7_beginClause_30.1
theorem dX7_beginClause_31 : decode cX7_beginClause 31 = .ok (.iastore, 1) := da9_dX7_beginClause_30.2.1
theorem dX7_beginClause_32 : decode cX7_beginClause 32 = .ok (.aload_n 0, 1) := da9_dX7_beginClause_30.2.2.1
theorem dX7_beginClause_33 : decode cX7_beginClause 33 = .ok (.getfield 23, 3) := da9_dX7_beginClause_30.2.2.2.1
theorem dX7_beginClause_36 : decode cX7_beginClause 36 = .ok (.aload_n 0, 1) := da9_dX7_beginClause_30.2.2.2.2.1
theorem dX7_beginClause_37 : decode cX7_beginClause 37 = .ok (.getfield 7, 3) := da9_dX7_beginClause_30.2.2.2.2.2.1
theorem dX7_beginClause_40 : decode cX7_beginClause 40 = .ok (.aload_n 0, 1) := da9_dX7_beginClause_30.2.2.2.2.2.2.1
theorem dX7_beginClause_41 : decode cX7_beginClause 41 = .ok (.getfield 13, 3) := da9_dX7_beginClause_30.2.2.2.2.2.2.2.1
theorem dX7_beginClause_44 : decode cX7_beginClause 44 = .ok (.iastore, 1) := da9_dX7_beginClause_30.2.2.2.2.2.2.2.2.1
theorem dX7_beginClause_45 : decode cX7_beginClause 45 = .ok (.aload_n 0, 1) := da9_dX7_beginClause_30.2.2.2.2.2.2.2.2.2.1
theorem dX7_beginClause_46 : decode cX7_beginClause 46 = .ok (.getfield 26, 3) := da9_dX7_beginClause_30.2.2.2.2.2.2.2.2.2.2.1
theorem dX7_beginClause_49 : decode cX7_beginClause 49 = .ok (.aload_n 0, 1) := da9_dX7_beginClause_30.2.2.2.2.2.2.2.2.2.2.2.1
theorem dX7_beginClause_50 : decode cX7_beginClause 50 = .ok (.getfield 7, 3) := da9_dX7_beginClause_30.2.2.2.2.2.2.2.2.2.2.2.2.1
theorem dX7_beginClause_53 : decode cX7_beginClause 53 = .ok (.aload_n 0, 1) := da9_dX7_beginClause_30.2.2.2.2.2.2.2.2.2.2.2.2.2.1
theorem dX7_beginClause_54 : decode cX7_beginClause 54 = .ok (.getfield 13, 3) := da9_dX7_beginClause_30.2.2.2.2.2.2.2.2.2.2.2.2.2.2.1
theorem dX7_beginClause_57 : decode cX7_beginClause 57 = .ok (.iastore, 1) := da9_dX7_beginClause_30.2.2.2.2.2.2.2.2.2.2.2.2.2.2.2
theorem da9_dX7_beginClause_58 : (decode cX7_beginClause 58 = .ok (.aload_n 0, 1)) ∧ (decode cX7_beginClause 59 = .ok (.getfield 29, 3)) ∧ (decode cX7_beginClause 62 = .ok (.aload_n 0, 1)) ∧ (decode cX7_beginClause 63 = .ok (.getfield 7, 3)) ∧ (decode cX7_beginClause 66 = .ok (.aload_n 0, 1)) ∧ (decode cX7_beginClause 67 = .ok (.getfield 13, 3)) ∧ (decode cX7_beginClause 70 = .ok (.iastore, 1)) ∧ (decode cX7_beginClause 71 = .ok (.aload_n 0, 1)) ∧ (decode cX7_beginClause 72 = .ok (.dup, 1)) ∧ (decode cX7_beginClause 73 = .ok (.getfield 7, 3)) ∧ (decode cX7_beginClause 76 = .ok (.iconst 1, 1)) ∧ (decode cX7_beginClause 77 = .ok (.iadd, 1)) ∧ (decode cX7_beginClause 78 = .ok (.putfield 7, 3)) ∧ (decode cX7_beginClause 81 = .ok (.return_, 1)) := by decide +kernel
theorem dX7_beginClause_58 : decode cX7_beginClause 58 = .ok (.aload_n 0, 1) := da9_dX7_beginClause_58.1
theorem dX7_beginClause_59 : decode cX7_beginClause 59 = .ok (.getfield 29, 3) := da9_dX7_beginClause_58.2.1
theorem dX7_beginClause_62 : decode cX7_beginClause 62 = .ok (.aload_n 0, 1) := da9_dX7_beginClause_58.2.2.1
theorem dX7_beginClause_63 : decode cX7_beginClause 63 = .ok (.getfield 7, 3) := da9_dX7_beginClause_58.2.2.2.1
theorem dX7_beginClause_66 : decode cX7_beginClause 66 = .ok (.aload_n 0, 1) := da9_dX7_beginClause_58.2.2.2.2.1
theorem dX7_beginClause_67 : decode cX7_beginClause 67 = .ok (.getfield 13, 3) := da9_dX7_beginClause_58.2.2.2.2.2.1
theorem dX7_beginClause_70 : decode cX7_beginClause 70 = .ok (.iastore, 1) := da9_dX7_beginClause_58.2.2.2.2.2.2.1
theorem dX7_beginClause_71 : decode cX7_beginClause 71 = .ok (.aload_n 0, 1) := da9_dX7_beginClause_58.2.2.2.2.2.2.2.1
theorem dX7_beginClause_72 : decode cX7_beginClause 72 = .ok (.dup, 1) := da9_dX7_beginClause_58.2.2.2.2.2.2.2.2.1
theorem dX7_beginClause_73 : decode cX7_beginClause 73 = .ok (.getfield 7, 3) := da9_dX7_beginClause_58.2.2.2.2.2.2.2.2.2.1
theorem dX7_beginClause_76 : decode cX7_beginClause 76 = .ok (.iconst 1, 1) := da9_dX7_beginClause_58.2.2.2.2.2.2.2.2.2.2.1
theorem dX7_beginClause_77 : decode cX7_beginClause 77 = .ok (.iadd, 1) := da9_dX7_beginClause_58.2.2.2.2.2.2.2.2.2.2.2.1
theorem dX7_beginClause_78 : decode cX7_beginClause 78 = .ok (.putfield 7, 3) := da9_dX7_beginClause_58.2.2.2.2.2.2.2.2.2.2.2.2.1
theorem dX7_beginClause_81 : decode cX7_beginClause 81 = .ok (.return_, 1) := da9_dX7_beginClause_58.2.2.2.2.2.2.2.2.2.2.2.2.2
