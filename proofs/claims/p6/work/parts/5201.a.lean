set_option maxRecDepth 20000 in
theorem ggX2_valueOf_X2_join : GoodIn wsX2_valueOf wsX2_join := goodIn_r _ [11, 1, 12, 13, 14, 15] rfl (by decide +kernel)
set_option maxRecDepth 20000 in
theorem gX2_valueOf_X2_join : GoodIn wsX2_valueOf (wsV RX2 28 RX2 yX2_join wsX2_join) := goodIn_app (goodIn_of _ (by decide +kernel)) ggX2_valueOf_X2_join
theorem da9_dX2_valueOf_0 : (decode cX2_valueOf 0 = .ok (.aload_n 0, 1)) ∧ (decode cX2_valueOf 1 = .ok (.iconst 0, 1)) ∧ (decode cX2_valueOf 2 = .ok (.putfield 13, 3)) ∧ (decode cX2_valueOf 5 = .ok (.aload_n 0, 1)) ∧ (decode cX2_valueOf 6 = .ok (.getfield 9, 3)) ∧ (decode cX2_valueOf 9 = .ok (.iconst 0, 1)) ∧ (decode cX2_valueOf 10 = .ok (.iconst 1, 1)) ∧ (decode cX2_valueOf 11 = .ok (.iastore, 1)) ∧ (decode cX2_valueOf 12 = .ok (.iconst 0, 1)) ∧ (decode cX2_valueOf 13 = .ok (.istore 5, 2)) ∧ (decode cX2_valueOf 15 = .ok (.iload_n 2, 1)) ∧ (decode cX2_valueOf 16 = .ok (.istore 6, 2)) ∧ (decode cX2_valueOf 18 = .ok (.iload_n 3, 1)) ∧ (decode cX2_valueOf 19 = .ok (.aload_n 1, 1)) ∧ (decode cX2_valueOf 20 = .ok (.getfield 17, 3)) ∧ (decode cX2_valueOf 23 = .ok (.arraylength, 1)) := by decide +kernel
theorem dX2_valueOf_0 : decode cX2_valueOf 0 = .ok (.aload_n 0, 1) := da9_dX2_valueOf_0.1
theorem dX2_valueOf_1 : decode cX2_valueOf 1 = .ok (.iconst 0, 1) := da9_dX2_valueOf_0.2.1
theorem dX2_valueOf_2 : decode cX2_valueOf 2 = .ok (.putfield 13, 3) := da9_dX2_valueOf_0.2.2.1
theorem dX2_valueOf_5 : decode cX2_valueOf 5 = .ok (.aload_n 0, 1) := da9_dX2_valueOf_0.2.2.2.1
theorem dX2_valueOf_6 : decode cX2_valueOf 6 = .ok (.getfield 9, 3) := da9_dX2_valueOf_0.2.2.2.2.1
theorem dX2_valueOf_9 : decode cX2_valueOf 9 = .ok (.iconst 0, 1) := da9_dX2_valueOf_0.2.2.2.2.2.1
theorem dX2_valueOf_10 : decode cX2_valueOf 10 = .ok (.iconst 1, 1) := da9_dX2_valueOf_0.2.2.2.2.2.2.1
theorem dX2_valueOf_11 : decode cX2_valueOf 11 = .ok (.iastore, 1) := da9_dX2_valueOf_0.2.2.2.2.2.2.2.1
theorem dX2_valueOf_12 : decode cX2_valueOf 12 = .ok (.iconst 0, 1) := da9_dX2_valueOf_0.2.2.2.2.2.2.2.2.1
theorem dX2_valueOf_13 : decode cX2_valueOf 13 = .ok (.istore 5, 2) := da9_dX2_valueOf_0.2.2.2.2.2.2.2.2.2.1
theorem dX2_valueOf_15 : decode cX2_valueOf 15 = .ok (.iload_n 2, 1) := da9_dX2_valueOf_0.2.2.2.2.2.2.2.2.2.2.1
theorem dX2_valueOf_16 : decode cX2_valueOf 16 = .ok (.istore 6, 2) := da9_dX2_valueOf_0.2.2.2.2.2.2.2.2.2.2.2.1
theorem dX2_valueOf_18 : decode cX2_valueOf 18 = .ok (.iload_n 3, 1) := da9_dX2_valueOf_0.2.2.2.2.2.2.2.2.2.2.2.2.1
theorem dX2_valueOf_19 : decode cX2_valueOf 19 = .ok (.aload_n 1, 1) := da9_dX2_valueOf_0.2.2.2.2.2.2.2.2.2.2.2.2.2.1
theorem dX2_valueOf_20 : decode cX2_valueOf 20 = .ok (.getfield 17, 3) := da9_dX2_valueOf_0.2.2.2.2.2.2.2.2.2.2.2.2.2.2.1
theorem dX2_valueOf_23 : decode cX2_valueOf 23 = .ok (.arraylength, 1) := da9_dX2_valueOf_0.2.2.2.2.2.2.2.2.2.2.2.2.2.2.2
theorem da9_dX2_valueOf_24 : (decode cX2_valueOf 24 = .ok (.invokestatic 22, 3)) ∧ (decode cX2_valueOf 27 = .ok (.istore 7, 2)) ∧ (decode cX2_valueOf 29 = .ok (.iload_n 2, 1)) ∧ (decode cX2_valueOf 30 = .ok (.istore 8, 2)) ∧ (decode cX2_valueOf 32 = .ok (.iload 8, 2)) ∧ (decode cX2_valueOf 34 = .ok (.iload 7, 2)) ∧ (decode cX2_valueOf 36 = .ok (.if_icmp .ge 292, 3)) ∧ (decode cX2_valueOf 39 = .ok (.iload 6, 2)) ∧ (decode cX2_valueOf 41 = .ok (.iload 7, 2)) ∧ (decode cX2_valueOf 43 = .ok (.if_icmp .ge 285, 3)) ∧ (decode cX2_valueOf 46 = .ok (.aload_n 0, 1)) ∧ (decode cX2_valueOf 47 = .ok (.getfield 13, 3)) ∧ (decode cX2_valueOf 50 = .ok (.ifCond .ne 278, 3)) ∧ (decode cX2_valueOf 53 = .ok (.aload_n 1, 1)) ∧ (decode cX2_valueOf 54 = .ok (.getfield 17, 3)) ∧ (decode cX2_valueOf 57 = .ok (.iload 6, 2)) := by decide +kernel
theorem dX2_valueOf_24 : decode cX2_valueOf 24 = .ok (.invokestatic 22, 3) := da9_dX2_valueOf_24.1
theorem dX2_valueOf_27 : decode cX2_valueOf 27 = .ok (.istore 7, 2) := da9_dX2_valueOf_24.2.1
theorem dX2_valueOf_29 : decode cX2_valueOf 29 = .ok (.iload_n 2, 1) := da9_dX2_valueOf_24.2.2.1
theorem dX2_valueOf_30 : decode cX2_valueOf 30 = .ok (.istore 8, 2) := da9_dX2_valueOf_24.2.2.2.1
theorem dX2_valueOf_32 : decode cX2_valueOf 32 = .ok (.iload 8, 2) := da9_dX2_valueOf_24.2.2.2.2.1
theorem dX2_valueOf_34 : decode cX2_valueOf 34 = .ok (.iload 7, 2) := da9_dX2_valueOf_24.2.2.2.2.2.1
theorem dX2_valueOf_36 : decode cX2_valueOf 36 = .ok (.if_icmp .ge 292, 3) := da9_dX2_valueOf_24.2.2.2.2.2.2.1
theorem dX2_valueOf_39 : decode cX2_valueOf 39 = .ok (.iload 6, 2) := da9_dX2_valueOf_24.2.2.2.2.2.2.2.1
theorem dX2_valueOf_41 : decode cX2_valueOf 41 = .ok (.iload 7, 2) := da9_dX2_valueOf_24.2.2.2.2.2.2.2.2.1
theorem dX2_valueOf_43 : decode cX2_valueOf 43 = .ok (.if_icmp .ge 285, 3) := da9_dX2_valueOf_24.2.2.2.2.2.2.2.2.2.1
theorem dX2_valueOf_46 : decode cX2_valueOf 46 = .ok (.aload_n 0, 1) := da9_dX2_valueOf_24.2.2.2.2.2.2.2.2.2.2.1
theorem dX2_valueOf_47 : decode cX2_valueOf 47 = .ok (.getfield 13, 3) := da9_dX2_valueOf_24.2.2.2.2.2.2.2.2.2.2.2.1
theorem dX2_valueOf_50 : decode cX2_valueOf 50 = .ok (.ifCond .ne 278, 3) := da9_dX2_valueOf_24.2.2.2.2.2.2.2.2.2.2.2.2.1
theorem dX2_valueOf_53 : decode cX2_valueOf 53 = .ok (.aload_n 1, 1) := da9_dX2_valueOf_24.2.2.2.2.2.2.2.2.2.2.2.2.2.1
theorem dX2_valueOf_54 : decode cX2_valueOf 54 = .ok (.getfield 17, 3) := da9_dX2_valueOf_24.2.2.2.2.2.2.2.2.2.2.2.2.2.2.1
theorem dX2_valueOf_57 : decode cX2_valueOf 57 = .ok (.iload 6, 2) := da9_dX2_valueOf_24.2.2.2.2.2.2.2.2.2.2.2.2.2.2.2
theorem da9_dX2_valueOf_59 : (decode cX2_valueOf 59 = .ok (.iaload, 1)) ∧ (decode cX2_valueOf 60 = .ok (.bipush 15, 2)) ∧ (decode cX2_valueOf 62 = .ok (.iand, 1)) ∧ (decode cX2_valueOf 63 = .ok (.istore 9, 2)) ∧ (decode cX2_valueOf 65 = .ok (.aload_n 1, 1)) ∧ (decode cX2_valueOf 66 = .ok (.getfield 17, 3)) ∧ (decode cX2_valueOf 69 = .ok (.iload 6, 2)) ∧ (decode cX2_valueOf 71 = .ok (.iaload, 1)) ∧ (decode cX2_valueOf 72 = .ok (.iconst 4, 1)) ∧ (decode cX2_valueOf 73 = .ok (.ishr, 1)) ∧ (decode cX2_valueOf 74 = .ok (.istore 10, 2)) ∧ (decode cX2_valueOf 76 = .ok (.iload 9, 2)) ∧ (decode cX2_valueOf 78 = .ok (.iconst 1, 1)) ∧ (decode cX2_valueOf 79 = .ok (.if_icmp .gt 7, 3)) ∧ (decode cX2_valueOf 82 = .ok (.iconst 0, 1)) ∧ (decode cX2_valueOf 83 = .ok (.goto 15, 3)) := by decide +kernel
theorem dX2_valueOf_59 : decode cX2_valueOf 59 = .ok (.iaload, 1) := da9_dX2_valueOf_59.1
theorem dX2_valueOf_60 : decode cX2_valueOf 60 = .ok (.bipush 15, 2) := da9_dX2_valueOf_59.2.1
theorem dX2_valueOf_62 : decode cX2_valueOf 62 = .ok (.iand, 1) := da9_dX2_valueOf_59.2.2.1
theorem dX2_valueOf_63 : decode cX2_valueOf 63 = .ok (.istore 9, 2) := da9_dX2_valueOf_59.2.2.2.1
theorem dX2_valueOf_65 : decode cX2_valueOf 65 = .ok (.aload_n 1, 1) := da9_dX2_valueOf_59.2.2.2.2.1
theorem dX2_valueOf_66 : decode cX2_valueOf 66 = .ok (.getfield 17, 3) := da9_dX2_valueOf_59.2.2.2.2.2.1
theorem dX2_valueOf_69 : decode cX2_valueOf 69 = .ok (.iload 6, 2) := da9_dX2_valueOf_59.2.2.2.2.2.2.1
theorem dX2_valueOf_71 : decode cX2_valueOf 71 = .ok (.iaload, 1) := da9_dX2_valueOf_59.2.2.2.2.2.2.2.1
theorem dX2_valueOf_72 : decode cX2_valueOf 72 = .ok (.iconst 4, 1) := da9_dX2_valueOf_59.2.2.2.2.2.2.2.2.1
theorem dX2_valueOf_73 : decode cX2_valueOf 73 = .ok (.ishr, 1) := da9_dX2_valueOf_59.2.2.2.2.2.2.2.2.2.1
theorem dX2_valueOf_74 : decode cX2_valueOf 74 = .ok (.istore 10, 2) := da9_dX2_valueOf_59.2.2.2.2.2.2.2.2.2.2.1
theorem dX2_valueOf_76 : decode cX2_valueOf 76 = .ok (.iload 9, 2) := da9_dX2_valueOf_59.2.2.2.2.2.2.2.2.2.2.2.1
theorem dX2_valueOf_78 : decode cX2_valueOf 78 = .ok (.iconst 1, 1) := da9_dX2_valueOf_59.2.2.2.2.2.2.2.2.2.2.2.2.1
theorem dX2_valueOf_79 : decode cX2_valueOf 79 = .ok (.if_icmp .gt 7, 3) := da9_dX2_valueOf_59.2.2.2.2.2.2.2.2.2.2.2.2.2.1
theorem dX2_valueOf_82 : decode cX2_valueOf 82 = .ok (.iconst 0, 1) := da9_dX2_valueOf_59.2.2.2.2.2.2.2.2.2.2.2.2.2.2.1
theorem dX2_valueOf_83 : decode cX2_valueOf 83 = .ok (.goto 15, 3) := da9_dX2_valueOf_59.2.2.2.2.2.2.2.2.2.2.2.2.2.2.2
theorem da9_dX2_valueOf_86 : (decode cX2_valueOf 86 = .ok (.iload 9, 2)) ∧ (decode cX2_valueOf 88 = .ok (.bipush 10, 2)) ∧ (decode cX2_valueOf 90 = .ok (.if_icmp .ge 7, 3)) ∧ (decode cX2_valueOf 93 = .ok (.iconst 2, 1)) ∧ (decode cX2_valueOf 94 = .ok (.goto 4, 3)) ∧ (decode cX2_valueOf 97 = .ok (.iconst 1, 1)) ∧ (decode cX2_valueOf 98 = .ok (.istore 11, 2)) ∧ (decode cX2_valueOf 100 = .ok (.iinc 6 1, 3)) ∧ (decode cX2_valueOf 103 = .ok (.iload 5, 2)) ∧ (decode cX2_valueOf 105 = .ok (.iload 11, 2)) ∧ (decode cX2_valueOf 107 = .ok (.if_icmp .lt 24, 3)) ∧ (decode cX2_valueOf 110 = .ok (.iload 5, 2)) ∧ (decode cX2_valueOf 112 = .ok (.bipush 64, 2)) ∧ (decode cX2_valueOf 114 = .ok (.if_icmp .ge 17, 3)) ∧ (decode cX2_valueOf 117 = .ok (.iload 9, 2)) ∧ (decode cX2_valueOf 119 = .ok (.iconst 1, 1)) := by decide +kernel
theorem dX2_valueOf_86 : decode cX2_valueOf 86 = .ok (.iload 9, 2) := da9_dX2_valueOf_86.1
theorem dX2_valueOf_88 : decode cX2_valueOf 88 = .ok (.bipush 10, 2) := da9_dX2_valueOf_86.2.1
theorem dX2_valueOf_90 : decode cX2_valueOf 90 = .ok (.if_icmp .ge 7, 3) := da9_dX2_valueOf_86.2.2.1
theorem dX2_valueOf_93 : decode cX2_valueOf 93 = .ok (.iconst 2, 1) := da9_dX2_valueOf_86.2.2.2.1
theorem dX2_valueOf_94 : decode cX2_valueOf 94 = .ok (.goto 4, 3) := da9_dX2_valueOf_86.2.2.2.2.1
theorem dX2_valueOf_97 : decode cX2_valueOf 97 = .ok (.iconst 1, 1) := da9_dX2_valueOf_86.2.2.2.2.2.1
theorem dX2_valueOf_98 : decode cX2_valueOf 98 = .ok (.istore 11, 2) := da9_dX2_valueOf_86.2.2.2.2.2.2.1
theorem dX2_valueOf_100 : decode cX2_valueOf 100 = .ok (.iinc 6 1, 3) := da9_dX2_valueOf_86.2.2.2.2.2.2.2.1
theorem dX2_valueOf_103 : decode cX2_valueOf 103 = .ok (.iload 5, 2) := da9_dX2_valueOf_86.2.2.2.2.2.2.2.2.1
theorem dX2_valueOf_105 : decode cX2_valueOf 105 = .ok (.iload 11, 2) := da9_dX2_valueOf_86.2.2.2.2.2.2.2.2.2.1
theorem dX2_valueOf_107 : decode cX2_valueOf 107 = .ok (.if_icmp .lt 24, 3) := da9_dX2_valueOf_86.2.2.2.2.2.2.2.2.2.2.1
theorem dX2_valueOf_110 : decode cX2_valueOf 110 = .ok (.iload 5, 2) := da9_dX2_valueOf_86.2.2.2.2.2.2.2.2.2.2.2.1
theorem dX2_valueOf_112 : decode cX2_valueOf 112 = .ok (.bipush 64, 2) := da9_dX2_valueOf_86.2.2.2.2.2.2.2.2.2.2.2.2.1
theorem dX2_valueOf_114 : decode cX2_valueOf 114 = .ok (.if_icmp .ge 17, 3) := da9_dX2_valueOf_86.2.2.2.2.2.2.2.2.2.2.2.2.2.1
theorem dX2_valueOf_117 : decode cX2_valueOf 117 = .ok (.iload 9, 2) := da9_dX2_valueOf_86.2.2.2.2.2.2.2.2.2.2.2.2.2.2.1
theorem dX2_valueOf_119 : decode cX2_valueOf 119 = .ok (.iconst 1, 1) := da9_dX2_valueOf_86.2.2.2.2.2.2.2.2.2.2.2.2.2.2.2
theorem da9_dX2_valueOf_120 : (decode cX2_valueOf 120 = .ok (.if_icmp .ne 19, 3)) ∧ (decode cX2_valueOf 123 = .ok (.iload 10, 2)) ∧ (decode cX2_valueOf 125 = .ok (.aload 4, 2)) ∧ (decode cX2_valueOf 127 = .ok (.arraylength, 1)) ∧ (decode cX2_valueOf 128 = .ok (.if_icmp .lt 11, 3)) ∧ (decode cX2_valueOf 131 = .ok (.aload_n 0, 1)) ∧ (decode cX2_valueOf 132 = .ok (.iconst 1, 1)) ∧ (decode cX2_valueOf 133 = .ok (.putfield 13, 3)) ∧ (decode cX2_valueOf 136 = .ok (.goto 186, 3)) ∧ (decode cX2_valueOf 139 = .ok (.iload 9, 2)) ∧ (decode cX2_valueOf 141 = .ok (.ifCond .eq 9, 3)) ∧ (decode cX2_valueOf 144 = .ok (.iload 9, 2)) ∧ (decode cX2_valueOf 146 = .ok (.iconst 1, 1)) ∧ (decode cX2_valueOf 147 = .ok (.if_icmp .ne 31, 3)) ∧ (decode cX2_valueOf 150 = .ok (.aload_n 0, 1)) ∧ (decode cX2_valueOf 151 = .ok (.getfield 9, 3)) := by decide +kernel
theorem dX2_valueOf_120 : decode cX2_valueOf 120 = .ok (.if_icmp .ne 19, 3) := da9_dX2_valueOf_120.1
theorem dX2_valueOf_123 : decode cX2_valueOf 123 = .ok (.iload 10, 2) := da9_dX2_valueOf_120.2.1
theorem dX2_valueOf_125 : decode cX2_valueOf 125 = .ok (.aload 4, 2) := da9_dX2_valueOf_120.2.2.1
theorem dX2_valueOf_127 : decode cX2_valueOf 127 = .ok (.arraylength, 1) := da9_dX2_valueOf_120.2.2.2.1
theorem dX2_valueOf_128 : decode cX2_valueOf 128 = .ok (.if_icmp .lt 11, 3) := da9_dX2_valueOf_120.2.2.2.2.1
theorem dX2_valueOf_131 : decode cX2_valueOf 131 = .ok (.aload_n 0, 1) := da9_dX2_valueOf_120.2.2.2.2.2.1
theorem dX2_valueOf_132 : decode cX2_valueOf 132 = .ok (.iconst 1, 1) := da9_dX2_valueOf_120.2.2.2.2.2.2.1
theorem dX2_valueOf_133 : decode cX2_valueOf 133 = .ok (.putfield 13, 3) := da9_dX2_valueOf_120.2.2.2.2.2.2.2.1
theorem dX2_valueOf_136 : decode cX2_valueOf 136 = .ok (.goto 186, 3) := da9_dX2_valueOf_120.2.2.2.2.2.2.2.2.1
theorem dX2_valueOf_139 : decode cX2_valueOf 139 = .ok (.iload 9, 2) := da9_dX2_valueOf_120.2.2.2.2.2.2.2.2.2.1
theorem dX2_valueOf_141 : decode cX2_valueOf 141 = .ok (.ifCond .eq 9, 3) := da9_dX2_valueOf_120.2.2.2.2.2.2.2.2.2.2.1
theorem dX2_valueOf_144 : decode cX2_valueOf 144 = .ok (.iload 9, 2) := da9_dX2_valueOf_120.2.2.2.2.2.2.2.2.2.2.2.1
theorem dX2_valueOf_146 : decode cX2_valueOf 146 = .ok (.iconst 1, 1) := da9_dX2_valueOf_120.2.2.2.2.2.2.2.2.2.2.2.2.1
theorem dX2_valueOf_147 : decode cX2_valueOf 147 = .ok (.if_icmp .ne 31, 3) := da9_dX2_valueOf_120.2.2.2.2.2.2.2.2.2.2.2.2.2.1
theorem dX2_valueOf_150 : decode cX2_valueOf 150 = .ok (.aload_n 0, 1) := da9_dX2_valueOf_120.2.2.2.2.2.2.2.2.2.2.2.2.2.2.1
theorem dX2_valueOf_151 : decode cX2_valueOf 151 = .ok (.getfield 9, 3) := da9_dX2_valueOf_120.2.2.2.2.2.2.2.2.2.2.2.2.2.2.2
theorem da9_dX2_valueOf_154 : (decode cX2_valueOf 154 = .ok (.iload 5, 2)) ∧ (decode cX2_valueOf 156 = .ok (.iload 9, 2)) ∧ (decode cX2_valueOf 158 = .ok (.ifCond .ne 8, 3)) ∧ (decode cX2_valueOf 161 = .ok (.iload 10, 2)) ∧ (decode cX2_valueOf 163 = .ok (.goto 8, 3)) ∧ (decode cX2_valueOf 166 = .ok (.aload 4, 2)) ∧ (decode cX2_valueOf 168 = .ok (.iload 10, 2)) ∧ (decode cX2_valueOf 170 = .ok (.iaload, 1)) ∧ (decode cX2_valueOf 171 = .ok (.iastore, 1)) ∧ (decode cX2_valueOf 172 = .ok (.iinc 5 1, 3)) ∧ (decode cX2_valueOf 175 = .ok (.goto 147, 3)) ∧ (decode cX2_valueOf 178 = .ok (.iload 9, 2)) ∧ (decode cX2_valueOf 180 = .ok (.bipush 10, 2)) ∧ (decode cX2_valueOf 182 = .ok (.if_icmp .ne 26, 3)) ∧ (decode cX2_valueOf 185 = .ok (.aload_n 0, 1)) ∧ (decode cX2_valueOf 186 = .ok (.getfield 9, 3)) := by decide +kernel
theorem dX2_valueOf_154 : decode cX2_valueOf 154 = .ok (.iload 5, 2) := da9_dX2_valueOf_154.1
theorem dX2_valueOf_156 : decode cX2_valueOf 156 = .ok (.iload 9, 2) := da9_dX2_valueOf_154.2.1
theorem dX2_valueOf_158 : decode cX2_valueOf 158 = .ok (.ifCond .ne 8, 3) := da9_dX2_valueOf_154.2.2.1
theorem dX2_valueOf_161 : decode cX2_valueOf 161 = .ok (.iload 10, 2) := da9_dX2_valueOf_154.2.2.2.1
theorem dX2_valueOf_163 : decode cX2_valueOf 163 = .ok (.goto 8, 3) := da9_dX2_valueOf_154.2.2.2.2.1
theorem dX2_valueOf_166 : decode cX2_valueOf 166 = .ok (.aload 4, 2) := da9_dX2_valueOf_154.2.2.2.2.2.1
theorem dX2_valueOf_168 : decode cX2_valueOf 168 = .ok (.iload 10, 2) := da9_dX2_valueOf_154.2.2.2.2.2.2.1
theorem dX2_valueOf_170 : decode cX2_valueOf 170 = .ok (.iaload, 1) := da9_dX2_valueOf_154.2.2.2.2.2.2.2.1
theorem dX2_valueOf_171 : decode cX2_valueOf 171 = .ok (.iastore, 1) := da9_dX2_valueOf_154.2.2.2.2.2.2.2.2.1
theorem dX2_valueOf_172 : decode cX2_valueOf 172 = .ok (.iinc 5 1, 3) := da9_dX2_valueOf_154.2.2.2.2.2.2.2.2.2.1
theorem dX2_valueOf_175 : decode cX2_valueOf 175 = .ok (.goto 147, 3) := da9_dX2_valueOf_154.2.2.2.2.2.2.2.2.2.2.1
theorem dX2_valueOf_178 : decode cX2_valueOf 178 = .ok (.iload 9, 2) := da9_dX2_valueOf_154.2.2.2.2.2.2.2.2.2.2.2.1
theorem dX2_valueOf_180 : decode cX2_valueOf 180 = .ok (.bipush 10, 2) := da9_dX2_valueOf_154.2.2.2.2.2.2.2.2.2.2.2.2.1
theorem dX2_valueOf_182 : decode cX2_valueOf 182 = .ok (.if_icmp .ne 26, 3) := da9_dX2_valueOf_154.2.2.2.2.2.2.2.2.2.2.2.2.2.1
theorem dX2_valueOf_185 : decode cX2_valueOf 185 = .ok (.aload_n 0, 1) := da9_dX2_valueOf_154.2.2.2.2.2.2.2.2.2.2.2.2.2.2.1
theorem dX2_valueOf_186 : decode cX2_valueOf 186 = .ok (.getfield 9, 3) := da9_dX2_valueOf_154.2.2.2.2.2.2.2.2.2.2.2.2.2.2.2
theorem da9_dX2_valueOf_189 : (decode cX2_valueOf 189 = .ok (.iload 5, 2)) ∧ (decode cX2_valueOf 191 = .ok (.iconst 1, 1)) ∧ (decode cX2_valueOf 192 = .ok (.isub, 1)) ∧ (decode cX2_valueOf 193 = .ok (.iconst 1, 1)) ∧ (decode cX2_valueOf 194 = .ok (.aload_n 0, 1)) ∧ (decode cX2_valueOf 195 = .ok (.getfield 9, 3)) ∧ (decode cX2_valueOf 198 = .ok (.iload 5, 2)) ∧ (decode cX2_valueOf 200 = .ok (.iconst 1, 1)) ∧ (decode cX2_valueOf 201 = .ok (.isub, 1)) ∧ (decode cX2_valueOf 202 = .ok (.iaload, 1)) ∧ (decode cX2_valueOf 203 = .ok (.isub, 1)) ∧ (decode cX2_valueOf 204 = .ok (.iastore, 1)) ∧ (decode cX2_valueOf 205 = .ok (.goto 117, 3)) ∧ (decode cX2_valueOf 208 = .ok (.iload 9, 2)) ∧ (decode cX2_valueOf 210 = .ok (.bipush 11, 2)) ∧ (decode cX2_valueOf 212 = .ok (.if_icmp .eq 10, 3)) := by decide +kernel
theorem dX2_valueOf_189 : decode cX2_valueOf 189 = .ok (.iload 5, 2) := da9_dX2_valueOf_189.1
theorem dX2_valueOf_191 : decode cX2_valueOf 191 = .ok (.iconst 1, 1) := da9_dX2_valueOf_189.2.1
theorem dX2_valueOf_192 : decode cX2_valueOf 192 = .ok (.isub, 1) := da9_dX2_valueOf_189.2.2.1
theorem dX2_valueOf_193 : decode cX2_valueOf 193 = .ok (.iconst 1, 1) := da9_dX2_valueOf_189.2.2.2.1
theorem dX2_valueOf_194 : decode cX2_valueOf 194 = .ok (.aload_n 0, 1) := da9_dX2_valueOf_189.2.2.2.2.1
theorem dX2_valueOf_195 : decode cX2_valueOf 195 = .ok (.getfield 9, 3) := da9_dX2_valueOf_189.2.2.2.2.2.1
theorem dX2_valueOf_198 : decode cX2_valueOf 198 = .ok (.iload 5, 2) := da9_dX2_valueOf_189.2.2.2.2.2.2.1
theorem dX2_valueOf_200 : decode cX2_valueOf 200 = .ok (.iconst 1, 1) := da9_dX2_valueOf_189.2.2.2.2.2.2.2.1
theorem dX2_valueOf_201 : decode cX2_valueOf 201 = .ok (.isub, 1) := da9_dX2_valueOf_189.2.2.2.2.2.2.2.2.1
theorem dX2_valueOf_202 : decode cX2_valueOf 202 = .ok (.iaload, 1) := da9_dX2_valueOf_189.2.2.2.2.2.2.2.2.2.1
theorem dX2_valueOf_203 : decode cX2_valueOf 203 = .ok (.isub, 1) := da9_dX2_valueOf_189.2.2.2.2.2.2.2.2.2.2.1
theorem dX2_valueOf_204 : decode cX2_valueOf 204 = .ok (.iastore, 1) := da9_dX2_valueOf_189.2.2.2.2.2.2.2.2.2.2.2.1
theorem dX2_valueOf_205 : decode cX2_valueOf 205 = .ok (.goto 117, 3) := da9_dX2_valueOf_189.2.2.2.2.2.2.2.2.2.2.2.2.1
theorem dX2_valueOf_208 : decode cX2_valueOf 208 = .ok (.iload 9, 2) := da9_dX2_valueOf_189.2.2.2.2.2.2.2.2.2.2.2.2.2.1
theorem dX2_valueOf_210 : decode cX2_valueOf 210 = .ok (.bipush 11, 2) := da9_dX2_valueOf_189.2.2.2.2.2.2.2.2.2.2.2.2.2.2.1
theorem dX2_valueOf_212 : decode cX2_valueOf 212 = .ok (.if_icmp .eq 10, 3) := da9_dX2_valueOf_189.2.2.2.2.2.2.2.2.2.2.2.2.2.2.2
theorem da9_dX2_valueOf_215 : (decode cX2_valueOf 215 = .ok (.iload 9, 2)) ∧ (decode cX2_valueOf 217 = .ok (.bipush 12, 2)) ∧ (decode cX2_valueOf 219 = .ok (.if_icmp .ne 67, 3)) ∧ (decode cX2_valueOf 222 = .ok (.aload_n 0, 1)) ∧ (decode cX2_valueOf 223 = .ok (.getfield 9, 3)) ∧ (decode cX2_valueOf 226 = .ok (.iload 5, 2)) ∧ (decode cX2_valueOf 228 = .ok (.iconst 1, 1)) ∧ (decode cX2_valueOf 229 = .ok (.isub, 1)) ∧ (decode cX2_valueOf 230 = .ok (.iaload, 1)) ∧ (decode cX2_valueOf 231 = .ok (.iload 9, 2)) ∧ (decode cX2_valueOf 233 = .ok (.bipush 12, 2)) ∧ (decode cX2_valueOf 235 = .ok (.if_icmp .ne 7, 3)) ∧ (decode cX2_valueOf 238 = .ok (.iconst 1, 1)) ∧ (decode cX2_valueOf 239 = .ok (.goto 4, 3)) ∧ (decode cX2_valueOf 242 = .ok (.iconst 0, 1)) ∧ (decode cX2_valueOf 243 = .ok (.if_icmp .ne 7, 3)) := by decide +kernel
theorem dX2_valueOf_215 : decode cX2_valueOf 215 = .ok (.iload 9, 2) := da9_dX2_valueOf_215.1
theorem dX2_valueOf_217 : decode cX2_valueOf 217 = .ok (.bipush 12, 2) := da9_dX2_valueOf_215.2.1
theorem dX2_valueOf_219 : decode cX2_valueOf 219 = .ok (.if_icmp .ne 67, 3) := da9_dX2_valueOf_215.2.2.1
theorem dX2_valueOf_222 : decode cX2_valueOf 222 = .ok (.aload_n 0, 1) := da9_dX2_valueOf_215.2.2.2.1
theorem dX2_valueOf_223 : decode cX2_valueOf 223 = .ok (.getfield 9, 3) := da9_dX2_valueOf_215.2.2.2.2.1
theorem dX2_valueOf_226 : decode cX2_valueOf 226 = .ok (.iload 5, 2) := da9_dX2_valueOf_215.2.2.2.2.2.1
theorem dX2_valueOf_228 : decode cX2_valueOf 228 = .ok (.iconst 1, 1) := da9_dX2_valueOf_215.2.2.2.2.2.2.1
theorem dX2_valueOf_229 : decode cX2_valueOf 229 = .ok (.isub, 1) := da9_dX2_valueOf_215.2.2.2.2.2.2.2.1
theorem dX2_valueOf_230 : decode cX2_valueOf 230 = .ok (.iaload, 1) := da9_dX2_valueOf_215.2.2.2.2.2.2.2.2.1
theorem dX2_valueOf_231 : decode cX2_valueOf 231 = .ok (.iload 9, 2) := da9_dX2_valueOf_215.2.2.2.2.2.2.2.2.2.1
theorem dX2_valueOf_233 : decode cX2_valueOf 233 = .ok (.bipush 12, 2) := da9_dX2_valueOf_215.2.2.2.2.2.2.2.2.2.2.1
theorem dX2_valueOf_235 : decode cX2_valueOf 235 = .ok (.if_icmp .ne 7, 3) := da9_dX2_valueOf_215.2.2.2.2.2.2.2.2.2.2.2.1
theorem dX2_valueOf_238 : decode cX2_valueOf 238 = .ok (.iconst 1, 1) := da9_dX2_valueOf_215.2.2.2.2.2.2.2.2.2.2.2.2.1
theorem dX2_valueOf_239 : decode cX2_valueOf 239 = .ok (.goto 4, 3) := da9_dX2_valueOf_215.2.2.2.2.2.2.2.2.2.2.2.2.2.1
theorem dX2_valueOf_242 : decode cX2_valueOf 242 = .ok (.iconst 0, 1) := da9_dX2_valueOf_215.2.2.2.2.2.2.2.2.2.2.2.2.2.2.1
theorem dX2_valueOf_243 : decode cX2_valueOf 243 = .ok (.if_icmp .ne 7, 3) := da9_dX2_valueOf_215.2.2.2.2.2.2.2.2.2.2.2.2.2.2.2
theorem da9_dX2_valueOf_246 : (decode cX2_valueOf 246 = .ok (.iconst 1, 1)) ∧ (decode cX2_valueOf 247 = .ok (.goto 4, 3)) ∧ (decode cX2_valueOf 250 = .ok (.iconst 0, 1)) ∧ (decode cX2_valueOf 251 = .ok (.istore 12, 2)) ∧ (decode cX2_valueOf 253 = .ok (.iload 12, 2)) ∧ (decode cX2_valueOf 255 = .ok (.ifCond .eq 8, 3)) ∧ (decode cX2_valueOf 258 = .ok (.iload 10, 2)) ∧ (decode cX2_valueOf 260 = .ok (.goto 5, 3)) ∧ (decode cX2_valueOf 263 = .ok (.iload 6, 2)) ∧ (decode cX2_valueOf 265 = .ok (.istore 6, 2)) ∧ (decode cX2_valueOf 267 = .ok (.iload 12, 2)) ∧ (decode cX2_valueOf 269 = .ok (.ifCond .eq 8, 3)) ∧ (decode cX2_valueOf 272 = .ok (.iload 5, 2)) ∧ (decode cX2_valueOf 274 = .ok (.goto 7, 3)) ∧ (decode cX2_valueOf 277 = .ok (.iload 5, 2)) ∧ (decode cX2_valueOf 279 = .ok (.iconst 1, 1)) := by decide +kernel
theorem dX2_valueOf_246 : decode cX2_valueOf 246 = .ok (.iconst 1, 1) := da9_dX2_valueOf_246.1
theorem dX2_valueOf_247 : decode cX2_valueOf 247 = .ok (.goto 4, 3) := da9_dX2_valueOf_246.2.1
theorem dX2_valueOf_250 : decode cX2_valueOf 250 = .ok (.iconst 0, 1) := da9_dX2_valueOf_246.2.2.1
theorem dX2_valueOf_251 : decode cX2_valueOf 251 = .ok (.istore 12, 2) := da9_dX2_valueOf_246.2.2.2.1
theorem dX2_valueOf_253 : decode cX2_valueOf 253 = .ok (.iload 12, 2) := da9_dX2_valueOf_246.2.2.2.2.1
theorem dX2_valueOf_255 : decode cX2_valueOf 255 = .ok (.ifCond .eq 8, 3) := da9_dX2_valueOf_246.2.2.2.2.2.1
theorem dX2_valueOf_258 : decode cX2_valueOf 258 = .ok (.iload 10, 2) := da9_dX2_valueOf_246.2.2.2.2.2.2.1
theorem dX2_valueOf_260 : decode cX2_valueOf 260 = .ok (.goto 5, 3) := da9_dX2_valueOf_246.2.2.2.2.2.2.2.1
theorem dX2_valueOf_263 : decode cX2_valueOf 263 = .ok (.iload 6, 2) := da9_dX2_valueOf_246.2.2.2.2.2.2.2.2.1
theorem dX2_valueOf_265 : decode cX2_valueOf 265 = .ok (.istore 6, 2) := da9_dX2_valueOf_246.2.2.2.2.2.2.2.2.2.1
theorem dX2_valueOf_267 : decode cX2_valueOf 267 = .ok (.iload 12, 2) := da9_dX2_valueOf_246.2.2.2.2.2.2.2.2.2.2.1
theorem dX2_valueOf_269 : decode cX2_valueOf 269 = .ok (.ifCond .eq 8, 3) := da9_dX2_valueOf_246.2.2.2.2.2.2.2.2.2.2.2.1
theorem dX2_valueOf_272 : decode cX2_valueOf 272 = .ok (.iload 5, 2) := da9_dX2_valueOf_246.2.2.2.2.2.2.2.2.2.2.2.2.1
theorem dX2_valueOf_274 : decode cX2_valueOf 274 = .ok (.goto 7, 3) := da9_dX2_valueOf_246.2.2.2.2.2.2.2.2.2.2.2.2.2.1
theorem dX2_valueOf_277 : decode cX2_valueOf 277 = .ok (.iload 5, 2) := da9_dX2_valueOf_246.2.2.2.2.2.2.2.2.2.2.2.2.2.2.1
theorem dX2_valueOf_279 : decode cX2_valueOf 279 = .ok (.iconst 1, 1) := da9_dX2_valueOf_246.2.2.2.2.2.2.2.2.2.2.2.2.2.2.2
theorem da9_dX2_valueOf_280 : (decode cX2_valueOf 280 = .ok (.isub, 1)) ∧ (decode cX2_valueOf 281 = .ok (.istore 5, 2)) ∧ (decode cX2_valueOf 283 = .ok (.goto 39, 3)) ∧ (decode cX2_valueOf 286 = .ok (.iinc 5 (-1), 3)) ∧ (decode cX2_valueOf 289 = .ok (.aload_n 0, 1)) ∧ (decode cX2_valueOf 290 = .ok (.getfield 9, 3)) ∧ (decode cX2_valueOf 293 = .ok (.iload 5, 2)) ∧ (decode cX2_valueOf 295 = .ok (.iconst 1, 1)) ∧ (decode cX2_valueOf 296 = .ok (.isub, 1)) ∧ (decode cX2_valueOf 297 = .ok (.aload_n 0, 1)) ∧ (decode cX2_valueOf 298 = .ok (.iload 9, 2)) ∧ (decode cX2_valueOf 300 = .ok (.aload_n 0, 1)) ∧ (decode cX2_valueOf 301 = .ok (.getfield 9, 3)) ∧ (decode cX2_valueOf 304 = .ok (.iload 5, 2)) ∧ (decode cX2_valueOf 306 = .ok (.iconst 1, 1)) ∧ (decode cX2_valueOf 307 = .ok (.isub, 1)) := by decide +kernel
theorem dX2_valueOf_280 : decode cX2_valueOf 280 = .ok (.isub, 1) := da9_dX2_valueOf_280.1
theorem dX2_valueOf_281 : decode cX2_valueOf 281 = .ok (.istore 5, 2) := da9_dX2_valueOf_280.2.1
theorem dX2_valueOf_283 : decode cX2_valueOf 283 = .ok (.goto 39, 3) := da9_dX2_valueOf_280.2.2.1
theorem dX2_valueOf_286 : decode cX2_valueOf 286 = .ok (.iinc 5 (-1), 3) := da9_dX2_valueOf_280.2.2.2.1
theorem dX2_valueOf_289 : decode cX2_valueOf 289 = .ok (.aload_n 0, 1) := da9_dX2_valueOf_280.2.2.2.2.1
theorem dX2_valueOf_290 : decode cX2_valueOf 290 = .ok (.getfield 9, 3) := da9_dX2_valueOf_280.2.2.2.2.2.1
theorem dX2_valueOf_293 : decode cX2_valueOf 293 = .ok (.iload 5, 2) := da9_dX2_valueOf_280.2.2.2.2.2.2.1
theorem dX2_valueOf_295 : decode cX2_valueOf 295 = .ok (.iconst 1, 1) := da9_dX2_valueOf_280.2.2.2.2.2.2.2.1
theorem dX2_valueOf_296 : decode cX2_valueOf 296 = .ok (.isub, 1) := da9_dX2_valueOf_280.2.2.2.2.2.2.2.2.1
theorem dX2_valueOf_297 : decode cX2_valueOf 297 = .ok (.aload_n 0, 1) := da9_dX2_valueOf_280.2.2.2.2.2.2.2.2.2.1
theorem dX2_valueOf_298 : decode cX2_valueOf 298 = .ok (.iload 9, 2) := da9_dX2_valueOf_280.2.2.2.2.2.2.2.2.2.2.1
theorem dX2_valueOf_300 : decode cX2_valueOf 300 = .ok (.aload_n 0, 1) := da9_dX2_valueOf_280.2.2.2.2.2.2.2.2.2.2.2.1
theorem dX2_valueOf_301 : decode cX2_valueOf 301 = .ok (.getfield 9, 3) := da9_dX2_valueOf_280.2.2.2.2.2.2.2.2.2.2.2.2.1
theorem dX2_valueOf_304 : decode cX2_valueOf 304 = .ok (.iload 5, 2) := da9_dX2_valueOf_280.2.2.2.2.2.2.2.2.2.2.2.2.2.1
theorem dX2_valueOf_306 : decode cX2_valueOf 306 = .ok (.iconst 1, 1) := da9_dX2_valueOf_280.2.2.2.2.2.2.2.2.2.2.2.2.2.2.1
theorem dX2_valueOf_307 : decode cX2_valueOf 307 = .ok (.isub, 1) := da9_dX2_valueOf_280.2.2.2.2.2.2.2.2.2.2.2.2.2.2.2
theorem da9_dX2_valueOf_308 : (decode cX2_valueOf 308 = .ok (.iaload, 1)) ∧ (decode cX2_valueOf 309 = .ok (.i2l, 1)) ∧ (decode cX2_valueOf 310 = .ok (.aload_n 0, 1)) ∧ (decode cX2_valueOf 311 = .ok (.getfield 9, 3)) ∧ (decode cX2_valueOf 314 = .ok (.iload 5, 2)) ∧ (decode cX2_valueOf 316 = .ok (.iaload, 1)) ∧ (decode cX2_valueOf 317 = .ok (.i2l, 1)) ∧ (decode cX2_valueOf 318 = .ok (.invokevirtual 28, 3)) ∧ (decode cX2_valueOf 321 = .ok (.iastore, 1)) ∧ (decode cX2_valueOf 322 = .ok (.iinc 8 1, 3)) ∧ (decode cX2_valueOf 325 = .ok (.goto (-293), 3)) ∧ (decode cX2_valueOf 328 = .ok (.aload_n 0, 1)) ∧ (decode cX2_valueOf 329 = .ok (.getfield 13, 3)) ∧ (decode cX2_valueOf 332 = .ok (.ifCond .eq 7, 3)) ∧ (decode cX2_valueOf 335 = .ok (.iconst 0, 1)) ∧ (decode cX2_valueOf 336 = .ok (.goto 9, 3)) := by decide +kernel
theorem dX2_valueOf_308 : decode cX2_valueOf 308 = .ok (.iaload, 1) := da9_dX2_valueOf_308.1
theorem dX2_valueOf_309 : decode cX2_valueOf 309 = .ok (.i2l, 1) := da9_dX2_valueOf_308.2.1
theorem dX2_valueOf_310 : decode cX2_valueOf 310 = .ok (.aload_n 0, 1) := da9_dX2_valueOf_308.2.2.1
theorem dX2_valueOf_311 : decode cX2_valueOf 311 = .ok (.getfield 9, 3) := da9_dX2_valueOf_308.2.2.2.1
theorem dX2_valueOf_314 : decode cX2_valueOf 314 = .ok (.iload 5, 2) := da9_dX2_valueOf_308.2.2.2.2.1
theorem dX2_valueOf_316 : decode cX2_valueOf 316 = .ok (.iaload, 1) := da9_dX2_valueOf_308.2.2.2.2.2.1
theorem dX2_valueOf_317 : decode cX2_valueOf 317 = .ok (.i2l, 1) := da9_dX2_valueOf_308.2.2.2.2.2.2.1
theorem dX2_valueOf_318 : decode cX2_valueOf 318 = .ok (.invokevirtual 28, 3) := da9_dX2_valueOf_308.2.2.2.2.2.2.2.1
theorem dX2_valueOf_321 : decode cX2_valueOf 321 = .ok (.iastore, 1) := da9_dX2_valueOf_308.2.2.2.2.2.2.2.2.1
theorem dX2_valueOf_322 : decode cX2_valueOf 322 = .ok (.iinc 8 1, 3) := da9_dX2_valueOf_308.2.2.2.2.2.2.2.2.2.1
theorem dX2_valueOf_325 : decode cX2_valueOf 325 = .ok (.goto (-293), 3) := da9_dX2_valueOf_308.2.2.2.2.2.2.2.2.2.2.1
theorem dX2_valueOf_328 : decode cX2_valueOf 328 = .ok (.aload_n 0, 1) := da9_dX2_valueOf_308.2.2.2.2.2.2.2.2.2.2.2.1
theorem dX2_valueOf_329 : decode cX2_valueOf 329 = .ok (.getfield 13, 3) := da9_dX2_valueOf_308.2.2.2.2.2.2.2.2.2.2.2.2.1
theorem dX2_valueOf_332 : decode cX2_valueOf 332 = .ok (.ifCond .eq 7, 3) := da9_dX2_valueOf_308.2.2.2.2.2.2.2.2.2.2.2.2.2.1
theorem dX2_valueOf_335 : decode cX2_valueOf 335 = .ok (.iconst 0, 1) := da9_dX2_valueOf_308.2.2.2.2.2.2.2.2.2.2.2.2.2.2.1
theorem dX2_valueOf_336 : decode cX2_valueOf 336 = .ok (.goto 9, 3) := da9_dX2_valueOf_308.2.2.2.2.2.2.2.2.2.2.2.2.2.2.2
theorem da9_dX2_valueOf_339 : (decode cX2_valueOf 339 = .ok (.aload_n 0, 1)) ∧ (decode cX2_valueOf 340 = .ok (.getfield 9, 3)) ∧ (decode cX2_valueOf 343 = .ok (.iconst 0, 1)) ∧ (decode cX2_valueOf 344 = .ok (.iaload, 1)) ∧ (decode cX2_valueOf 345 = .ok (.ireturn, 1)) := by decide +kernel
theorem dX2_valueOf_339 : decode cX2_valueOf 339 = .ok (.aload_n 0, 1) := da9_dX2_valueOf_339.1
theorem dX2_valueOf_340 : decode cX2_valueOf 340 = .ok (.getfield 9, 3) := da9_dX2_valueOf_339.2.1
theorem dX2_valueOf_343 : decode cX2_valueOf 343 = .ok (.iconst 0, 1) := da9_dX2_valueOf_339.2.2.1
theorem dX2_valueOf_344 : decode cX2_valueOf 344 = .ok (.iaload, 1) := da9_dX2_valueOf_339.2.2.2.1
theorem dX2_valueOf_345 : decode cX2_valueOf 345 = .ok (.ireturn, 1) := da9_dX2_valueOf_339.2.2.2.2
theorem da9_dX2_join_0 : (decode cX2_join 0 = .ok (.lconst 0, 1)) ∧ (decode cX2_join 1 = .ok (.lstore 6, 2)) ∧ (decode cX2_join 3 = .ok (.iload_n 1, 1)) ∧ (decode cX2_join 4 = .ok (.tableswitch 126 2 9 #[48, 57, 66, 126, 126, 75, 92, 109], 48)) ∧ (decode cX2_join 52 = .ok (.lload_n 2, 1)) ∧ (decode cX2_join 53 = .ok (.lload 4, 2)) ∧ (decode cX2_join 55 = .ok (.ladd, 1)) ∧ (decode cX2_join 56 = .ok (.lstore 6, 2)) ∧ (decode cX2_join 58 = .ok (.goto 105, 3)) ∧ (decode cX2_join 61 = .ok (.lload_n 2, 1)) ∧ (decode cX2_join 62 = .ok (.lload 4, 2)) ∧ (decode cX2_join 64 = .ok (.lsub, 1)) ∧ (decode cX2_join 65 = .ok (.lstore 6, 2)) ∧ (decode cX2_join 67 = .ok (.goto 96, 3)) ∧ (decode cX2_join 70 = .ok (.lload_n 2, 1)) ∧ (decode cX2_join 71 = .ok (.lload 4, 2)) := by decide +kernel
theorem dX2_join_0 : decode cX2_join 0 = .ok (.lconst 0, 1) := da9_dX2_join_0.1
theorem dX2_join_1 : decode cX2_join 1 = .ok (.lstore 6, 2) := da9_dX2_join_0.2.1
theorem dX2_join_3 : decode cX2_join 3 = .ok (.iload_n 1, 1) := da9_dX2_join_0.2.2.1
theorem dX2_join_4 : decode cX2_join 4 = .ok (.tableswitch 126 2 9 #[48, 57, 66, 126, 126, 75, 92, 109], 48) := da9_dX2_join_0.2.2.2.1
theorem dX2_join_52 : decode cX2_join 52 = .ok (.lload_n 2, 1) := da9_dX2_join_0.2.2.2.2.1
theorem dX2_join_53 : decode cX2_join 53 = .ok (.lload 4, 2) := da9_dX2_join_0.2.2.2.2.2.1
theorem dX2_join_55 : decode cX2_join 55 = .ok (.ladd, 1) := da9_dX2_join_0.2.2.2.2.2.2.1
theorem dX2_join_56 : decode cX2_join 56 = .ok (.lstore 6, 2) := da9_dX2_join_0.2.2.2.2.2.2.2.1
theorem dX2_join_58 : decode cX2_join 58 = .ok (.goto 105, 3) := da9_dX2_join_0.2.2.2.2.2.2.2.2.1
theorem dX2_join_61 : decode cX2_join 61 = .ok (.lload_n 2, 1) := da9_dX2_join_0.2.2.2.2.2.2.2.2.2.1
theorem dX2_join_62 : decode cX2_join 62 = .ok (.lload 4, 2) := da9_dX2_join_0.2.2.2.2.2.2.2.2.2.2.1
theorem dX2_join_64 : decode cX2_join 64 = .ok (.lsub, 1) := da9_dX2_join_0.2.2.2.2.2.2.2.2.2.2.2.1
theorem dX2_join_65 : decode cX2_join 65 = .ok (.lstore 6, 2) := da9_dX2_join_0.2.2.2.2.2.2.2.2.2.2.2.2.1
theorem dX2_join_67 : decode cX2_join 67 = .ok (.goto 96, 3) := da9_dX2_join_0.2.2.2.2.2.2.2.2.2.2.2.2.2.1
theorem dX2_join_70 : decode cX2_join 70 = .ok (.lload_n 2, 1) := da9_dX2_join_0.2.2.2.2.2.2.2.2.2.2.2.2.2.2.1
theorem dX2_join_71 : decode cX2_join 71 = .ok (.lload 4, 2) := da9_dX2_join_0.2.2.2.2.2.2.2.2.2.2.2.2.2.2.2
theorem da9_dX2_join_73 : (decode cX2_join 73 = .ok (.lmul, 1)) ∧ (decode cX2_join 74 = .ok (.lstore 6, 2)) ∧ (decode cX2_join 76 = .ok (.goto 87, 3)) ∧ (decode cX2_join 79 = .ok (.lload_n 2, 1)) ∧ (decode cX2_join 80 = .ok (.lload 4, 2)) ∧ (decode cX2_join 82 = .ok (.lcmp, 1)) ∧ (decode cX2_join 83 = .ok (.ifCond .ge 7, 3)) ∧ (decode cX2_join 86 = .ok (.lconst 1, 1)) ∧ (decode cX2_join 87 = .ok (.goto 4, 3)) ∧ (decode cX2_join 90 = .ok (.lconst 0, 1)) ∧ (decode cX2_join 91 = .ok (.lstore 6, 2)) ∧ (decode cX2_join 93 = .ok (.goto 70, 3)) ∧ (decode cX2_join 96 = .ok (.lload_n 2, 1)) ∧ (decode cX2_join 97 = .ok (.lload 4, 2)) ∧ (decode cX2_join 99 = .ok (.lcmp, 1)) ∧ (decode cX2_join 100 = .ok (.ifCond .le 7, 3)) := by decide +kernel
theorem dX2_join_73 : decode cX2_join 73 = .ok (.lmul, 1) := da9_dX2_join_73.1
theorem dX2_join_74 : decode cX2_join 74 = .ok (.lstore 6, 2) := da9_dX2_join_73.2.1
theorem dX2_join_76 : decode cX2_join 76 = .ok (.goto 87, 3) := da9_dX2_join_73.2.2.1
theorem dX2_join_79 : decode cX2_join 79 = .ok (.lload_n 2, 1) := da9_dX2_join_73.2.2.2.1
theorem dX2_join_80 : decode cX2_join 80 = .ok (.lload 4, 2) := da9_dX2_join_73.2.2.2.2.1
theorem dX2_join_82 : decode cX2_join 82 = .ok (.lcmp, 1) := da9_dX2_join_73.2.2.2.2.2.1
theorem dX2_join_83 : decode cX2_join 83 = .ok (.ifCond .ge 7, 3) := da9_dX2_join_73.2.2.2.2.2.2.1
theorem dX2_join_86 : decode cX2_join 86 = .ok (.lconst 1, 1) := da9_dX2_join_73.2.2.2.2.2.2.2.1
theorem dX2_join_87 : decode cX2_join 87 = .ok (.goto 4, 3) := da9_dX2_join_73.2.2.2.2.2.2.2.2.1
theorem dX2_join_90 : decode cX2_join 90 = .ok (.lconst 0, 1) := da9_dX2_join_73.2.2.2.2.2.2.2.2.2.1
theorem dX2_join_91 : decode cX2_join 91 = .ok (.lstore 6, 2) := da9_dX2_join_73.2.2.2.2.2.2.2.2.2.2.1
theorem dX2_join_93 : decode cX2_join 93 = .ok (.goto 70, 3) := da9_dX2_join_73.2.2.2.2.2.2.2.2.2.2.2.1
theorem dX2_join_96 : decode cX2_join 96 = .ok (.lload_n 2, 1) := da9_dX2_join_73.2.2.2.2.2.2.2.2.2.2.2.2.1
theorem dX2_join_97 : decode cX2_join 97 = .ok (.lload 4, 2) := da9_dX2_join_73.2.2.2.2.2.2.2.2.2.2.2.2.2.1
theorem dX2_join_99 : decode cX2_join 99 = .ok (.lcmp, 1) := da9_dX2_join_73.2.2.2.2.2.2.2.2.2.2.2.2.2.2.1
theorem dX2_join_100 : decode cX2_join 100 = .ok (.ifCond .le 7, 3) := da9_dX2_join_73.2.2.2.2.2.2.2.2.2.2.2.2.2.2.2
theorem da9_dX2_join_103 : (decode cX2_join 103 = .ok (.lconst 1, 1)) ∧ (decode cX2_join 104 = .ok (.goto 4, 3)) ∧ (decode cX2_join 107 = .ok (.lconst 0, 1)) ∧ (decode cX2_join 108 = .ok (.lstore 6, 2)) ∧ (decode cX2_join 110 = .ok (.goto 53, 3)) ∧ (decode cX2_join 113 = .ok (.lload_n 2, 1)) ∧ (decode cX2_join 114 = .ok (.lload 4, 2)) ∧ (decode cX2_join 116 = .ok (.lcmp, 1)) ∧ (decode cX2_join 117 = .ok (.ifCond .ne 7, 3)) ∧ (decode cX2_join 120 = .ok (.lconst 1, 1)) ∧ (decode cX2_join 121 = .ok (.goto 4, 3)) ∧ (decode cX2_join 124 = .ok (.lconst 0, 1)) ∧ (decode cX2_join 125 = .ok (.lstore 6, 2)) ∧ (decode cX2_join 127 = .ok (.goto 36, 3)) ∧ (decode cX2_join 130 = .ok (.lload 4, 2)) ∧ (decode cX2_join 132 = .ok (.lconst 0, 1)) := by decide +kernel
theorem dX2_join_103 : decode cX2_join 103 = .ok (.lconst 1, 1) := da9_dX2_join_103.1
theorem dX2_join_104 : decode cX2_join 104 = .ok (.goto 4, 3) := da9_dX2_join_103.2.1
theorem dX2_join_107 : decode cX2_join 107 = .ok (.lconst 0, 1) := da9_dX2_join_103.2.2.1
theorem dX2_join_108 : decode cX2_join 108 = .ok (.lstore 6, 2) := da9_dX2_join_103.2.2.2.1
theorem dX2_join_110 : decode cX2_join 110 = .ok (.goto 53, 3) := da9_dX2_join_103.2.2.2.2.1
theorem dX2_join_113 : decode cX2_join 113 = .ok (.lload_n 2, 1) := da9_dX2_join_103.2.2.2.2.2.1
theorem dX2_join_114 : decode cX2_join 114 = .ok (.lload 4, 2) := da9_dX2_join_103.2.2.2.2.2.2.1
theorem dX2_join_116 : decode cX2_join 116 = .ok (.lcmp, 1) := da9_dX2_join_103.2.2.2.2.2.2.2.1
theorem dX2_join_117 : decode cX2_join 117 = .ok (.ifCond .ne 7, 3) := da9_dX2_join_103.2.2.2.2.2.2.2.2.1
theorem dX2_join_120 : decode cX2_join 120 = .ok (.lconst 1, 1) := da9_dX2_join_103.2.2.2.2.2.2.2.2.2.1
theorem dX2_join_121 : decode cX2_join 121 = .ok (.goto 4, 3) := da9_dX2_join_103.2.2.2.2.2.2.2.2.2.2.1
theorem dX2_join_124 : decode cX2_join 124 = .ok (.lconst 0, 1) := da9_dX2_join_103.2.2.2.2.2.2.2.2.2.2.2.1
theorem dX2_join_125 : decode cX2_join 125 = .ok (.lstore 6, 2) := da9_dX2_join_103.2.2.2.2.2.2.2.2.2.2.2.2.1
theorem dX2_join_127 : decode cX2_join 127 = .ok (.goto 36, 3) := da9_dX2_join_103.2.2.2.2.2.2.2.2.2.2.2.2.2.1
theorem dX2_join_130 : decode cX2_join 130 = .ok (.lload 4, 2) := da9_dX2_join_103.2.2.2.2.2.2.2.2.2.2.2.2.2.2.1
theorem dX2_join_132 : decode cX2_join 132 = .ok (.lconst 0, 1) := da9_dX2_join_103.2.2.2.2.2.2.2.2.2.2.2.2.2.2.2
theorem da9_dX2_join_133 : (decode cX2_join 133 = .ok (.lcmp, 1)) ∧ (decode cX2_join 134 = .ok (.ifCond .ne 11, 3)) ∧ (decode cX2_join 137 = .ok (.aload_n 0, 1)) ∧ (decode cX2_join 138 = .ok (.iconst 1, 1)) ∧ (decode cX2_join 139 = .ok (.putfield 13, 3)) ∧ (decode cX2_join 142 = .ok (.goto 21, 3)) ∧ (decode cX2_join 145 = .ok (.iload_n 1, 1)) ∧ (decode cX2_join 146 = .ok (.iconst 5, 1)) ∧ (decode cX2_join 147 = .ok (.if_icmp .ne 10, 3)) ∧ (decode cX2_join 150 = .ok (.lload_n 2, 1)) ∧ (decode cX2_join 151 = .ok (.lload 4, 2)) ∧ (decode cX2_join 153 = .ok (.ldiv, 1)) ∧ (decode cX2_join 154 = .ok (.goto 7, 3)) ∧ (decode cX2_join 157 = .ok (.lload_n 2, 1)) ∧ (decode cX2_join 158 = .ok (.lload 4, 2)) ∧ (decode cX2_join 160 = .ok (.lrem, 1)) := by decide +kernel
theorem dX2_join_133 : decode cX2_join 133 = .ok (.lcmp, 1) := da9_dX2_join_133.1
theorem dX2_join_134 : decode cX2_join 134 = .ok (.ifCond .ne 11, 3) := da9_dX2_join_133.2.1
theorem dX2_join_137 : decode cX2_join 137 = .ok (.aload_n 0, 1) := da9_dX2_join_133.2.2.1
theorem dX2_join_138 : decode cX2_join 138 = .ok (.iconst 1, 1) := da9_dX2_join_133.2.2.2.1
theorem dX2_join_139 : decode cX2_join 139 = .ok (.putfield 13, 3) := da9_dX2_join_133.2.2.2.2.1
theorem dX2_join_142 : decode cX2_join 142 = .ok (.goto 21, 3) := da9_dX2_join_133.2.2.2.2.2.1
theorem dX2_join_145 : decode cX2_join 145 = .ok (.iload_n 1, 1) := da9_dX2_join_133.2.2.2.2.2.2.1
theorem dX2_join_146 : decode cX2_join 146 = .ok (.iconst 5, 1) := da9_dX2_join_133.2.2.2.2.2.2.2.1
theorem dX2_join_147 : decode cX2_join 147 = .ok (.if_icmp .ne 10, 3) := da9_dX2_join_133.2.2.2.2.2.2.2.2.1
theorem dX2_join_150 : decode cX2_join 150 = .ok (.lload_n 2, 1) := da9_dX2_join_133.2.2.2.2.2.2.2.2.2.1
theorem dX2_join_151 : decode cX2_join 151 = .ok (.lload 4, 2) := da9_dX2_join_133.2.2.2.2.2.2.2.2.2.2.1
theorem dX2_join_153 : decode cX2_join 153 = .ok (.ldiv, 1) := da9_dX2_join_133.2.2.2.2.2.2.2.2.2.2.2.1
theorem dX2_join_154 : decode cX2_join 154 = .ok (.goto 7, 3) := da9_dX2_join_133.2.2.2.2.2.2.2.2.2.2.2.2.1
theorem dX2_join_157 : decode cX2_join 157 = .ok (.lload_n 2, 1) := da9_dX2_join_133.2.2.2.2.2.2.2.2.2.2.2.2.2.1
theorem dX2_join_158 : decode cX2_join 158 = .ok (.lload 4, 2) := da9_dX2_join_133.2.2.2.2.2.2.2.2.2.2.2.2.2.2.1
theorem dX2_join_160 : decode cX2_join 160 = .ok (.lrem, 1) := da9_dX2_join_133.2.2.2.2.2.2.2.2.2.2.2.2.2.2.2
theorem da9_dX2_join_161 : (decode cX2_join 161 = .ok (.lstore 6, 2)) ∧ (decode cX2_join 163 = .ok (.lload 6, 2)) ∧ (decode cX2_join 165 = .ok (.ldc2_w 32, 3)) ∧ (decode cX2_join 168 = .ok (.lcmp, 1)) ∧ (decode cX2_join 169 = .ok (.ifCond .gt 12, 3)) ∧ (decode cX2_join 172 = .ok (.lload 6, 2)) ∧ (decode cX2_join 174 = .ok (.ldc2_w 34, 3)) ∧ (decode cX2_join 177 = .ok (.lcmp, 1)) ∧ (decode cX2_join 178 = .ok (.ifCond .ge 10, 3)) ∧ (decode cX2_join 181 = .ok (.aload_n 0, 1)) ∧ (decode cX2_join 182 = .ok (.iconst 1, 1)) ∧ (decode cX2_join 183 = .ok (.putfield 13, 3)) ∧ (decode cX2_join 186 = .ok (.iconst 0, 1)) ∧ (decode cX2_join 187 = .ok (.ireturn, 1)) ∧ (decode cX2_join 188 = .ok (.lload 6, 2)) ∧ (decode cX2_join 190 = .ok (.l2i, 1)) := by decide +kernel
theorem dX2_join_161 : decode cX2_join 161 = .ok (.lstore 6, 2) := da9_dX2_join_161.1
theorem dX2_join_163 : decode cX2_join 163 = .ok (.lload 6, 2) := da9_dX2_join_161.2.1
theorem dX2_join_165 : decode cX2_join 165 = .ok (.ldc2_w 32, 3) := da9_dX2_join_161.2.2.1
theorem dX2_join_168 : decode cX2_join 168 = .ok (.lcmp, 1) := da9_dX2_join_161.2.2.2.1
theorem dX2_join_169 : decode cX2_join 169 = .ok (.ifCond .gt 12, 3) := da9_dX2_join_161.2.2.2.2.1
theorem dX2_join_172 : decode cX2_join 172 = .ok (.lload 6, 2) := da9_dX2_join_161.2.2.2.2.2.1
theorem dX2_join_174 : decode cX2_join 174 = .ok (.ldc2_w 34, 3) := da9_dX2_join_161.2.2.2.2.2.2.1
theorem dX2_join_177 : decode cX2_join 177 = .ok (.lcmp, 1) := da9_dX2_join_161.2.2.2.2.2.2.2.1
theorem dX2_join_178 : decode cX2_join 178 = .ok (.ifCond .ge 10, 3) := da9_dX2_join_161.2.2.2.2.2.2.2.2.1
theorem dX2_join_181 : decode cX2_join 181 = .ok (.aload_n 0, 1) := da9_dX2_join_161.2.2.2.2.2.2.2.2.2.1
theorem dX2_join_182 : decode cX2_join 182 = .ok (.iconst 1, 1) := da9_dX2_join_161.2.2.2.2.2.2.2.2.2.2.1
theorem dX2_join_183 : decode cX2_join 183 = .ok (.putfield 13, 3) := da9_dX2_join_161.2.2.2.2.2.2.2.2.2.2.2.1
theorem dX2_join_186 : decode cX2_join 186 = .ok (.iconst 0, 1) := da9_dX2_join_161.2.2.2.2.2.2.2.2.2.2.2.2.1
theorem dX2_join_187 : decode cX2_join 187 = .ok (.ireturn, 1) := da9_dX2_join_161.2.2.2.2.2.2.2.2.2.2.2.2.2.1
theorem dX2_join_188 : decode cX2_join 188 = .ok (.lload 6, 2) := da9_dX2_join_161.2.2.2.2.2.2.2.2.2.2.2.2.2.2.1
theorem dX2_join_190 : decode cX2_join 190 = .ok (.l2i, 1) := da9_dX2_join_161.2.2.2.2.2.2.2.2.2.2.2.2.2.2.2
theorem dX2_join_191 : decode cX2_join 191 = .ok (.ireturn, 1) := by decide +kernel
