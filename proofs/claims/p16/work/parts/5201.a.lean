section
set_option maxRecDepth 20000 in
theorem ggX2_valueOf_X2_join : GoodIn wsX2_valueOf wsX2_join := wd_c vW9_ok mvW9_92
set_option maxRecDepth 20000 in
theorem gX2_valueOf_X2_join : GoodIn wsX2_valueOf (wsV RX2 28 RX2 yX2_join wsX2_join) := goodIn_app (wd_l vW9_ok _ pvW9_8) ggX2_valueOf_X2_join
theorem da9_dX2_valueOf_0 : (decode cX2_valueOf 0 = .ok (.aload_n 0, 1)) ∧ (decode cX2_valueOf 1 = .ok (.iconst 0, 1)) ∧ (decode cX2_valueOf 2 = .ok (.putfield 13, 3)) ∧ (decode cX2_valueOf 5 = .ok (.aload_n 0, 1)) ∧ (decode cX2_valueOf 6 = .ok (.getfield 9, 3)) ∧ (decode cX2_valueOf 9 = .ok (.iconst 0, 1)) ∧ (decode cX2_valueOf 10 = .ok (.iconst 1, 1)) ∧ (decode cX2_valueOf 11 = .ok (.iastore, 1)) ∧ (decode cX2_valueOf 12 = .ok (.iconst 0, 1)) ∧ (decode cX2_valueOf 13 = .ok (.istore 5, 2)) ∧ (decode cX2_valueOf 15 = .ok (.iload_n 2, 1)) ∧ (decode cX2_valueOf 16 = .ok (.istore 6, 2)) ∧ (decode cX2_valueOf 18 = .ok (.iload_n 3, 1)) ∧ (decode cX2_valueOf 19 = .ok (.aload_n 1, 1)) ∧ (decode cX2_valueOf 20 = .ok (.getfield 17, 3)) ∧ (decode cX2_valueOf 23 = .ok (.arraylength, 1)) := by decide +kernel
theorem dX2_valueOf_0 : decode cX2_valueOf 0 = .ok (.aload_n 0, 1) := da9_dX2_valueOf_0.1
theorem dX2_valueOf_1 : decode cX2_valueOf 1 = .ok (.iconst 0, 1) := da9_dX2_valueOf_0.2.1
theorem dX2_valueOf_2 : decode cX2_valueOf 2 = .ok (.putfield 13, 3) := da9_dX2_valueOf_0.2.2.1
theorem dX2_valueOf_5 : decode cX2_valueOf 5 = .ok (.aload_n 0, 1) := da9_dX2_valueOf_0.2.2.2.1
theorem dX2_valueOf_6 : decode cX2_valueOf 6 = .ok (.getfield 9, 3) := da9_dX2_valueOf_0.2.2.2.2.1
theorem dX2_valueOf_9 : decode cX2_valueOf 9 = .ok (.iconst 0, 1) := da9_dX2_valueOf_0.2.2.2.2.2.1
theorem dX2_valueOf_10 : decode cX2_valueOf 10 = .ok (.iconst 1, 1) := da9_dX2_valueOf_0.2.2.2.2.2.2.1
theorem dX2_valueOf_11 : decode cX2_valueOf 11 = .ok (.iastore, 1) := da9_dX2_valueOf_0.2.2.2.2.2.2.2.1
theorem dX2_valueOf_12 : decode cX2_valueOf 12 = .ok (.iconst 0, 1) := da9_dX2_valueOf_0.2.2.2.2.2.2.2.2.1
theorem dX2_valueOf_13 : decode cX2_valueOf 13 = .ok (.istore 5, 2) := da9_dX2_valueOf_0.2.2.2.2.2.2.2.2.2.1
theorem dX2_valueOf_15 : decode cX2_valueOf 15 = .ok (.iload_n 2, 1) := da9_dX2_valueOf_0.2.2.2.2.2.2.2.2.2.2.1
theorem dX2_valueOf_16 : decode cX2_valueOf 16 = .ok (.istore 6, 2) := da9_dX2_valueOf_0.2.2.2.2.2.2.2.2.2.2.2.1
theorem dX2_valueOf_18 : decode cX2_valueOf 18 = .ok (.iload_n 3, 1) := da9_dX2_valueOf_0.2.2.2.2.2.2.2.2.2.2.2.2.1
theorem dX2_valueOf_19 : decode cX2_valueOf 19 = .ok (.aload_n 1, 1) := da9_dX2_valueOf_0.2.2.2.2.2.2.2.2.2.2.2.2.2.1
theorem dX2_valueOf_20 : decode cX2_valueOf 20 = .ok (.getfield 17, 3) := da9_dX2_valueOf_0.2.2.2.2.2.2.2.2.2.2.2.2.2.2.1
theorem dX2_valueOf_23 : decode cX2_valueOf 23 = .ok (.arraylength, 1) := da9_dX2_valueOf_0.2.2.2.2.2.2.2.2.2.2.2.2.2.2.2
theorem da9_dX2_valueOf_24 : (decode cX2_valueOf 24 = .ok (.invokestatic 22, 3)) ∧ (decode cX2_valueOf 27 = .ok (.istore 7, 2)) ∧ (decode cX2_valueOf 29 = .ok (.iload_n 2, 1)) ∧ (decode cX2_valueOf 30 = .ok (.istore 8, 2)) ∧ (decode cX2_valueOf 32 = .ok (.iload 8, 2)) ∧ (decode cX2_valueOf 34 = .ok (.iload 7, 2)) ∧ (decode cX2_valueOf 36 = .ok (.if_icmp .ge 292, 3)) ∧ (decode cX2_valueOf 39 = .ok (.iload 6, 2)) ∧ (decode cX2_valueOf 41 = .ok (.iload 7, 2)) ∧ (decode cX2_valueOf 43 = .ok (.if_icmp .ge 285, 3)) ∧ (decode cX2_valueOf 46 = .ok (.aload_n 0, 1)) ∧ (decode cX2_valueOf 47 = .ok (.getfield 13, 3)) ∧ (decode cX2_valueOf 50 = .ok (.ifCond .ne 278, 3)) ∧ (decode cX2_valueOf 53 = .ok (.aload_n 1, 1)) ∧ (decode cX2_valueOf 54 = .ok (.getfield 17, 3)) ∧ (decode cX2_valueOf 57 = .ok (.iload 6, 2)) := by decide +kernel
theorem dX2_valueOf_24 : decode cX2_valueOf 24 = .ok (.invokestatic 22, 3) := da9_dX2_valueOf_24.1
theorem dX2_valueOf_27 : decode cX2_valueOf 27 = .ok (.istore 7, 2) := da9_dX2_valueOf_24.2.1
theorem dX2_valueOf_29 : decode cX2_valueOf 29 = .ok (.iload_n 2, 1) := da9_dX2_valueOf_24.2.2.1
theorem dX2_valueOf_30 : decode cX2_valueOf 30 = .ok (.istore 8, 2) := da9_dX2_valueOf_24.2.2.2.1
theorem dX2_valueOf_32 : decode cX2_valueOf 32 = .ok (.iload 8, 2) := da9_dX2_valueOf_24.2.2.2.2.1
theorem dX2_valueOf_34 : decode cX2_valueOf 34 = .ok (.iload 7, 2) := da9_dX2_valueOf_24.2.2.2.2.2.1
theorem dX2_valueOf_36 : decode cX2_valueOf 36 = .ok (.if_icmp .ge 292, 3) := da9_dX2_valueOf_24.2.2.2.2.2.2.1
theorem dX2_valueOf_39 : decode cX2_valueOf 39 = .ok (.iload 6, 2) := da9_dX2_valueOf_24.2.2.2.2.2.2.2.1
theorem dX2_valueOf_41 : decode cX2_valueOf 41 = .ok (.iload 7, 2) := da9_dX2_valueOf_24.2.2.2.2.2.2.2.2.1
theorem dX2_valueOf_43 : decode cX2_valueOf 43 = .ok (.if_icmp .ge 285, 3) := da9_dX2_valueOf_24.2.2.2.2.2.2.2.2.2.1
theorem dX2_valueOf_46 : decode cX2_valueOf 46 = .ok (.aload_n 0, 1) := da9_dX2_valueOf_24.2.2.2.2.2.2.2.2.2.2.1
theorem dX2_valueOf_47 : decode cX2_valueOf 47 = .ok (.getfield 13, 3) := da9_dX2_valueOf_24.2.2.2.2.2.2.2.2.2.2.2.1
theorem dX2_valueOf_50 : decode cX2_valueOf 50 = .ok (.ifCond .ne 278, 3) := da9_dX2_valueOf_24.2.2.2.2.2.2.2.2.2.2.2.2.1
theorem dX2_valueOf_53 : decode cX2_valueOf 53 = .ok (.aload_n 1, 1) := da9_dX2_valueOf_24.2.2.2.2.2.2.2.2.2.2.2.2.2.1
theorem dX2_valueOf_54 : decode cX2_valueOf 54 = .ok (.getfield 17, 3) := da9_dX2_valueOf_24.2.2.2.2.2.2.2.2.2.2.2.2.2.2.1
theorem dX2_valueOf_57 : decode cX2_valueOf 57 = .ok (.iload 6, 2) := da9_dX2_valueOf_24.2.2.2.2.2.2.2.2.2.2.2.2.2.2.2
theorem da9_dX2_valueOf_59 : (decode cX2_valueOf 59 = .ok (.iaload, 1)) ∧ (decode cX2_valueOf 60 = .ok (.bipush 15, 2)) ∧ (decode cX2_valueOf 62 = .ok (.iand, 1)) ∧ (decode cX2_valueOf 63 = .ok (.istore 9, 2)) ∧ (decode cX2_valueOf 65 = .ok (.aload_n 1, 1)) ∧ (decode cX2_valueOf 66 = .ok (.getfield 17, 3)) ∧ (decode cX2_valueOf 69 = .ok (.iload 6, 2)) ∧ (decode cX2_valueOf 71 = .ok (.iaload, 1)) ∧ (decode cX2_valueOf 72 = .ok (.iconst 4, 1)) ∧ (decode cX2_valueOf 73 = .ok (.ishr, 1)) ∧ (decode cX2_valueOf 74 = .ok (.istore 10, 2)) ∧ (decode cX2_valueOf 76 = .ok (.iload 9, 2)) ∧ (decode cX2_valueOf 78 = .ok (.iconst 1, 1)) ∧ (decode cX2_valueOf 79 = .ok (.if_icmp .gt 7, 3)) ∧ (decode cX2_valueOf 82 = .ok (.iconst 0, 1)) ∧ (decode cX2_valueOf 83 = .ok (.goto 15, 3)) := by decide +kernel
theorem dX2_valueOf_59 : decode cX2_valueOf 59 = .ok (.iaload, 1) := da9_dX2_valueOf_59.1
theorem dX2_valueOf_60 : decode cX2_valueOf 60 = .ok (.bipush 15, 2) := da9_dX2_valueOf_59.2.1
theorem dX2_valueOf_62 : decode cX2_valueOf 62 = .ok (.iand, 1) := da9_dX2_valueOf_59.2.2.1
theorem dX2_valueOf_63 : decode cX2_valueOf 63 = .ok (.istore 9, 2) := da9_dX2_valueOf_59.2.2.2.1
theorem dX2_valueOf_65 : decode cX2_valueOf 65 = .ok (.aload_n 1, 1) := da9_dX2_valueOf_59.2.2.2.2.1
theorem dX2_valueOf_66 : decode cX2_valueOf 66 = .ok (.getfield 17, 3) := da9_dX2_valueOf_59.2.2.2.2.2.1
theorem dX2_valueOf_69 : decode cX2_valueOf 69 = .ok (.iload 6, 2) := da9_dX2_valueOf_59.2.2.2.2.2.2.1
theorem dX2_valueOf_71 : decode cX2_valueOf 71 = .ok (.iaload, 1) := da9_dX2_valueOf_59.2.2.2.2.2.2.2.1
theorem dX2_valueOf_72 : decode cX2_valueOf 72 = .ok (.iconst 4, 1) := da9_dX2_valueOf_59.2.2.2.2.2.2.2.2.1
theorem dX2_valueOf_73 : decode cX2_valueOf 73 = .ok (.ishr, 1) := da9_dX2_valueOf_59.2.2.2.2.2.2.2.2.2.1
theorem dX2_valueOf_74 : decode cX2_valueOf 74 = .ok (.istore 10, 2) := da9_dX2_valueOf_59.2.2.2.2.2.2.2.2.2.2.1
theorem dX2_valueOf_76 : decode cX2_valueOf 76 = .ok (.iload 9, 2) := da9_dX2_valueOf_59.2.2.2.2.2.2.2.2.2.2.2.1
theorem dX2_valueOf_78 : decode cX2_valueOf 78 = .ok (.iconst 1, 1) := da9_dX2_valueOf_59.2.2.2.2.2.2.2.2.2.2.2.2.1
theorem dX2_valueOf_79 : decode cX2_valueOf 79 = .ok (.if_icmp .gt 7, 3) := da9_dX2_valueOf_59.2.2.2.2.2.2.2.2.2.2.2.2.2.1
theorem dX2_valueOf_82 : decode cX2_valueOf 82 = .ok (.iconst 0, 1) := da9_dX2_valueOf_59.2.2.2.2.2.2.2.2.2.2.2.2.2.2.1
theorem dX2_valueOf_83 : decode cX2_valueOf 83 = .ok (.goto 15, 3) := da9_dX2_valueOf_59.2.2.2.2.2.2.2.2.2.2.2.2.2.2.2
theorem da9_dX2_valueOf_86 : (decode cX2_valueOf 86 = .ok (.iload 9, 2)) ∧ (decode cX2_valueOf 88 = .ok (.bipush 10, 2)) ∧ (decode cX2_valueOf 90 = .ok (.if_icmp .ge 7, 3)) ∧ (decode cX2_valueOf 93 = .ok (.iconst 2, 1)) ∧ (decode cX2_valueOf 94 = .ok (.goto 4, 3)) ∧ (decode cX2_valueOf 97 = .ok (.iconst 1, 1)) ∧ (decode cX2_valueOf 98 = .ok (.istore 11, 2)) ∧ (decode cX2_valueOf 100 = .ok (.iinc 6 1, 3)) ∧ (decode cX2_valueOf 103 = .ok (.iload 5, 2)) ∧ (decode cX2_valueOf 105 = .ok (.iload 11, 2)) ∧ (decode cX2_valueOf 107 = .ok (.if_icmp .lt 24, 3)) ∧ (decode cX2_valueOf 110 = .ok (.iload 5, 2)) ∧ (decode cX2_valueOf 112 = .ok (.bipush 64, 2)) ∧ (decode cX2_valueOf 114 = .ok (.if_icmp .ge 17, 3)) ∧ (decode cX2_valueOf 117 = .ok (.iload 9, 2)) ∧ (decode cX2_valueOf 119 = .ok (.iconst 1, 1)) := by decide +kernel
theorem dX2_valueOf_86 : decode cX2_valueOf 86 = .ok (.iload 9, 2) := da9_dX2_valueOf_86.1
theorem dX2_valueOf_88 : decode cX2_valueOf 88 = .ok (.bipush 10, 2) := da9_dX2_valueOf_86.2.1
theorem dX2_valueOf_90 : decode cX2_valueOf 90 = .ok (.if_icmp .ge 7, 3) := da9_dX2_valueOf_86.2.2.1
theorem dX2_valueOf_93 : decode cX2_valueOf 93 = .ok (.iconst 2, 1) := da9_dX2_valueOf_86.2.2.2.1
theorem dX2_valueOf_94 : decode cX2_valueOf 94 = .ok (.goto 4, 3) := da9_dX2_valueOf_86.2.2.2.2.1
theorem dX2_valueOf_97 : decode cX2_valueOf 97 = .ok (.iconst 1, 1) := da9_dX2_valueOf_86.2.2.2.2.2.1
theorem dX2_valueOf_98 : decode cX2_valueOf 98 = .ok (.istore 11, 2) := da9_dX2_valueOf_86.2.2.2.2.2.2.1
theorem dX2_valueOf_100 : decode cX2_valueOf 100 = .ok (.iinc 6 1, 3) := da9_dX2_valueOf_86.2.2.2.2.2.2.2.1
theorem dX2_valueOf_103 : decode cX2_valueOf 103 = .ok (.iload 5, 2) := da9_dX2_valueOf_86.2.2.2.2.2.2.2.2.1
theorem dX2_valueOf_105 : decode cX2_valueOf 105 = .ok (.iload 11, 2) := da9_dX2_valueOf_86.2.2.2.2.2.2.2.2.2.1
theorem dX2_valueOf_107 : decode cX2_valueOf 107 = .ok (.if_icmp .lt 24, 3) := da9_dX2_valueOf_86.2.2.2.2.2.2.2.2.2.2.1
theorem dX2_valueOf_110 : decode cX2_valueOf 110 = .ok (.iload 5, 2) := da9_dX2_valueOf_86.2.2.2.2.2.2.2.2.2.2.2.1
theorem dX2_valueOf_112 : decode cX2_valueOf 112 = .ok (.bipush 64, 2) := da9_dX2_valueOf_86.2.2.2.2.2.2.2.2.2.2.2.2.1
theorem dX2_valueOf_114 : decode cX2_valueOf 114 = .ok (.if_icmp .ge 17, 3) := da9_dX2_valueOf_86.2.2.2.2.2.2.2.2.2.2.2.2.2.1
theorem dX2_valueOf_117 : decode cX2_valueOf 117 = .ok (.iload 9, 2) := da9_dX2_valueOf_86.2.2.2.2.2.2.2.2.2.2.2.2.2.2.1
theorem dX2_valueOf_119 : decode cX2_valueOf 119 = .ok (.iconst 1, 1) := da9_dX2_valueOf_86.2.2.2.2.2.2.2.2.2.2.2.2.2.2.2
theorem da9_dX2_valueOf_120 : (decode cX2_valueOf 120 = .ok (.if_icmp .ne 19, 3)) ∧ (decode cX2_valueOf 123 = .ok (.iload 10, 2)) ∧ (decode cX2_valueOf 125 = .ok (.aload 4, 2)) ∧ (decode cX2_valueOf 127 = .ok (.arraylength, 1)) ∧ (decode cX2_valueOf 128 = .ok (.if_icmp .lt 11, 3)) ∧ (decode cX2_valueOf 131 = .ok (.aload_n 0, 1)) ∧ (decode cX2_valueOf 132 = .ok (.iconst 1, 1)) ∧ (decode cX2_valueOf 133 = .ok (.putfield 13, 3)) ∧ (decode cX2_valueOf 136 = .ok (.goto 186, 3)) ∧ (decode cX2_valueOf 139 = .ok (.iload 9, 2)) ∧ (decode cX2_valueOf 141 = .ok (.ifCond .eq 9, 3)) ∧ (decode cX2_valueOf 144 = .ok (.iload 9, 2)) ∧ (decode cX2_valueOf 146 = .ok (.iconst 1, 1)) ∧ (decode cX2_valueOf 147 = .ok (.if_icmp .ne 31, 3)) ∧ (decode cX2_valueOf 150 = .ok (.aload_n 0, 1)) ∧ (decode cX2_valueOf 151 = .ok (.getfield 9, 3)) := by decide +kernel
theorem dX2_valueOf_120 : decode cX2_valueOf 120 = .ok (.if_icmp .ne 19, 3) := da9_dX2_valueOf_120.1
theorem dX2_valueOf_123 : decode cX2_valueOf 123 = .ok (.iload 10, 2) := da9_dX2_valueOf_120.2.1
theorem dX2_valueOf_125 : decode cX2_valueOf 125 = .ok (.aload 4, 2) := da9_dX2_valueOf_120.2.2.1
theorem dX2_valueOf_127 : decode cX2_valueOf 127 = .ok (.arraylength, 1) := da9_dX2_valueOf_120.2.2.2.1
theorem dX2_valueOf_128 : decode cX2_valueOf 128 = .ok (.if_icmp .lt 11, 3) := da9_dX2_valueOf_120.2.2.2.2.1
theorem dX2_valueOf_131 : decode cX2_valueOf 131 = .ok (.aload_n 0, 1) := da9_dX2_valueOf_120.2.2.2.2.2.1
theorem dX2_valueOf_132 : decode cX2_valueOf 132 = .ok (.iconst 1, 1) := da9_dX2_valueOf_120.2.2.2.2.2.2.1
theorem dX2_valueOf_133 : decode cX2_valueOf 133 = .ok (.putfield 13, 3) := da9_dX2_valueOf_120.2.2.2.2.2.2.2.1
theorem dX2_valueOf_136 : decode cX2_valueOf 136 = .ok (.goto 186, 3) := da9_dX2_valueOf_120.2.2.2.2.2.2.2.2.1
theorem dX2_valueOf_139 : decode cX2_valueOf 139 = .ok (.iload 9, 2) := da9_dX2_valueOf_120.2.2.2.2.2.2.2.2.2.1
theorem dX2_valueOf_141 : decode cX2_valueOf 141 = .ok (.ifCond .eq 9, 3) := da9_dX2_valueOf_120.2.2.2.2.2.2.2.2.2.2.1
theorem dX2_valueOf_144 : decode cX2_valueOf 144 = .ok (.iload 9, 2) := da9_dX2_valueOf_120.2.2.2.2.2.2.2.2.2.2.2.1
theorem dX2_valueOf_146 : decode cX2_valueOf 146 = .ok (.iconst 1, 1) := da9_dX2_valueOf_120.2.2.2.2.2.2.2.2.2.2.2.2.1
theorem dX2_valueOf_147 : decode cX2_valueOf 147 = .ok (.if_icmp .ne 31, 3) := da9_dX2_valueOf_120.2.2.2.2.2.2.2.2.2.2.2.2.2.1
theorem dX2_valueOf_150 : decode cX2_valueOf 150 = .ok (.aload_n 0, 1) := da9_dX2_valueOf_120.2.2.2.2.2.2.2.2.2.2.2.2.2.2.1
theorem dX2_valueOf_151 : decode cX2_valueOf 151 = .ok (.getfield 9, 3) := da9_dX2_valueOf_120.2.2.2.2.2.2.2.2.2.2.2.2.2.2.2
theorem da9_dX2_valueOf_154 : (decode cX2_valueOf 154 = .ok (.iload 5, 2)) ∧ (decode cX2_valueOf 156 = .ok (.iload 9, 2)) ∧ (decode cX2_valueOf 158 = .ok (.ifCond .ne 8, 3)) ∧ (decode cX2_valueOf 161 = .ok (.iload 10, 2)) ∧ (decode cX2_valueOf 163 = .ok (.goto 8, 3)) ∧ (decode cX2_valueOf 166 = .ok (.aload 4, 2)) ∧ (decode cX2_valueOf 168 = .ok (.iload 10, 2)) ∧ (decode cX2_valueOf 170 = .ok (.iaload, 1)) ∧ (decode cX2_valueOf 171 = .ok (.iastore, 1)) ∧ (decode cX2_valueOf 172 = .ok (.iinc 5 1, 3)) ∧ (decode cX2_valueOf 175 = .ok (.goto 147, 3)) ∧ (decode cX2_valueOf 178 = .ok (.iload 9, 2)) ∧ (decode cX2_valueOf 180 = .ok (.bipush 10, 2)) ∧ (decode cX2_valueOf 182 = .ok (.if_icmp .ne 26, 3)) ∧ (decode cX2_valueOf 185 = .ok (.aload_n 0, 1)) ∧ (decode cX2_valueOf 186 = .ok (.getfield 9, 3)) := by decide +kernel
theorem dX2_valueOf_154 : decode cX2_valueOf 154 = .ok (.iload 5, 2) := da9_dX2_valueOf_154.1
theorem dX2_valueOf_156 : decode cX2_valueOf 156 = .ok (.iload 9, 2) := da9_dX2_valueOf_154.2.1
theorem dX2_valueOf_158 : decode cX2_valueOf 158 = .ok (.ifCond .ne 8, 3) := da9_dX2_valueOf_154.2.2.1
theorem dX2_valueOf_161 : decode cX2_valueOf 161 = .ok (.iload 10, 2) := da9_dX2_valueOf_154.2.2.2.1
theorem dX2_valueOf_163 : decode cX2_valueOf 163 = .ok (.goto 8, 3) := da9_dX2_valueOf_154.2.2.2.2.1
theorem dX2_valueOf_166 : decode cX2_valueOf 166 = .ok (.aload 4, 2) := da9_dX2_valueOf_154.2.2.2.2.2.1
theorem dX2_valueOf_168 : decode cX2_valueOf 168 = .ok (.iload 10, 2) := da9_dX2_valueOf_154.2.2.2.2.2.2.1
theorem dX2_valueOf_170 : decode cX2_valueOf 170 = .ok (.iaload, 1) := da9_dX2_valueOf_154.2.2.2.2.2.2.2.1
theorem dX2_valueOf_171 : decode cX2_valueOf 171 = .ok (.iastore, 1) := da9_dX2_valueOf_154.2.2.2.2.2.2.2.2.1
theorem dX2_valueOf_172 : decode cX2_valueOf 172 = .ok (.iinc 5 1, 3) := da9_dX2_valueOf_154.2.2.2.2.2.2.2.2.2.1
theorem dX2_valueOf_175 : decode cX2_valueOf 175 = .ok (.goto 147, 3) := da9_dX2_valueOf_154.2.2.2.2.2.2.2.2.2.2.1
theorem dX2_valueOf_178 : decode cX2_valueOf 178 = .ok (.iload 9, 2) := da9_dX2_valueOf_154.2.2.2.2.2.2.2.2.2.2.2.1
theorem dX2_valueOf_180 : decode cX2_valueOf 180 = .ok (.bipush 10, 2) := da9_dX2_valueOf_154.2.2.2.2.2.2.2.2.2.2.2.2.1
theorem dX2_valueOf_182 : decode cX2_valueOf 182 = .ok (.if_icmp .ne 26, 3) := da9_dX2_valueOf_154.2.2.2.2.2.2.2.2.2.2.2.2.2.1
theorem dX2_valueOf_185 : decode cX2_valueOf 185 = .ok (.aload_n 0, 1) := da9_dX2_valueOf_154.2.2.2.2.2.2.2.2.2.2.2.2.2.2.1
theorem dX2_valueOf_186 : decode cX2_valueOf 186 = .ok (.getfield 9, 3) := da9_dX2_valueOf_154.2.2.2.2.2.2.2.2.2.2.2.2.2.2.2
theorem da9_dX2_valueOf_189 : (decode cX2_valueOf 189 = .ok (.iload 5, 2)) ∧ (decode cX2_valueOf 191 = .ok (.iconst 1, 1)) ∧ (decode cX2_valueOf 192 = .ok (.isub, 1)) ∧ (decode cX2_valueOf 193 = .ok (.iconst 1, 1)) ∧ (decode cX2_valueOf 194 = .ok (.aload_n 0, 1)) ∧ (decode cX2_valueOf 195 = .ok (.getfield 9, 3)) ∧ (decode cX2_valueOf 198 = .ok (.iload 5, 2)) ∧ (decode cX2_valueOf 200 = .ok (.iconst 1, 1)) ∧ (decode cX2_valueOf 201 = .ok (.isub, 1)) ∧ (decode cX2_valueOf 202 = .ok (.iaload, 1)) ∧ (decode cX2_valueOf 203 = .ok (.isub, 1)) ∧ (decode cX2_valueOf 204 = .ok (.iastore, 1)) ∧ (decode cX2_valueOf 205 = .ok (.goto 117, 3)) ∧ (decode cX2_valueOf 208 = .ok (.iload 9, 2)) ∧ (decode cX2_valueOf 210 = .ok (.bipush 11, 2)) ∧ (decode cX2_valueOf 212 = .ok (.if_icmp .eq 10, 3)) := by decide +kernel
theorem dX2_valueOf_189 : decode cX2_valueOf 189 = .ok (.iload 5, 2) := da9_dX2_valueOf_189.1
theorem dX2_valueOf_191 : decode cX2_valueOf 191 = .ok (.iconst 1, 1) := da9_dX2_valueOf_189.2.1
theorem dX2_valueOf_192 : decode cX2_valueOf 192 = .ok (.isub, 1) := da9_dX2_valueOf_189.2.2.1
theorem dX2_valueOf_193 : decode cX2_valueOf 193 = .ok (.iconst 1, 1) := da9_dX2_valueOf_189.2.2.2.1
theorem dX2_valueOf_194 : decode cX2_valueOf 194 = .ok (.aload_n 0, 1) := da9_dX2_valueOf_189.2.2.2.2.1
theorem dX2_valueOf_195 : decode cX2_valueOf 195 = .ok (.getfield 9, 3) := da9_dX2_valueOf_189.2.2.2.2.2.1
theorem dX2_valueOf_198 : decode cX2_valueOf 198 = .ok (.iload 5, 2) := da9_dX2_valueOf_189.2.2.2.2.2.2.1
theorem dX2_valueOf_200 : decode cX2_valueOf 200 = .ok (.iconst 1, 1) := da9_dX2_valueOf_189.2.2.2.2.2.2.2.1
theorem dX2_valueOf_201 : decode cX2_valueOf 201 = .ok (.isub, 1) := da9_dX2_valueOf_189.2.2.2.2.2.2.2.2.1
theorem dX2_valueOf_202 : decode cX2_valueOf 202 = .ok (.iaload, 1) := da9_dX2_valueOf_189.2.2.2.2.2.2.2.2.2.1
theorem dX2_valueOf_203 : decode cX2_valueOf 203 = .ok (.isub, 1) := da9_dX2_valueOf_189.2.2.2.2.2.2.2.2.2.2.1
theorem dX2_valueOf_204 : decode cX2_valueOf 204 = .ok (.iastore, 1) := da9_dX2_valueOf_189.2.2.2.2.2.2.2.2.2.2.2.1
theorem dX2_valueOf_205 : decode cX2_valueOf 205 = .ok (.goto 117, 3) := da9_dX2_valueOf_189.2.2.2.2.2.2.2.2.2.2.2.2.1
theorem dX2_valueOf_208 : decode cX2_valueOf 208 = .ok (.iload 9, 2) := da9_dX2_valueOf_189.2.2.2.2.2.2.2.2.2.2.2.2.2.1
theorem dX2_valueOf_210 : decode cX2_valueOf 210 = .ok (.bipush 11, 2) := da9_dX2_valueOf_189.2.2.2.2.2.2.2.2.2.2.2.2.2.2.1
theorem dX2_valueOf_212 : decode cX2_valueOf 212 = .ok (.if_icmp .eq 10, 3) := da9_dX2_valueOf_189.2.2.2.2.2.2.2.2.2.2.2.2.2.2.2
theorem da9_dX2_valueOf_215 : (decode cX2_valueOf 215 = .ok (.iload 9, 2)) ∧ (decode cX2_valueOf 217 = .ok (.bipush 12, 2)) ∧ (decode cX2_valueOf 219 = .ok (.if_icmp .ne 67, 3)) ∧ (decode cX2_valueOf 222 = .ok (.aload_n 0, 1)) ∧ (decode cX2_valueOf 223 = .ok (.getfield 9, 3)) ∧ (decode cX2_valueOf 226 = .ok (.iload 5, 2)) ∧ (decode cX2_valueOf 228 = .ok (.iconst 1, 1)) ∧ (decode cX2_valueOf 229 = .ok (.isub, 1)) ∧ (decode cX2_valueOf 230 = .ok (.iaload, 1)) ∧ (decode cX2_valueOf 231 = .ok (.iload 9, 2)) ∧ (decode cX2_valueOf 233 = .ok (.bipush 12, 2)) ∧ (decode cX2_valueOf 235 = .ok (.if_icmp .ne 7, 3)) ∧ (decode cX2_valueOf 238 = .ok (.iconst 1, 1)) ∧ (decode cX2_valueOf 239 = .ok (.goto 4, 3)) ∧ (decode cX2_valueOf 242 = .ok (.iconst 0, 1)) ∧ (decode cX2_valueOf 243 = .ok (.if_icmp .ne 7, 3)) := by decide +kernel
theorem dX2_valueOf_215 : decode cX2_valueOf 215 = .ok (.iload 9, 2) := da9_dX2_valueOf_215.1
theorem dX2_valueOf_217 : decode cX2_valueOf 217 = .ok (.bipush 12, 2) := da9_dX2_valueOf_215.2.1
theorem dX2_valueOf_219 : decode cX2_valueOf 219 = .ok (.if_icmp .ne 67, 3) := da9_dX2_valueOf_215.2.2.1
theorem dX2_valueOf_222 : decode cX2_valueOf 222 = .ok (.aload_n 0, 1) := da9_dX2_valueOf_215.2.2.2.1
theorem dX2_valueOf_223 : decode cX2_valueOf 223 = .ok (.getfield 9, 3) := da9_dX2_valueOf_215.2.2.2.2.1
theorem dX2_valueOf_226 : decode cX2_valueOf 226 = .ok (.iload 5, 2) := da9_dX2_valueOf_215.2.2.2.2.2.1
theorem dX2_valueOf_228 : decode cX2_valueOf 228 = .ok (.iconst 1, 1) := da9_dX2_valueOf_215.2.2.2.2.2.2.1
theorem dX2_valueOf_229 : decode cX2_valueOf 229 = .ok (.isub, 1) := da9_dX2_valueOf_215.2.2.2.2.2.2.2.1
theorem dX2_valueOf_230 : decode cX2_valueOf 230 = .ok (.iaload, 1) := da9_dX2_valueOf_215.2.2.2.2.2.2.2.2.1
theorem dX2_valueOf_231 : decode cX2_valueOf 231 = .ok (.iload 9, 2) := da9_dX2_valueOf_215.2.2.2.2.2.2.2.2.2.1
theorem dX2_valueOf_233 : decode cX2_valueOf 233 = .ok (.bipush 12, 2) := da9_dX2_valueOf_215.2.2.2.2.2.2.2.2.2.2.1
theorem dX2_valueOf_235 : decode cX2_valueOf 235 = .ok (.if_icmp .ne 7, 3) := da9_dX2_valueOf_215.2.2.2.2.2.2.2.2.2.2.2.1
theorem dX2_valueOf_238 : decode cX2_valueOf 238 = .ok (.iconst 1, 1) := da9_dX2_valueOf_215.2.2.2.2.2.2.2.2.2.2.2.2.1
theorem dX2_valueOf_239 : decode cX2_valueOf 239 = .ok (.goto 4, 3) := da9_dX2_valueOf_215.2.2.2.2.2.2.2.2.2.2.2.2.2.1
theorem dX2_valueOf_242 : decode cX2_valueOf 242 = .ok (.iconst 0, 1) := da9_dX2_valueOf_215.2.2.2.2.2.2.2.2.2.2.2.2.2.2.1
theorem dX2_valueOf_243 : decode cX2_valueOf 243 = .ok (.if_icmp .ne 7, 3) := da9_dX2_valueOf_215.2.2.2.2.2.2.2.2.2.2.2.2.2.2.2
theorem da9_dX2_valueOf_246 : (decode cX2_valueOf 246 = .ok (.iconst 1, 1)) ∧ (decode cX2_valueOf 247 = .ok (.goto 4, 3)) ∧ (decode cX2_valueOf 250 = .ok (.iconst 0, 1)) ∧ (decode cX2_valueOf 251 = .ok (.istore 12, 2)) ∧ (decode cX2_valueOf 253 = .ok (.iload 12, 2)) ∧ (decode cX2_valueOf 255 = .ok (.ifCond .eq 8, 3)) ∧ (decode cX2_valueOf 258 = .ok (.iload 10, 2)) ∧ (decode cX2_valueOf 260 = .ok (.goto 5, 3)) ∧ (decode cX2_valueOf 263 = .ok (.iload 6, 2)) ∧ (decode cX2_valueOf 265 = .ok (.istore 6, 2)) ∧ (decode cX2_valueOf 267 = .ok (.iload 12, 2)) ∧ (decode cX2_valueOf 269 = .ok (.ifCond .eq 8, 3)) ∧ (decode cX2_valueOf 272 = .ok (.iload 5, 2)) ∧ (decode cX2_valueOf 274 = .ok (.goto 7, 3)) ∧ (decode cX2_valueOf 277 = .ok (.iload 5, 2)) ∧ (decode cX2_valueOf 279 = .ok (.iconst 1, 1)) := by decide +kernel
theorem dX2_valueOf_246 : decode cX2_valueOf 246 = .ok (.iconst 1, 1) := da9_dX2_valueOf_246.1
theorem dX2_valueOf_247 : decode cX2_valueOf 247 = .ok (.goto 4, 3) := da9_dX2_valueOf_246.2.1
theorem dX2_valueOf_250 : decode cX2_valueOf 250 = .ok (.iconst 0, 1) := da9_dX2_valueOf_246.2.2.1
theorem dX2_valueOf_251 : decode cX2_valueOf 251 = .ok (.istore 12, 2) := da9_dX2_valueOf_246.2.2.2.1
theorem dX2_valueOf_253 : decode cX2_valueOf 253 = .ok (.iload 12, 2) := da9_dX2_valueOf_246.2.2.2.2.1
theorem dX2_valueOf_255 : decode cX2_valueOf 255 = .ok (.ifCond .eq 8, 3) := da9_dX2_valueOf_246.2.2.2.2.2.1
theorem dX2_valueOf_258 : decode cX2_valueOf 258 = .ok (.iload 10, 2) := da9_dX2_valueOf_246.2.2.2.2.2.2.1
theorem dX2_valueOf_260 : decode cX2_valueOf 260 = .ok (.goto 5, 3) := da9_dX2_valueOf_246.2.2.2.2.2.2.2.1
theorem dX2_valueOf_263 : decode cX2_valueOf 263 = .ok (.iload 6, 2) := da9_dX2_valueOf_246.2.2.2.2.2.2.2.2.1
theorem dX2_valueOf_265 : decode cX2_valueOf 265 = .ok (.istore 6, 2) := da9_dX2_valueOf_246.2.2.2.2.2.2.2.2.2.1
theorem dX2_valueOf_267 : decode cX2_valueOf 267 = .ok (.iload 12, 2) := da9_dX2_valueOf_246.2.2.2.2.2.2.2.2.2.2.1
theorem dX2_valueOf_269 : decode cX2_valueOf 269 = .ok (.ifCond .eq 8, 3) := da9_dX2_valueOf_246.2.2.2.2.2.2.2.2.2.2.2.1
theorem dX2_valueOf_272 : decode cX2_valueOf 272 = .ok (.iload 5, 2) := da9_dX2_valueOf_246.2.2.2.2.2.2.2.2.2.2.2.2.1
theorem dX2_valueOf_274 : decode cX2_valueOf 274 = .ok (.goto 7, 3) := da9_dX2_valueOf_246.2.2.2.2.2.2.2.2.2.2.2.2.2.1
theorem dX2_valueOf_277 : decode cX2_valueOf 277 = .ok (.iload 5, 2) := da9_dX2_valueOf_246.2.2.2.2.2.2.2.2.2.2.2.2.2.2.1
theorem dX2_valueOf_279 : decode cX2_valueOf 279 = .ok (.iconst 1, 1) := da9_dX2_valueOf_246.2.2.2.2.2.2.2.2.2.2.2.2.2.2.2
theorem da9_dX2_valueOf_280 : (decode cX2_valueOf 280 = .ok (.isub, 1)) ∧ (decode cX2_valueOf 281 = .ok (.istore 5, 2)) ∧ (decode cX2_valueOf 283 = .ok (.goto 39, 3)) ∧ (decode cX2_valueOf 286 = .ok (.iinc 5 (-1), 3)) ∧ (decode cX2_valueOf 289 = .ok (.aload_n 0, 1)) ∧ (decode cX2_valueOf 290 = .ok (.getfield 9, 3)) ∧ (decode cX2_valueOf 293 = .ok (.iload 5, 2)) ∧ (decode cX2_valueOf 295 = .ok (.iconst 1, 1)) ∧ (decode cX2_valueOf 296 = .ok (.isub, 1)) ∧ (decode cX2_valueOf 297 = .ok (.aload_n 0, 1)) ∧ (decode cX2_valueOf 298 = .ok (.iload 9, 2)) ∧ (decode cX2_valueOf 300 = .ok (.aload_n 0, 1)) ∧ (decode cX2_valueOf 301 = .ok (.getfield 9, 3)) ∧ (decode cX2_valueOf 304 = .ok (.iload 5, 2)) ∧ (decode cX2_valueOf 306 = .ok (.iconst 1, 1)) ∧ (decode cX2_valueOf 307 = .ok (.isub, 1)) := by decide +kernel
theorem dX2_valueOf_280 : decode cX2_valueOf 280 = .ok (.isub, 1) := da9_dX2_valueOf_280.1
theorem dX2_valueOf_281 : decode cX2_valueOf 281 = .ok (.istore 5, 2) := da9_dX2_valueOf_280.2.1
theorem dX2_valueOf_283 : decode cX2_valueOf 283 = .ok (.goto 39, 3) := da9_dX2_valueOf_280.2.2.1
theorem dX2_valueOf_286 : decode cX2_valueOf 286 = .ok (.iinc 5 (-1), 3) := da9_dX2_valueOf_280.2.2.2.1
theorem dX2_valueOf_289 : decode cX2_valueOf 289 = .ok (.aload_n 0, 1) := da9_dX2_valueOf_280.2.2.2.2.1
theorem dX2_valueOf_290 : decode cX2_valueOf 290 = .ok (.getfield 9, 3) := da9_dX2_valueOf_280.2.2.2.2.2.1
theorem dX2_valueOf_293 : decode cX2_valueOf 293 = .ok (.iload 5, 2) := da9_dX2_valueOf_280.2.2.2.2.2.2.1
theorem dX2_valueOf_295 : decode cX2_valueOf 295 = .ok (.iconst 1, 1) := da9_dX2_valueOf_280.2.2.2.2.2.2.2.1
theorem dX2_valueOf_296 : decode cX2_valueOf 296 = .ok (.isub, 1) := da9_dX2_valueOf_280.2.2.2.2.2.2.2.2.1
theorem dX2_valueOf_297 : decode cX2_valueOf 297 = .ok (.aload_n 0, 1) := da9_dX2_valueOf_280.2.2.2.2.2.2.2.2.2.1
theorem dX2_valueOf_298 : decode cX2_valueOf 298 = .ok (.iload 9, 2) := da9_dX2_valueOf_280.2.2.2.2.2.2.2.2.2.2.1
theorem dX2_valueOf_300 : decode cX2_valueOf 300 = .ok (.aload_n 0, 1) := da9_dX2_valueOf_280.2.2.2.2.2.2.2.2.2.2.2.1
theorem dX2_valueOf_301 : decode cX2_valueOf 301 = .ok (.getfield 9, 3) := da9_dX2_valueOf_280.2.2.2.2.2.2.2.2.2.2.2.2.1
theorem dX2_valueOf_304 : decode cX2_valueOf 304 = .ok (.iload 5, 2) := da9_dX2_valueOf_280.2.2.2.2.2.2.2.2.2.2.2.2.2.1
theorem dX2_valueOf_306 : decode cX2_valueOf 306 = .ok (.iconst 1, 1) := da9_dX2_valueOf_280.2.2.2.2.2.2.2.2.2.2.2.2.2.2.1
theorem dX2_valueOf_307 : decode cX2_valueOf 307 = .ok (.isub, 1) := da9_dX2_valueOf_280.2.2.2.2.2.2.2.2.2.2.2.2.2.2.2
theorem da9_dX2_valueOf_308 : (decode cX2_valueOf 308 = .ok (.iaload, 1)) ∧ (decode cX2_valueOf 309 = .ok (.i2l, 1)) ∧ (decode cX2_valueOf 310 = .ok (.aload_n 0, 1)) ∧ (decode cX2_valueOf 311 = .ok (.getfield 9, 3)) ∧ (decode cX2_valueOf 314 = .ok (.iload 5, 2)) ∧ (decode cX2_valueOf 316 = .ok (.iaload, 1)) ∧ (decode cX2_valueOf 317 = .ok (.i2l, 1)) ∧ (decode cX2_valueOf 318 = .ok (.invokevirtual 28, 3)) ∧ (decode cX2_valueOf 321 = .ok (.iastore, 1)) ∧ (decode cX2_valueOf 322 = .ok (.iinc 8 1, 3)) ∧ (decode cX2_valueOf 325 = .ok (.goto (-293), 3)) ∧ (decode cX2_valueOf 328 = .ok (.aload_n 0, 1)) ∧ (decode cX2_valueOf 329 = .ok (.getfield 13, 3)) ∧ (decode cX2_valueOf 332 = .ok (.ifCond .eq 7, 3)) ∧ (decode cX2_valueOf 335 = .ok (.iconst 0, 1)) ∧ (decode cX2_valueOf 336 = .ok (.goto 9, 3)) := by decide +kernel
theorem dX2_valueOf_308 : decode cX2_valueOf 308 = .ok (.iaload, 1) := da9_dX2_valueOf_308.1
theorem dX2_valueOf_309 : decode cX2_valueOf 309 = .ok (.i2l, 1) := da9_dX2_valueOf_308.2.1
theorem dX2_valueOf_310 : decode cX2_valueOf 310 = .ok (.aload_n 0, 1) := da9_dX2_valueOf_308.2.2.1
theorem dX2_valueOf_311 : decode cX2_valueOf 311 = .ok (.getfield 9, 3) := da9_dX2_valueOf_308.2.2.2.1
theorem dX2_valueOf_314 : decode cX2_valueOf 314 = .ok (.iload 5, 2) := da9_dX2_valueOf_308.2.2.2.2.1
theorem dX2_valueOf_316 : decode cX2_valueOf 316 = .ok (.iaload, 1) := da9_dX2_valueOf_308.2.2.2.2.2.1
theorem dX2_valueOf_317 : decode cX2_valueOf 317 = .ok (.i2l, 1) := da9_dX2_valueOf_308.2.2.2.2.2.2.1
theorem dX2_valueOf_318 : decode cX2_valueOf 318 = .ok (.invokevirtual 28, 3) := da9_dX2_valueOf_308.2.2.2.2.2.2.2.1
theorem dX2_valueOf_321 : decode cX2_valueOf 321 = .ok (.iastore, 1) := da9_dX2_valueOf_308.2.2.2.2.2.2.2.2.1
theorem dX2_valueOf_322 : decode cX2_valueOf 322 = .ok (.iinc 8 1, 3) := da9_dX2_valueOf_308.2.2.2.2.2.2.2.2.2.1
theorem dX2_valueOf_325 : decode cX2_valueOf 325 = .ok (.goto (-293), 3) := da9_dX2_valueOf_308.2.2.2.2.2.2.2.2.2.2.1
theorem dX2_valueOf_328 : decode cX2_valueOf 328 = .ok (.aload_n 0, 1) := da9_dX2_valueOf_308.2.2.2.2.2.2.2.2.2.2.2.1
theorem dX2_valueOf_329 : decode cX2_valueOf 329 = .ok (.getfield 13, 3) := da9_dX2_valueOf_308.2.2.2.2.2.2.2.2.2.2.2.2.1
theorem dX2_valueOf_332 : decode cX2_valueOf 332 = .ok (.ifCond .eq 7, 3) := da9_dX2_valueOf_308.2.2.2.2.2.2.2.2.2.2.2.2.2.1
theorem dX2_valueOf_335 : decode cX2_valueOf 335 = .ok (.iconst 0, 1) := da9_dX2_valueOf_308.2.2.2.2.2.2.2.2.2.2.2.2.2.2.1
theorem dX2_valueOf_336 : decode cX2_valueOf 336 = .ok (.goto 9, 3) := da9_dX2_valueOf_308.2.2.2.2.2.2.2.2.2.2.2.2.2.2.2
theorem da9_dX2_valueOf_339 : (decode cX2_valueOf 339 = .ok (.aload_n 0, 1)) ∧ (decode cX2_valueOf 340 = .ok (.getfield 9, 3)) ∧ (decode cX2_valueOf 343 = .ok (.iconst 0, 1)) ∧ (decode cX2_valueOf 344 = .ok (.iaload, 1)) ∧ (decode cX2_valueOf 345 = .ok (.ireturn, 1)) := by decide +kernel
theorem dX2_valueOf_339 : decode cX2_valueOf 339 = .ok (.aload_n 0, 1) := da9_dX2_valueOf_339.1
theorem dX2_valueOf_340 : decode cX2_valueOf 340 = .ok (.getfield 9, 3) := da9_dX2_valueOf_339.2.1
theorem dX2_valueOf_343 : decode cX2_valueOf 343 = .ok (.iconst 0, 1) := da9_dX2_valueOf_339.2.2.1
theorem dX2_valueOf_344 : decode cX2_valueOf 344 = .ok (.iaload, 1) := da9_dX2_valueOf_339.2.2.2.1
theorem dX2_valueOf_345 : decode cX2_valueOf 345 = .ok (.ireturn, 1) := da9_dX2_valueOf_339.2.2.2.2
theorem da9_dX2_join_0 : (decode cX2_join 0 = .ok (.lconst 0, 1)) ∧ (decode cX2_join 1 = .ok (.lstore 6, 2)) ∧ (decode cX2_join 3 = .ok (.iload_n 1, 1)) ∧ (decode cX2_join 4 = .ok (.tableswitch 126 2 9 #[48, 57, 66, 126, 126, 75, 92, 109], 48)) ∧ (decode cX2_join 52 = .ok (.lload_n 2, 1)) ∧ (decode cX2_join 53 = .ok (.lload 4, 2)) ∧ (decode cX2_join 55 = .ok (.ladd, 1)) ∧ (decode cX2_join 56 = .ok (.lstore 6, 2)) ∧ (decode cX2_join 58 = .ok (.goto 105, 3)) ∧ (decode cX2_join 61 = .ok (.lload_n 2, 1)) ∧ (decode cX2_join 62 = .ok (.lload 4, 2)) ∧ (decode cX2_join 64 = .ok (.lsub, 1)) ∧ (decode cX2_join 65 = .ok (.lstore 6, 2)) ∧ (decode cX2_join 67 = .ok (.goto 96, 3)) ∧ (decode cX2_join 70 = .ok (.lload_n 2, 1)) ∧ (decode cX2_join 71 = .ok (.lload 4, 2)) := by decide +kernel
theorem dX2_join_0 : decode cX2_join 0 = .ok (.lconst 0, 1) := da9_dX2_join_0.1
theorem dX2_join_1 : decode cX2_join 1 = .ok (.lstore 6, 2) := da9_dX2_join_0.2.1
theorem dX2_join_3 : decode cX2_join 3 = .ok (.iload_n 1, 1) := da9_dX2_join_0.2.2.1
theorem dX2_join_4 : decode cX2_join 4 = .ok (.tableswitch 126 2 9 #[48, 57, 66, 126, 126, 75, 92, 109], 48) := da9_dX2_join_0.2.2.2.1
theorem dX2_join_52 : decode cX2_join 52 = .ok (.lload_n 2, 1) := da9_dX2_join_0.2.2.2.2.1
theorem dX2_join_53 : decode cX2_join 53 = .ok (.lload 4, 2) := da9_dX2_join_0.2.2.2.2.2.1
theorem dX2_join_55 : decode cX2_join 55 = .ok (.ladd, 1) := da9_dX2_join_0.2.2.2.2.2.2.1
theorem dX2_join_56 : decode cX2_join 56 = .ok (.lstore 6, 2) := da9_dX2_join_0.2.2.2.2.2.2.2.1
theorem dX2_join_58 : decode cX2_join 58 = .ok (.goto 105, 3) := da9_dX2_join_0.2.2.2.2.2.2.2.2.1
theorem dX2_join_61 : decode cX2_join 61 = .ok (.lload_n 2, 1) := da9_dX2_join_0.2.2.2.2.2.2.2.2.2.1
theorem dX2_join_62 : decode cX2_join 62 = .ok (.lload 4, 2) := da9_dX2_join_0.2.2.2.2.2.2.2.2.2.2.1
theorem dX2_join_64 : decode cX2_join 64 = .ok (.lsub, 1) := da9_dX2_join_0.2.2.2.2.2.2.2.2.2.2.2.1
theorem dX2_join_65 : decode cX2_join 65 = .ok (.lstore 6, 2) := da9_dX2_join_0.2.2.2.2.2.2.2.2.2.2.2.2.1
theorem dX2_join_67 : decode cX2_join 67 = .ok (.goto 96, 3) := da9_dX2_join_0.2.2.2.2.2.2.2.2.2.2.2.2.2.1
theorem dX2_join_70 : decode cX2_join 70 = .ok (.lload_n 2, 1) := da9_dX2_join_0.2.2.2.2.2.2.2.2.2.2.2.2.2.2.1
theorem dX2_join_71 : decode cX2_join 71 = .ok (.lload 4, 2) := da9_dX2_join_0.2.2.2.2.2.2.2.2.2.2.2.2.2.2.2
theorem da9_dX2_join_73 : (decode cX2_join 73 = .ok (.lmul, 1)) ∧ (decode cX2_join 74 = .ok (.lstore 6, 2)) ∧ (decode cX2_join 76 = .ok (.goto 87, 3)) ∧ (decode cX2_join 79 = .ok (.lload_n 2, 1)) ∧ (decode cX2_join 80 = .ok (.lload 4, 2)) ∧ (decode cX2_join 82 = .ok (.lcmp, 1)) ∧ (decode cX2_join 83 = .ok (.ifCond .ge 7, 3)) ∧ (decode cX2_join 86 = .ok (.lconst 1, 1)) ∧ (decode cX2_join 87 = .ok (.goto 4, 3)) ∧ (decode cX2_join 90 = .ok (.lconst 0, 1)) ∧ (decode cX2_join 91 = .ok (.lstore 6, 2)) ∧ (decode cX2_join 93 = .ok (.goto 70, 3)) ∧ (decode cX2_join 96 = .ok (.lload_n 2, 1)) ∧ (decode cX2_join 97 = .ok (.lload 4, 2)) ∧ (decode cX2_join 99 = .ok (.lcmp, 1)) ∧ (decode cX2_join 100 = .ok (.ifCond .le 7, 3)) := by decide +kernel
theorem dX2_join_73 : decode cX2_join 73 = .ok (.lmul, 1) := da9_dX2_join_73.1
theorem dX2_join_74 : decode cX2_join 74 = .ok (.lstore 6, 2) := da9_dX2_join_73.2.1
theorem dX2_join_76 : decode cX2_join 76 = .ok (.goto 87, 3) := da9_dX2_join_73.2.2.1
theorem dX2_join_79 : decode cX2_join 79 = .ok (.lload_n 2, 1) := da9_dX2_join_73.2.2.2.1
theorem dX2_join_80 : decode cX2_join 80 = .ok (.lload 4, 2) := da9_dX2_join_73.2.2.2.2.1
theorem dX2_join_82 : decode cX2_join 82 = .ok (.lcmp, 1) := da9_dX2_join_73.2.2.2.2.2.1
theorem dX2_join_83 : decode cX2_join 83 = .ok (.ifCond .ge 7, 3) := da9_dX2_join_73.2.2.2.2.2.2.1
theorem dX2_join_86 : decode cX2_join 86 = .ok (.lconst 1, 1) := da9_dX2_join_73.2.2.2.2.2.2.2.1
theorem dX2_join_87 : decode cX2_join 87 = .ok (.goto 4, 3) := da9_dX2_join_73.2.2.2.2.2.2.2.2.1
theorem dX2_join_90 : decode cX2_join 90 = .ok (.lconst 0, 1) := da9_dX2_join_73.2.2.2.2.2.2.2.2.2.1
theorem dX2_join_91 : decode cX2_join 91 = .ok (.lstore 6, 2) := da9_dX2_join_73.2.2.2.2.2.2.2.2.2.2.1
theorem dX2_join_93 : decode cX2_join 93 = .ok (.goto 70, 3) := da9_dX2_join_73.2.2.2.2.2.2.2.2.2.2.2.1
theorem dX2_join_96 : decode cX2_join 96 = .ok (.lload_n 2, 1) := da9_dX2_join_73.2.2.2.2.2.2.2.2.2.2.2.2.1
theorem dX2_join_97 : decode cX2_join 97 = .ok (.lload 4, 2) := da9_dX2_join_73.2.2.2.2.2.2.2.2.2.2.2.2.2.1
theorem dX2_join_99 : decode cX2_join 99 = .ok (.lcmp, 1) := da9_dX2_join_73.2.2.2.2.2.2.2.2.2.2.2.2.2.2.1
theorem dX2_join_100 : decode cX2_join 100 = .ok (.ifCond .le 7, 3) := da9_dX2_join_73.2.2.2.2.2.2.2.2.2.2.2.2.2.2.2
theorem da9_dX2_join_103 : (decode cX2_join 103 = .ok (.lconst 1, 1)) ∧ (decode cX2_join 104 = .ok (.goto 4, 3)) ∧ (decode cX2_join 107 = .ok (.lconst 0, 1)) ∧ (decode cX2_join 108 = .ok (.lstore 6, 2)) ∧ (decode cX2_join 110 = .ok (.goto 53, 3)) ∧ (decode cX2_join 113 = .ok (.lload_n 2, 1)) ∧ (decode cX2_join 114 = .ok (.lload 4, 2)) ∧ (decode cX2_join 116 = .ok (.lcmp, 1)) ∧ (decode cX2_join 117 = .ok (.ifCond .ne 7, 3)) ∧ (decode cX2_join 120 = .ok (.lconst 1, 1)) ∧ (decode cX2_join 121 = .ok (.goto 4, 3)) ∧ (decode cX2_join 124 = .ok (.lconst 0, 1)) ∧ (decode cX2_join 125 = .ok (.lstore 6, 2)) ∧ (decode cX2_join 127 = .ok (.goto 36, 3)) ∧ (decode cX2_join 130 = .ok (.lload 4, 2)) ∧ (decode cX2_join 132 = .ok (.lconst 0, 1)) := by decide +kernel
theorem dX2_join_103 : decode cX2_join 103 = .ok (.lconst 1, 1) := da9_dX2_join_103.1
theorem dX2_join_104 : decode cX2_join 104 = .ok (.goto 4, 3) := da9_dX2_join_103.2.1
theorem dX2_join_107 : decode cX2_join 107 = .ok (.lconst 0, 1) := da9_dX2_join_103.2.2.1
theorem dX2_join_108 : decode cX2_join 108 = .ok (.lstore 6, 2) := da9_dX2_join_103.2.2.2.1
theorem dX2_join_110 : decode cX2_join 110 = .ok (.goto 53, 3) := da9_dX2_join_103.2.2.2.2.1
theorem dX2_join_113 : decode cX2_join 113 = .ok (.lload_n 2, 1) := da9_dX2_join_103.2.2.2.2.2.1
theorem dX2_join_114 : decode cX2_join 114 = .ok (.lload 4, 2) := da9_dX2_join_103.2.2.2.2.2.2.1
theorem dX2_join_116 : decode cX2_join 116 = .ok (.lcmp, 1) := da9_dX2_join_103.2.2.2.2.2.2.2.1
theorem dX2_join_117 : decode cX2_join 117 = .ok (.ifCond .ne 7, 3) := da9_dX2_join_103.2.2.2.2.2.2.2.2.1
theorem dX2_join_120 : decode cX2_join 120 = .ok (.lconst 1, 1) := da9_dX2_join_103.2.2.2.2.2.2.2.2.2.1
theorem dX2_join_121 : decode cX2_join 121 = .ok (.goto 4, 3) := da9_dX2_join_103.2.2.2.2.2.2.2.2.2.2.1
theorem dX2_join_124 : decode cX2_join 124 = .ok (.lconst 0, 1) := da9_dX2_join_103.2.2.2.2.2.2.2.2.2.2.2.1
theorem dX2_join_125 : decode cX2_join 125 = .ok (.lstore 6, 2) := da9_dX2_join_103.2.2.2.2.2.2.2.2.2.2.2.2.1
theorem dX2_join_127 : decode cX2_join 127 = .ok (.goto 36, 3) := da9_dX2_join_103.2.2.2.2.2.2.2.2.2.2.2.2.2.1
theorem dX2_join_130 : decode cX2_join 130 = .ok (.lload 4, 2) := da9_dX2_join_103.2.2.2.2.2.2.2.2.2.2.2.2.2.2.1
theorem dX2_join_132 : decode cX2_join 132 = .ok (.lconst 0, 1) := da9_dX2_join_103.2.2.2.2.2.2.2.2.2.2.2.2.2.2.2
theorem da9_dX2_join_133 : (decode cX2_join 133 = .ok (.lcmp, 1)) ∧ (decode cX2_join 134 = .ok (.ifCond .ne 11, 3)) ∧ (decode cX2_join 137 = .ok (.aload_n 0, 1)) ∧ (decode cX2_join 138 = .ok (.iconst 1, 1)) ∧ (decode cX2_join 139 = .ok (.putfield 13, 3)) ∧ (decode cX2_join 142 = .ok (.goto 21, 3)) ∧ (decode cX2_join 145 = .ok (.iload_n 1, 1)) ∧ (decode cX2_join 146 = .ok (.iconst 5, 1)) ∧ (decode cX2_join 147 = .ok (.if_icmp .ne 10, 3)) ∧ (decode cX2_join 150 = .ok (.lload_n 2, 1)) ∧ (decode cX2_join 151 = .ok (.lload 4, 2)) ∧ (decode cX2_join 153 = .ok (.ldiv, 1)) ∧ (decode cX2_join 154 = .ok (.goto 7, 3)) ∧ (decode cX2_join 157 = .ok (.lload_n 2, 1)) ∧ (decode cX2_join 158 = .ok (.lload 4, 2)) ∧ (decode cX2_join 160 = .ok (.lrem, 1)) := by decide +kernel
theorem dX2_join_133 : decode cX2_join 133 = .ok (.lcmp, 1) := da9_dX2_join_133.1
theorem dX2_join_134 : decode cX2_join 134 = .ok (.ifCond .ne 11, 3) := da9_dX2_join_133.2.1
theorem dX2_join_137 : decode cX2_join 137 = .ok (.aload_n 0, 1) := da9_dX2_join_133.2.2.1
theorem dX2_join_138 : decode cX2_join 138 = .ok (.iconst 1, 1) := da9_dX2_join_133.2.2.2.1
theorem dX2_join_139 : decode cX2_join 139 = .ok (.putfield 13, 3) := da9_dX2_join_133.2.2.2.2.1
theorem dX2_join_142 : decode cX2_join 142 = .ok (.goto 21, 3) := da9_dX2_join_133.2.2.2.2.2.1
theorem dX2_join_145 : decode cX2_join 145 = .ok (.iload_n 1, 1) := da9_dX2_join_133.2.2.2.2.2.2.1
theorem dX2_join_146 : decode cX2_join 146 = .ok (.iconst 5, 1) := da9_dX2_join_133.2.2.2.2.2.2.2.1
theorem dX2_join_147 : decode cX2_join 147 = .ok (.if_icmp .ne 10, 3) := da9_dX2_join_133.2.2.2.2.2.2.2.2.1
theorem dX2_join_150 : decode cX2_join 150 = .ok (.lload_n 2, 1) := da9_dX2_join_133.2.2.2.2.2.2.2.2.2.1
theorem dX2_join_151 : decode cX2_join 151 = .ok (.lload 4, 2) := da9_dX2_join_133.2.2.2.2.2.2.2.2.2.2.1
theorem dX2_join_153 : decode cX2_join 153 = .ok (.ldiv, 1) := da9_dX2_join_133.2.2.2.2.2.2.2.2.2.2.2.1
theorem dX2_join_154 : decode cX2_join 154 = .ok (.goto 7, 3) := da9_dX2_join_133.2.2.2.2.2.2.2.2.2.2.2.2.1
theorem dX2_join_157 : decode cX2_join 157 = .ok (.lload_n 2, 1) := da9_dX2_join_133.2.2.2.2.2.2.2.2.2.2.2.2.2.1
theorem dX2_join_158 : decode cX2_join 158 = .ok (.lload 4, 2) := da9_dX2_join_133.2.2.2.2.2.2.2.2.2.2.2.2.2.2.1
theorem dX2_join_160 : decode cX2_join 160 = .ok (.lrem, 1) := da9_dX2_join_133.2.2.2.2.2.2.2.2.2.2.2.2.2.2.2
theorem da9_dX2_join_161 : (decode cX2_join 161 = .ok (.lstore 6, 2)) ∧ (decode cX2_join 163 = .ok (.lload 6, 2)) ∧ (decode cX2_join 165 = .ok (.ldc2_w 32, 3)) ∧ (decode cX2_join 168 = .ok (.lcmp, 1)) ∧ (decode cX2_join 169 = .ok (.ifCond .gt 12, 3)) ∧ (decode cX2_join 172 = .ok (.lload 6, 2)) ∧ (decode cX2_join 174 = .ok (.ldc2_w 34, 3)) ∧ (decode cX2_join 177 = .ok (.lcmp, 1)) ∧ (decode cX2_join 178 = .ok (.ifCond .ge 10, 3)) ∧ (decode cX2_join 181 = .ok (.aload_n 0, 1)) ∧ (decode cX2_join 182 = .ok (.iconst 1, 1)) ∧ (decode cX2_join 183 = .ok (.putfield 13, 3)) ∧ (decode cX2_join 186 = .ok (.iconst 0, 1)) ∧ (decode cX2_join 187 = .ok (.ireturn, 1)) ∧ (decode cX2_join 188 = .ok (.lload 6, 2)) ∧ (decode cX2_join 190 = .ok (.l2i, 1)) := by decide +kernel
theorem dX2_join_161 : decode cX2_join 161 = .ok (.lstore 6, 2) := da9_dX2_join_161.1
theorem dX2_join_163 : decode cX2_join 163 = .ok (.lload 6, 2) := da9_dX2_join_161.2.1
theorem dX2_join_165 : decode cX2_join 165 = .ok (.ldc2_w 32, 3) := da9_dX2_join_161.2.2.1
theorem dX2_join_168 : decode cX2_join 168 = .ok (.lcmp, 1) := da9_dX2_join_161.2.2.2.1
theorem dX2_join_169 : decode cX2_join 169 = .ok (.ifCond .gt 12, 3) := da9_dX2_join_161.2.2.2.2.1
theorem dX2_join_172 : decode cX2_join 172 = .ok (.lload 6, 2) := da9_dX2_join_161.2.2.2.2.2.1
theorem dX2_join_174 : decode cX2_join 174 = .ok (.ldc2_w 34, 3) := da9_dX2_join_161.2.2.2.2.2.2.1
theorem dX2_join_177 : decode cX2_join 177 = .ok (.lcmp, 1) := da9_dX2_join_161.2.2.2.2.2.2.2.1
theorem dX2_join_178 : decode cX2_join 178 = .ok (.ifCond .ge 10, 3) := da9_dX2_join_161.2.2.2.2.2.2.2.2.1
theorem dX2_join_181 : decode cX2_join 181 = .ok (.aload_n 0, 1) := da9_dX2_join_161.2.2.2.2.2.2.2.2.2.1
theorem dX2_join_182 : decode cX2_join 182 = .ok (.iconst 1, 1) := da9_dX2_join_161.2.2.2.2.2.2.2.2.2.2.1
theorem dX2_join_183 : decode cX2_join 183 = .ok (.putfield 13, 3) := da9_dX2_join_161.2.2.2.2.2.2.2.2.2.2.2.1
theorem dX2_join_186 : decode cX2_join 186 = .ok (.iconst 0, 1) := da9_dX2_join_161.2.2.2.2.2.2.2.2.2.2.2.2.1
theorem dX2_join_187 : decode cX2_join 187 = .ok (.ireturn, 1) := da9_dX2_join_161.2.2.2.2.2.2.2.2.2.2.2.2.2.1
theorem dX2_join_188 : decode cX2_join 188 = .ok (.lload 6, 2) := da9_dX2_join_161.2.2.2.2.2.2.2.2.2.2.2.2.2.2.1
theorem dX2_join_190 : decode cX2_join 190 = .ok (.l2i, 1) := da9_dX2_join_161.2.2.2.2.2.2.2.2.2.2.2.2.2.2.2
theorem dX2_join_191 : decode cX2_join 191 = .ok (.ireturn, 1) := by decide +kernel
end
section
theorem u9_wsX2_join_X2 : ∀ w ∈ u_ws RX2 TX2 2, w ∈ wsX2_join := fun w h => List.mem_cons_of_mem _ (vW9_wsX20 w h)
theorem f9_wsX2_join_382 : (Cond.fieldLink RX2 13 "TurnedFloors$Machine" "broken" "Z") ∈ wsX2_join := List.mem_cons_of_mem _ mvW9_83
theorem f9_wsX2_join_383 : (Cond.constantLong RX2 32 1000000000) ∈ wsX2_join := List.mem_cons_of_mem _ mvW9_93
theorem f9_wsX2_join_384 : (Cond.constantLong RX2 34 (-1000000000)) ∈ wsX2_join := List.mem_cons_of_mem _ mvW9_94
theorem u9_wsX2_valueOf_X2 : ∀ w ∈ u_ws RX2 TX2 2, w ∈ wsX2_valueOf := fun w h => List.mem_cons_of_mem _ (vW9_wsX20 w h)
theorem f9_wsX2_valueOf_386 : (Cond.fieldLink RX2 13 "TurnedFloors$Machine" "broken" "Z") ∈ wsX2_valueOf := List.mem_cons_of_mem _ mvW9_83
theorem f9_wsX2_valueOf_387 : (Cond.fieldLink RX2 9 "TurnedFloors$Machine" "stack" "[I") ∈ wsX2_valueOf := List.mem_cons_of_mem _ mvW9_84
theorem u9_wsX2_valueOf_X7 : ∀ w ∈ u_ws RX7 TX7 8, w ∈ wsX2_valueOf := fun w h => List.mem_cons_of_mem _ (vW9_wsX70 w h)
theorem f9_wsX2_valueOf_389 : (Cond.methodLink RX2 22 Lib.Math.min.name) ∈ wsX2_valueOf := List.mem_cons_of_mem _ mvW9_85
theorem f9_wsX2_valueOf_390 : (Cond.static Lib.Math.min.name) ∈ wsX2_valueOf := List.mem_cons_of_mem _ mvW9_86
theorem f9_wsX2_valueOf_391 : (Cond.initialized "java/lang/Math") ∈ wsX2_valueOf := List.mem_cons_of_mem _ mvW9_87
theorem f9_wsX2_valueOf_392 : (Cond.code Lib.Math.min.name Lib.Math.min.code 2 (some .int)) ∈ wsX2_valueOf := List.mem_cons_of_mem _ mvW9_88
set_option maxHeartbeats 4000000 in
set_option maxRecDepth 100000 in
theorem WX2_join_s18_181 {p : Program} {l : Launch} {e : Env} {s : State} {m : MethodId} {args : Array Value} {below : List Frame} {meth : Method} {c : Code} {D : va_G} {ty : Nat → ClassId} {eo : Nat → Nat} {A : Nat → Prop} {ad : Nat → Nat} {o1 : Int32} {o2 : dK} (C : dc_C p s m args meth c cX2_join (some .int) 8 RX2 wsX2_join D ty eo A)   (q : dK)  (H : Heap) (locs : List Loc) (ls : Array Slot) (h : zX2_join_s18_181  q = some (o1, o2)) (hP : va_P D vwCl (wF ty ad q) H) (hD : va_D A (wF ty ad q)) (hS : va_S A s.heap H locs) (hl : lv_has ls 8 [(0, .ref (ad 18))]) : W p l e ({ frames := 0, cells := 0, slots := 0, locals := 0 } : Room) s m args below meth c H locs 0 0 (MQ below (va_Qi (fun (r : Int32) (u : va_W) => o1 = r ∧ wF ty ad o2 = u) (kz_B D ty A) A) args s 0 0 A) (F0 m 181 ls []) := by
  have C0 := C
  obtain ⟨hx, hb, hr, hts, hown, hlocks, hml, hK, hN, hE, hA⟩ := C
  unfold zX2_join_s18_181 at h
  refine lv_aload_n hx hb dX2_join_181 rfl (lv_at hl 0 rfl) ?_
  refine lv_iconst (v := 1) hx hb dX2_join_182 (by decide) ?_
  refine va_put (D := D) (ci := 2) (v := .int 1) (ty := .boolean) (C := RX2) (T := TX2) (N := 2) hx hb hts u9_wsX2_join_X2 tyX2 tyX2_ok nmX2 hown hK hP hD hS 18 rfl rfl 1 (by decide) (hts (.fieldLink RX2 13 "TurnedFloors$Machine" "broken" "Z") f9_wsX2_join_382) (fun _ h9 => h9) rfl (by decide +kernel) rfl rfl (Nat.le_of_ble_eq_true rfl) dX2_join_183 (fun H locs hp hd hs => ?_)
  obtain ⟨q1, eq1, h⟩ := dL_some h
  refine kz_re (w2 := wF ty ad q1) hp hd hs (by rw [← eq1]; exact wF_f18_1 ty ad q 1) ?_
  clear hp hd hs hP hD hS
  intro hP hD hS
  refine lv_iconst (v := 0) hx hb dX2_join_186 (by decide) ?_
  cases h
  exact kz_iret hx hb hr hlocks hP hK hD hS dX2_join_187 ⟨rfl, rfl⟩
set_option maxHeartbeats 4000000 in
set_option maxRecDepth 100000 in
theorem WX2_join_s18_163 {p : Program} {l : Launch} {e : Env} {s : State} {m : MethodId} {args : Array Value} {below : List Frame} {meth : Method} {c : Code} {D : va_G} {ty : Nat → ClassId} {eo : Nat → Nat} {A : Nat → Prop} {ad : Nat → Nat} {o1 : Int32} {o2 : dK} (C : dc_C p s m args meth c cX2_join (some .int) 8 RX2 wsX2_join D ty eo A)   (q : dK) (x6 : Int64) (H : Heap) (locs : List Loc) (ls : Array Slot) (h : zX2_join_s18_163  q x6 = some (o1, o2)) (hP : va_P D vwCl (wF ty ad q) H) (hD : va_D A (wF ty ad q)) (hS : va_S A s.heap H locs) (hl : lv_has ls 8 [(0, .ref (ad 18)), (6, .long x6)]) : W p l e ({ frames := 0, cells := 0, slots := 0, locals := 0 } : Room) s m args below meth c H locs 0 0 (MQ below (va_Qi (fun (r : Int32) (u : va_W) => o1 = r ∧ wF ty ad o2 = u) (kz_B D ty A) A) args s 0 0 A) (F0 m 163 ls []) := by
  have C0 := C
  obtain ⟨hx, hb, hr, hts, hown, hlocks, hml, hK, hN, hE, hA⟩ := C
  unfold zX2_join_s18_163 at h
  refine lv_lload hx hb dX2_join_163 (lv_at hl 1 rfl) ?_
  refine lv_ldc2 (v := 1000000000) hx hb hown (hts (.constantLong RX2 32 1000000000) f9_wsX2_join_383) dX2_join_165 ?_
  refine W.lcmp hx hb dX2_join_168 ?_
  refine lv_if_gt (tgt := 181) hx hb dX2_join_169 (by decide) (fun c9 => ?_) (fun c9 => ?_)
  · rw [if_pos c9] at h
    exact WX2_join_s18_181 C0  _ _ _ _ h hP hD hS (lv_sub hl [0] rfl)
  · rw [if_neg c9] at h
    refine lv_lload hx hb dX2_join_172 (lv_at hl 1 rfl) ?_
    refine lv_ldc2 (v := (-1000000000)) hx hb hown (hts (.constantLong RX2 34 (-1000000000)) f9_wsX2_join_384) dX2_join_174 ?_
    refine W.lcmp hx hb dX2_join_177 ?_
    refine lv_if_ge (tgt := 188) hx hb dX2_join_178 (by decide) (fun c9 => ?_) (fun c9 => ?_)
    · rw [if_pos c9] at h
      refine lv_lload hx hb dX2_join_188 (lv_at hl 1 rfl) ?_
      refine lv_l2i (v := Int64.toInt32 x6) hx hb dX2_join_190 rfl ?_
      cases h
      exact kz_iret hx hb hr hlocks hP hK hD hS dX2_join_191 ⟨rfl, rfl⟩
    · rw [if_neg c9] at h
      exact WX2_join_s18_181 C0  _ _ _ _ h hP hD hS (lv_sub hl [0] rfl)
set_option maxHeartbeats 4000000 in
set_option maxRecDepth 100000 in
theorem WX2_join_s18_161 {p : Program} {l : Launch} {e : Env} {s : State} {m : MethodId} {args : Array Value} {below : List Frame} {meth : Method} {c : Code} {D : va_G} {ty : Nat → ClassId} {eo : Nat → Nat} {A : Nat → Prop} {ad : Nat → Nat} {o1 : Int32} {o2 : dK} (C : dc_C p s m args meth c cX2_join (some .int) 8 RX2 wsX2_join D ty eo A)   (q : dK) (y0 : Int64) (H : Heap) (locs : List Loc) (ls : Array Slot) (h : zX2_join_s18_161  q y0 = some (o1, o2)) (hP : va_P D vwCl (wF ty ad q) H) (hD : va_D A (wF ty ad q)) (hS : va_S A s.heap H locs) (hl : lv_has ls 8 [(0, .ref (ad 18))]) : W p l e ({ frames := 0, cells := 0, slots := 0, locals := 0 } : Room) s m args below meth c H locs 0 0 (MQ below (va_Qi (fun (r : Int32) (u : va_W) => o1 = r ∧ wF ty ad o2 = u) (kz_B D ty A) A) args s 0 0 A) (F0 m 161 ls [.long y0]) := by
  have C0 := C
  obtain ⟨hx, hb, hr, hts, hown, hlocks, hml, hK, hN, hE, hA⟩ := C
  unfold zX2_join_s18_161 at h
  refine lv_lstore (lv' := [(6, .long y0), (0, .ref (ad 18))]) hx hb dX2_join_161 hl (by decide) rfl (fun ls hl => ?_)
  exact WX2_join_s18_163 C0  _ _ _ _ _ h hP hD hS (lv_sub hl [1, 0] rfl)
set_option maxHeartbeats 4000000 in
set_option maxRecDepth 100000 in
theorem WX2_join_s18_125 {p : Program} {l : Launch} {e : Env} {s : State} {m : MethodId} {args : Array Value} {below : List Frame} {meth : Method} {c : Code} {D : va_G} {ty : Nat → ClassId} {eo : Nat → Nat} {A : Nat → Prop} {ad : Nat → Nat} {o1 : Int32} {o2 : dK} (C : dc_C p s m args meth c cX2_join (some .int) 8 RX2 wsX2_join D ty eo A)   (q : dK) (y0 : Int64) (H : Heap) (locs : List Loc) (ls : Array Slot) (h : zX2_join_s18_125  q y0 = some (o1, o2)) (hP : va_P D vwCl (wF ty ad q) H) (hD : va_D A (wF ty ad q)) (hS : va_S A s.heap H locs) (hl : lv_has ls 8 [(0, .ref (ad 18))]) : W p l e ({ frames := 0, cells := 0, slots := 0, locals := 0 } : Room) s m args below meth c H locs 0 0 (MQ below (va_Qi (fun (r : Int32) (u : va_W) => o1 = r ∧ wF ty ad o2 = u) (kz_B D ty A) A) args s 0 0 A) (F0 m 125 ls [.long y0]) := by
  have C0 := C
  obtain ⟨hx, hb, hr, hts, hown, hlocks, hml, hK, hN, hE, hA⟩ := C
  unfold zX2_join_s18_125 at h
  refine lv_lstore (lv' := [(6, .long y0), (0, .ref (ad 18))]) hx hb dX2_join_125 hl (by decide) rfl (fun ls hl => ?_)
  refine lv_goto (tgt := 163) hx hb dX2_join_127 (by decide) ?_
  exact WX2_join_s18_163 C0  _ _ _ _ _ h hP hD hS (lv_sub hl [1, 0] rfl)
set_option maxHeartbeats 4000000 in
set_option maxRecDepth 100000 in
theorem WX2_join_s18_108 {p : Program} {l : Launch} {e : Env} {s : State} {m : MethodId} {args : Array Value} {below : List Frame} {meth : Method} {c : Code} {D : va_G} {ty : Nat → ClassId} {eo : Nat → Nat} {A : Nat → Prop} {ad : Nat → Nat} {o1 : Int32} {o2 : dK} (C : dc_C p s m args meth c cX2_join (some .int) 8 RX2 wsX2_join D ty eo A)   (q : dK) (y0 : Int64) (H : Heap) (locs : List Loc) (ls : Array Slot) (h : zX2_join_s18_108  q y0 = some (o1, o2)) (hP : va_P D vwCl (wF ty ad q) H) (hD : va_D A (wF ty ad q)) (hS : va_S A s.heap H locs) (hl : lv_has ls 8 [(0, .ref (ad 18))]) : W p l e ({ frames := 0, cells := 0, slots := 0, locals := 0 } : Room) s m args below meth c H locs 0 0 (MQ below (va_Qi (fun (r : Int32) (u : va_W) => o1 = r ∧ wF ty ad o2 = u) (kz_B D ty A) A) args s 0 0 A) (F0 m 108 ls [.long y0]) := by
  have C0 := C
  obtain ⟨hx, hb, hr, hts, hown, hlocks, hml, hK, hN, hE, hA⟩ := C
  unfold zX2_join_s18_108 at h
  refine lv_lstore (lv' := [(6, .long y0), (0, .ref (ad 18))]) hx hb dX2_join_108 hl (by decide) rfl (fun ls hl => ?_)
  refine lv_goto (tgt := 163) hx hb dX2_join_110 (by decide) ?_
  exact WX2_join_s18_163 C0  _ _ _ _ _ h hP hD hS (lv_sub hl [1, 0] rfl)
set_option maxHeartbeats 4000000 in
set_option maxRecDepth 100000 in
theorem WX2_join_s18_91 {p : Program} {l : Launch} {e : Env} {s : State} {m : MethodId} {args : Array Value} {below : List Frame} {meth : Method} {c : Code} {D : va_G} {ty : Nat → ClassId} {eo : Nat → Nat} {A : Nat → Prop} {ad : Nat → Nat} {o1 : Int32} {o2 : dK} (C : dc_C p s m args meth c cX2_join (some .int) 8 RX2 wsX2_join D ty eo A)   (q : dK) (y0 : Int64) (H : Heap) (locs : List Loc) (ls : Array Slot) (h : zX2_join_s18_91  q y0 = some (o1, o2)) (hP : va_P D vwCl (wF ty ad q) H) (hD : va_D A (wF ty ad q)) (hS : va_S A s.heap H locs) (hl : lv_has ls 8 [(0, .ref (ad 18))]) : W p l e ({ frames := 0, cells := 0, slots := 0, locals := 0 } : Room) s m args below meth c H locs 0 0 (MQ below (va_Qi (fun (r : Int32) (u : va_W) => o1 = r ∧ wF ty ad o2 = u) (kz_B D ty A) A) args s 0 0 A) (F0 m 91 ls [.long y0]) := by
  have C0 := C
  obtain ⟨hx, hb, hr, hts, hown, hlocks, hml, hK, hN, hE, hA⟩ := C
  unfold zX2_join_s18_91 at h
  refine lv_lstore (lv' := [(6, .long y0), (0, .ref (ad 18))]) hx hb dX2_join_91 hl (by decide) rfl (fun ls hl => ?_)
  refine lv_goto (tgt := 163) hx hb dX2_join_93 (by decide) ?_
  exact WX2_join_s18_163 C0  _ _ _ _ _ h hP hD hS (lv_sub hl [1, 0] rfl)
set_option maxHeartbeats 4000000 in
set_option maxRecDepth 100000 in
theorem qX2_join_s18 (l : Launch) (D : va_G) (ty : Nat → ClassId) (eo : Nat → Nat) (sz : Nat) (ad : Nat → Nat) (q : dK) (p1 : Int32) (p2 : Int64) (p3 : Int64) (o1 : Int32) (o2 : dK) (h : zX2_join_s18 q p1 p2 p3 = some (o1, o2)) : Met l yX2_join wsX2_join ({ frames := 0, cells := 0, slots := 0, locals := 0 } : Room) (va_Pc [.ref (ad 18), .int p1, .long p2, .long p3] (kz_pre D ty eo (wF ty ad q) sz)) (va_Qi (fun (r : Int32) (u : va_W) => o1 = r ∧ wF ty ad o2 = u) (kz_B D ty (va_A (wF ty ad q) sz)) (va_A (wF ty ad q) sz)) 0 0 (va_A (wF ty ad q) sz) := by
  refine Met.ofW (cc := cX2_join) (maxL := 8) (ret := (some .int)) (by decide) rfl ?_
  intro p e s m args below meth c s₁ B hml hv
  obtain ⟨rfl, hsz, hP, hK, hD0, hN, hE⟩ := hv
  have hx := B.exec
  have hb := B.bytes
  have hr := B.returns
  have hts := atoms_spec (ws := wsX2_join) B.pre
  have hown : s.vm.findClass RX2 = some m.cls := findClass_of_methodNamed B.named
  have hlocks := B.notSynchronized
  subst hsz
  have hD := hD0.self (sz := s.heap.size)
  generalize hAe : va_A (wF ty ad q) s.heap.size = A at hD hE ⊢
  have hA : ∀ q : Nat, s.heap.size ≤ q → A q := fun q h => by rw [← hAe]; exact Or.inr h
  clear hAe
  have hS : va_S A s.heap s.heap [] := va_S.rf
  have hl := lv_entry ([.ref (ad 18), .int p1, .long p2, .long p3]) (n := 8) (Nat.le_of_ble_eq_true rfl)
  rw [lg_entry_eq]
  generalize (lg_sl ([.ref (ad 18), .int p1, .long p2, .long p3]) ++ List.replicate (8 - (lg_sl ([.ref (ad 18), .int p1, .long p2, .long p3])).length) Slot.unset).toArray = ls at hl ⊢
  have hl : lv_has ls 8 [(0, .ref (ad 18)), (1, .int p1), (2, .long p2), (4, .long p3)] := hl
  have C : dc_C p s m _ meth c cX2_join (some .int) 8 RX2 wsX2_join D ty eo A := ⟨hx, hb, hr, hts, hown, hlocks, hml, hK, hN, hE, hA⟩
  unfold zX2_join_s18 at h
  refine lv_lconst (v := 0) hx hb dX2_join_0 (by decide) ?_
  refine lv_lstore (lv' := [(6, .long 0), (0, .ref (ad 18)), (1, .int p1), (2, .long p2), (4, .long p3)]) hx hb dX2_join_1 hl (by decide) rfl (fun ls hl => ?_)
  refine lv_iload_n hx hb dX2_join_3 rfl (lv_at hl 2 rfl) ?_
  by_cases c1 : p1 = 2
  · rw [if_pos c1] at h
    refine lv_tableIn (off := 48) (tgt := 52) hx hb dX2_join_4 (by rw [c1]; decide) (by rw [c1]; decide) (by rw [c1]; decide) (by decide) ?_
    refine lv_lload_n hx hb dX2_join_52 rfl (lv_at hl 3 rfl) ?_
    refine lv_lload hx hb dX2_join_53 (lv_at hl 4 rfl) ?_
    refine lv_ladd hx hb dX2_join_55 ?_
    refine lv_lstore (lv' := [(6, .long (p2 + p3 : Int64)), (0, .ref (ad 18)), (1, .int p1), (2, .long p2), (4, .long p3)]) hx hb dX2_join_56 hl (by decide) rfl (fun ls hl => ?_)
    refine lv_goto (tgt := 163) hx hb dX2_join_58 (by decide) ?_
    exact WX2_join_s18_163 C  _ _ _ _ _ h hP hD hS (lv_sub hl [1, 0] rfl)
  rw [if_neg c1] at h
  by_cases c2 : p1 = 3
  · rw [if_pos c2] at h
    refine lv_tableIn (off := 57) (tgt := 61) hx hb dX2_join_4 (by rw [c2]; decide) (by rw [c2]; decide) (by rw [c2]; decide) (by decide) ?_
    refine lv_lload_n hx hb dX2_join_61 rfl (lv_at hl 3 rfl) ?_
    refine lv_lload hx hb dX2_join_62 (lv_at hl 4 rfl) ?_
    refine lv_lsub hx hb dX2_join_64 ?_
    refine lv_lstore (lv' := [(6, .long (p2 - p3 : Int64)), (0, .ref (ad 18)), (1, .int p1), (2, .long p2), (4, .long p3)]) hx hb dX2_join_65 hl (by decide) rfl (fun ls hl => ?_)
    refine lv_goto (tgt := 163) hx hb dX2_join_67 (by decide) ?_
    exact WX2_join_s18_163 C  _ _ _ _ _ h hP hD hS (lv_sub hl [1, 0] rfl)
  rw [if_neg c2] at h
  by_cases c3 : p1 = 4
  · rw [if_pos c3] at h
    refine lv_tableIn (off := 66) (tgt := 70) hx hb dX2_join_4 (by rw [c3]; decide) (by rw [c3]; decide) (by rw [c3]; decide) (by decide) ?_
    refine lv_lload_n hx hb dX2_join_70 rfl (lv_at hl 3 rfl) ?_
    refine lv_lload hx hb dX2_join_71 (lv_at hl 4 rfl) ?_
    refine lv_lmul hx hb dX2_join_73 ?_
    refine lv_lstore (lv' := [(6, .long (p2 * p3 : Int64)), (0, .ref (ad 18)), (1, .int p1), (2, .long p2), (4, .long p3)]) hx hb dX2_join_74 hl (by decide) rfl (fun ls hl => ?_)
    refine lv_goto (tgt := 163) hx hb dX2_join_76 (by decide) ?_
    exact WX2_join_s18_163 C  _ _ _ _ _ h hP hD hS (lv_sub hl [1, 0] rfl)
  rw [if_neg c3] at h
  by_cases c4 : p1 = 5
  · rw [if_pos c4] at h
    refine lv_tableIn (off := 126) (tgt := 130) hx hb dX2_join_4 (by rw [c4]; decide) (by rw [c4]; decide) (by rw [c4]; decide) (by decide) ?_
    refine lv_lload hx hb dX2_join_130 (lv_at hl 4 rfl) ?_
    refine lv_lconst (v := 0) hx hb dX2_join_132 (by decide) ?_
    refine W.lcmp hx hb dX2_join_133 ?_
    refine lv_if_ne (tgt := 145) hx hb dX2_join_134 (by decide) (fun c9 => ?_) (fun c9 => ?_)
    · rw [if_neg c9] at h
      refine lv_iload_n hx hb dX2_join_145 rfl (lv_at hl 2 rfl) ?_
      refine lv_iconst (v := 5) hx hb dX2_join_146 (by decide) ?_
      refine lv_icmp_ne (tgt := 157) hx hb dX2_join_147 (by decide) (fun c9 => ?_) (fun c9 => ?_)
      · rw [if_neg c9] at h
        refine lv_lload_n hx hb dX2_join_157 rfl (lv_at hl 3 rfl) ?_
        refine lv_lload hx hb dX2_join_158 (lv_at hl 4 rfl) ?_
        obtain ⟨g5, h⟩ := dG_some h
        refine lv_lrem hx hb dX2_join_160 (dnl_ne g5) ?_
        exact WX2_join_s18_161 C  _ _ _ _ _ h hP hD hS (lv_sub hl [1] rfl)
      · rw [if_pos c9] at h
        refine lv_lload_n hx hb dX2_join_150 rfl (lv_at hl 3 rfl) ?_
        refine lv_lload hx hb dX2_join_151 (lv_at hl 4 rfl) ?_
        obtain ⟨g6, h⟩ := dG_some h
        refine lv_ldiv hx hb dX2_join_153 (dnl_ne g6) ?_
        refine lv_goto (tgt := 161) hx hb dX2_join_154 (by decide) ?_
        exact WX2_join_s18_161 C  _ _ _ _ _ h hP hD hS (lv_sub hl [1] rfl)
    · rw [if_pos c9] at h
      refine lv_aload_n hx hb dX2_join_137 rfl (lv_at hl 1 rfl) ?_
      refine lv_iconst (v := 1) hx hb dX2_join_138 (by decide) ?_
      refine va_put (D := D) (ci := 2) (v := .int 1) (ty := .boolean) (C := RX2) (T := TX2) (N := 2) hx hb hts u9_wsX2_join_X2 tyX2 tyX2_ok nmX2 hown hK hP hD hS 18 rfl rfl 1 (by decide) (hts (.fieldLink RX2 13 "TurnedFloors$Machine" "broken" "Z") f9_wsX2_join_382) (fun _ h9 => h9) rfl (by decide +kernel) rfl rfl (Nat.le_of_ble_eq_true rfl) dX2_join_139 (fun H locs hp hd hs => ?_)
      obtain ⟨q7, eq7, h⟩ := dL_some h
      refine kz_re (w2 := wF ty ad q7) hp hd hs (by rw [← eq7]; exact wF_f18_1 ty ad q 1) ?_
      clear hp hd hs hP hD hS
      intro hP hD hS
      refine lv_goto (tgt := 163) hx hb dX2_join_142 (by decide) ?_
      exact WX2_join_s18_163 C  _ _ _ _ _ h hP hD hS (lv_sub hl [1, 0] rfl)
  rw [if_neg c4] at h
  by_cases c8 : p1 = 6
  · rw [if_pos c8] at h
    refine lv_tableIn (off := 126) (tgt := 130) hx hb dX2_join_4 (by rw [c8]; decide) (by rw [c8]; decide) (by rw [c8]; decide) (by decide) ?_
    refine lv_lload hx hb dX2_join_130 (lv_at hl 4 rfl) ?_
    refine lv_lconst (v := 0) hx hb dX2_join_132 (by decide) ?_
    refine W.lcmp hx hb dX2_join_133 ?_
    refine lv_if_ne (tgt := 145) hx hb dX2_join_134 (by decide) (fun c9 => ?_) (fun c9 => ?_)
    · rw [if_neg c9] at h
      refine lv_iload_n hx hb dX2_join_145 rfl (lv_at hl 2 rfl) ?_
      refine lv_iconst (v := 5) hx hb dX2_join_146 (by decide) ?_
      refine lv_icmp_ne (tgt := 157) hx hb dX2_join_147 (by decide) (fun c9 => ?_) (fun c9 => ?_)
      · rw [if_neg c9] at h
        refine lv_lload_n hx hb dX2_join_157 rfl (lv_at hl 3 rfl) ?_
        refine lv_lload hx hb dX2_join_158 (lv_at hl 4 rfl) ?_
        obtain ⟨g9, h⟩ := dG_some h
        refine lv_lrem hx hb dX2_join_160 (dnl_ne g9) ?_
        exact WX2_join_s18_161 C  _ _ _ _ _ h hP hD hS (lv_sub hl [1] rfl)
      · rw [if_pos c9] at h
        refine lv_lload_n hx hb dX2_join_150 rfl (lv_at hl 3 rfl) ?_
        refine lv_lload hx hb dX2_join_151 (lv_at hl 4 rfl) ?_
        obtain ⟨g10, h⟩ := dG_some h
        refine lv_ldiv hx hb dX2_join_153 (dnl_ne g10) ?_
        refine lv_goto (tgt := 161) hx hb dX2_join_154 (by decide) ?_
        exact WX2_join_s18_161 C  _ _ _ _ _ h hP hD hS (lv_sub hl [1] rfl)
    · rw [if_pos c9] at h
      refine lv_aload_n hx hb dX2_join_137 rfl (lv_at hl 1 rfl) ?_
      refine lv_iconst (v := 1) hx hb dX2_join_138 (by decide) ?_
      refine va_put (D := D) (ci := 2) (v := .int 1) (ty := .boolean) (C := RX2) (T := TX2) (N := 2) hx hb hts u9_wsX2_join_X2 tyX2 tyX2_ok nmX2 hown hK hP hD hS 18 rfl rfl 1 (by decide) (hts (.fieldLink RX2 13 "TurnedFloors$Machine" "broken" "Z") f9_wsX2_join_382) (fun _ h9 => h9) rfl (by decide +kernel) rfl rfl (Nat.le_of_ble_eq_true rfl) dX2_join_139 (fun H locs hp hd hs => ?_)
      obtain ⟨q11, eq11, h⟩ := dL_some h
      refine kz_re (w2 := wF ty ad q11) hp hd hs (by rw [← eq11]; exact wF_f18_1 ty ad q 1) ?_
      clear hp hd hs hP hD hS
      intro hP hD hS
      refine lv_goto (tgt := 163) hx hb dX2_join_142 (by decide) ?_
      exact WX2_join_s18_163 C  _ _ _ _ _ h hP hD hS (lv_sub hl [1, 0] rfl)
  rw [if_neg c8] at h
  by_cases c12 : p1 = 7
  · rw [if_pos c12] at h
    refine lv_tableIn (off := 75) (tgt := 79) hx hb dX2_join_4 (by rw [c12]; decide) (by rw [c12]; decide) (by rw [c12]; decide) (by decide) ?_
    refine lv_lload_n hx hb dX2_join_79 rfl (lv_at hl 3 rfl) ?_
    refine lv_lload hx hb dX2_join_80 (lv_at hl 4 rfl) ?_
    refine W.lcmp hx hb dX2_join_82 ?_
    refine lv_if_ge (tgt := 90) hx hb dX2_join_83 (by decide) (fun c9 => ?_) (fun c9 => ?_)
    · rw [if_pos c9] at h
      refine lv_lconst (v := 0) hx hb dX2_join_90 (by decide) ?_
      exact WX2_join_s18_91 C  _ _ _ _ _ h hP hD hS (lv_sub hl [1] rfl)
    · rw [if_neg c9] at h
      refine lv_lconst (v := 1) hx hb dX2_join_86 (by decide) ?_
      refine lv_goto (tgt := 91) hx hb dX2_join_87 (by decide) ?_
      exact WX2_join_s18_91 C  _ _ _ _ _ h hP hD hS (lv_sub hl [1] rfl)
  rw [if_neg c12] at h
  by_cases c13 : p1 = 8
  · rw [if_pos c13] at h
    refine lv_tableIn (off := 92) (tgt := 96) hx hb dX2_join_4 (by rw [c13]; decide) (by rw [c13]; decide) (by rw [c13]; decide) (by decide) ?_
    refine lv_lload_n hx hb dX2_join_96 rfl (lv_at hl 3 rfl) ?_
    refine lv_lload hx hb dX2_join_97 (lv_at hl 4 rfl) ?_
    refine W.lcmp hx hb dX2_join_99 ?_
    refine lv_if_le (tgt := 107) hx hb dX2_join_100 (by decide) (fun c9 => ?_) (fun c9 => ?_)
    · rw [if_pos c9] at h
      refine lv_lconst (v := 0) hx hb dX2_join_107 (by decide) ?_
      exact WX2_join_s18_108 C  _ _ _ _ _ h hP hD hS (lv_sub hl [1] rfl)
    · rw [if_neg c9] at h
      refine lv_lconst (v := 1) hx hb dX2_join_103 (by decide) ?_
      refine lv_goto (tgt := 108) hx hb dX2_join_104 (by decide) ?_
      exact WX2_join_s18_108 C  _ _ _ _ _ h hP hD hS (lv_sub hl [1] rfl)
  rw [if_neg c13] at h
  by_cases c14 : p1 = 9
  · rw [if_pos c14] at h
    refine lv_tableIn (off := 109) (tgt := 113) hx hb dX2_join_4 (by rw [c14]; decide) (by rw [c14]; decide) (by rw [c14]; decide) (by decide) ?_
    refine lv_lload_n hx hb dX2_join_113 rfl (lv_at hl 3 rfl) ?_
    refine lv_lload hx hb dX2_join_114 (lv_at hl 4 rfl) ?_
    refine W.lcmp hx hb dX2_join_116 ?_
    refine lv_if_ne (tgt := 124) hx hb dX2_join_117 (by decide) (fun c9 => ?_) (fun c9 => ?_)
    · rw [if_neg c9] at h
      refine lv_lconst (v := 0) hx hb dX2_join_124 (by decide) ?_
      exact WX2_join_s18_125 C  _ _ _ _ _ h hP hD hS (lv_sub hl [1] rfl)
    · rw [if_pos c9] at h
      refine lv_lconst (v := 1) hx hb dX2_join_120 (by decide) ?_
      refine lv_goto (tgt := 125) hx hb dX2_join_121 (by decide) ?_
      exact WX2_join_s18_125 C  _ _ _ _ _ h hP hD hS (lv_sub hl [1] rfl)
  rw [if_neg c14] at h
  refine lv_tableOut (tgt := 130) hx hb dX2_join_4 (by simp only [← Int32.toInt_inj, Int32.reduceToInt] at c1 c2 c3 c4 c8 c12 c13 c14; omega) (by decide) ?_
  refine lv_lload hx hb dX2_join_130 (lv_at hl 4 rfl) ?_
  refine lv_lconst (v := 0) hx hb dX2_join_132 (by decide) ?_
  refine W.lcmp hx hb dX2_join_133 ?_
  refine lv_if_ne (tgt := 145) hx hb dX2_join_134 (by decide) (fun c9 => ?_) (fun c9 => ?_)
  · rw [if_neg c9] at h
    refine lv_iload_n hx hb dX2_join_145 rfl (lv_at hl 2 rfl) ?_
    refine lv_iconst (v := 5) hx hb dX2_join_146 (by decide) ?_
    refine lv_icmp_ne (tgt := 157) hx hb dX2_join_147 (by decide) (fun c9 => ?_) (fun c9 => ?_)
    · rw [if_neg c9] at h
      refine lv_lload_n hx hb dX2_join_157 rfl (lv_at hl 3 rfl) ?_
      refine lv_lload hx hb dX2_join_158 (lv_at hl 4 rfl) ?_
      obtain ⟨g15, h⟩ := dG_some h
      refine lv_lrem hx hb dX2_join_160 (dnl_ne g15) ?_
      exact WX2_join_s18_161 C  _ _ _ _ _ h hP hD hS (lv_sub hl [1] rfl)
    · rw [if_pos c9] at h
      refine lv_lload_n hx hb dX2_join_150 rfl (lv_at hl 3 rfl) ?_
      refine lv_lload hx hb dX2_join_151 (lv_at hl 4 rfl) ?_
      obtain ⟨g16, h⟩ := dG_some h
      refine lv_ldiv hx hb dX2_join_153 (dnl_ne g16) ?_
      refine lv_goto (tgt := 161) hx hb dX2_join_154 (by decide) ?_
      exact WX2_join_s18_161 C  _ _ _ _ _ h hP hD hS (lv_sub hl [1] rfl)
  · rw [if_pos c9] at h
    refine lv_aload_n hx hb dX2_join_137 rfl (lv_at hl 1 rfl) ?_
    refine lv_iconst (v := 1) hx hb dX2_join_138 (by decide) ?_
    refine va_put (D := D) (ci := 2) (v := .int 1) (ty := .boolean) (C := RX2) (T := TX2) (N := 2) hx hb hts u9_wsX2_join_X2 tyX2 tyX2_ok nmX2 hown hK hP hD hS 18 rfl rfl 1 (by decide) (hts (.fieldLink RX2 13 "TurnedFloors$Machine" "broken" "Z") f9_wsX2_join_382) (fun _ h9 => h9) rfl (by decide +kernel) rfl rfl (Nat.le_of_ble_eq_true rfl) dX2_join_139 (fun H locs hp hd hs => ?_)
    obtain ⟨q17, eq17, h⟩ := dL_some h
    refine kz_re (w2 := wF ty ad q17) hp hd hs (by rw [← eq17]; exact wF_f18_1 ty ad q 1) ?_
    clear hp hd hs hP hD hS
    intro hP hD hS
    refine lv_goto (tgt := 163) hx hb dX2_join_142 (by decide) ?_
    exact WX2_join_s18_163 C  _ _ _ _ _ h hP hD hS (lv_sub hl [1, 0] rfl)

set_option maxHeartbeats 4000000 in
set_option maxRecDepth 100000 in
theorem WX2_valueOf_s18_l_s21_345 {p : Program} {l : Launch} {e : Env} {s : State} {m : MethodId} {args : Array Value} {below : List Frame} {meth : Method} {c : Code} {D : va_G} {ty : Nat → ClassId} {eo : Nat → Nat} {A : Nat → Prop} {ad : Nat → Nat} {o1 : Int32} {o2 : dK} (C : dc_C p s m args meth c cX2_valueOf (some .int) 13 RX2 wsX2_valueOf D ty eo A)   (q : dK) (y0 : Int32) (H : Heap) (locs : List Loc) (ls : Array Slot) (h : zX2_valueOf_s18_l_s21_345  q y0 = some (o1, o2)) (hP : va_P D vwCl (wF ty ad q) H) (hD : va_D A (wF ty ad q)) (hS : va_S A s.heap H locs) (hl : lv_has ls 13 []) : W p l e ({ frames := 1, cells := 0, slots := 0, locals := 27 } : Room) s m args below meth c H locs 0 0 (MQ below (va_Qi (fun (r : Int32) (u : va_W) => o1 = r ∧ wF ty ad o2 = u) (kz_B D ty A) A) args s 0 0 A) (F0 m 345 ls [.int y0]) := by
  have C0 := C
  obtain ⟨hx, hb, hr, hts, hown, hlocks, hml, hK, hN, hE, hA⟩ := C
  unfold zX2_valueOf_s18_l_s21_345 at h
  cases h
  exact kz_iret hx hb hr hlocks hP hK hD hS dX2_valueOf_345 ⟨rfl, rfl⟩
set_option maxHeartbeats 4000000 in
set_option maxRecDepth 100000 in
theorem WX2_valueOf_s18_l_s21_328 {p : Program} {l : Launch} {e : Env} {s : State} {m : MethodId} {args : Array Value} {below : List Frame} {meth : Method} {c : Code} {D : va_G} {ty : Nat → ClassId} {eo : Nat → Nat} {A : Nat → Prop} {ad : Nat → Nat} {o1 : Int32} {o2 : dK} (C : dc_C p s m args meth c cX2_valueOf (some .int) 13 RX2 wsX2_valueOf D ty eo A)   (q : dK)  (H : Heap) (locs : List Loc) (ls : Array Slot) (h : zX2_valueOf_s18_l_s21_328  q = some (o1, o2)) (hP : va_P D vwCl (wF ty ad q) H) (hD : va_D A (wF ty ad q)) (hS : va_S A s.heap H locs) (hl : lv_has ls 13 [(0, .ref (ad 18))]) : W p l e ({ frames := 1, cells := 0, slots := 0, locals := 27 } : Room) s m args below meth c H locs 0 0 (MQ below (va_Qi (fun (r : Int32) (u : va_W) => o1 = r ∧ wF ty ad o2 = u) (kz_B D ty A) A) args s 0 0 A) (F0 m 328 ls []) := by
  have C0 := C
  obtain ⟨hx, hb, hr, hts, hown, hlocks, hml, hK, hN, hE, hA⟩ := C
  unfold zX2_valueOf_s18_l_s21_328 at h
  refine lv_aload_n hx hb dX2_valueOf_328 rfl (lv_at hl 0 rfl) ?_
  refine va_get (D := D) (ci := 2) (v := .int (q.1 18 1)) (C := RX2) (T := TX2) (N := 2) hx hb hts u9_wsX2_valueOf_X2 hown hK hP 18 rfl rfl 1 (by decide) (hts (.fieldLink RX2 13 "TurnedFloors$Machine" "broken" "Z") f9_wsX2_valueOf_386) (fun _ h9 => h9) rfl dX2_valueOf_329 ?_
  refine lv_if_eq (tgt := 339) hx hb dX2_valueOf_332 (by decide) (fun c9 => ?_) (fun c9 => ?_)
  · rw [if_pos c9] at h
    refine lv_aload_n hx hb dX2_valueOf_339 rfl (lv_at hl 0 rfl) ?_
    refine va_get (D := D) (ci := 2) (v := .ref (ad 19)) (C := RX2) (T := TX2) (N := 2) hx hb hts u9_wsX2_valueOf_X2 hown hK hP 18 rfl rfl 0 (by decide) (hts (.fieldLink RX2 9 "TurnedFloors$Machine" "stack" "[I") f9_wsX2_valueOf_387) (fun _ h9 => h9) rfl dX2_valueOf_340 ?_
    refine lv_iconst (v := 0) hx hb dX2_valueOf_343 (by decide) ?_
    refine va_iald hx hb hK hP 19 0 rfl rfl (by simp only [vp_in]; decide) dX2_valueOf_344 ?_
    refine kz_topi (q.1 19 0) (congrArg (q.1 19) (by decide +kernel : Int32.toNatClampNeg 0 = 0)) ?_
    exact WX2_valueOf_s18_l_s21_345 C0  _ _ _ _ _ h hP hD hS (lv_sub hl [] rfl)
  · rw [if_neg c9] at h
    refine lv_iconst (v := 0) hx hb dX2_valueOf_335 (by decide) ?_
    refine lv_goto (tgt := 345) hx hb dX2_valueOf_336 (by decide) ?_
    exact WX2_valueOf_s18_l_s21_345 C0  _ _ _ _ _ h hP hD hS (lv_sub hl [] rfl)
set_option maxHeartbeats 4000000 in
set_option maxRecDepth 100000 in
theorem WX2_valueOf_s18_l_s21_322 {p : Program} {l : Launch} {e : Env} {s : State} {m : MethodId} {args : Array Value} {below : List Frame} {meth : Method} {c : Code} {D : va_G} {ty : Nat → ClassId} {eo : Nat → Nat} {A : Nat → Prop} {ad : Nat → Nat} {o1 : Int32} {o2 : dK} (C : dc_C p s m args meth c cX2_valueOf (some .int) 13 RX2 wsX2_valueOf D ty eo A) {k32 : dK → Int32 → Int32 → Int32 → Int32 → Int32 → Option (Int32 × dK)} (hk32 : ∀ (q : dK) (x1 : Int32) (x5 : Int32) (x6 : Int32) (x7 : Int32) (x8 : Int32) (H : Heap) (locs : List Loc) (ls : Array Slot), k32 q x1 x5 x6 x7 x8 = some (o1, o2) → va_P D vwCl (wF ty ad q) H → va_D A (wF ty ad q) → va_S A s.heap H locs → lv_has ls 13 [(0, .ref (ad 18)), (1, .ref (ad (63 + 7 * dLi x1))), (4, .ref (ad 21)), (5, .int x5), (6, .int x6), (7, .int x7), (8, .int x8)] → W p l e ({ frames := 1, cells := 0, slots := 0, locals := 27 } : Room) s m args below meth c H locs 0 0 (MQ below (va_Qi (fun (r : Int32) (u : va_W) => o1 = r ∧ wF ty ad o2 = u) (kz_B D ty A) A) args s 0 0 A) (F0 m 32 ls [])) (q : dK) (x1 : Int32) (x5 : Int32) (x6 : Int32) (x7 : Int32) (x8 : Int32) (H : Heap) (locs : List Loc) (ls : Array Slot) (h : zX2_valueOf_s18_l_s21_322 k32 q x1 x5 x6 x7 x8 = some (o1, o2)) (hP : va_P D vwCl (wF ty ad q) H) (hD : va_D A (wF ty ad q)) (hS : va_S A s.heap H locs) (hl : lv_has ls 13 [(0, .ref (ad 18)), (1, .ref (ad (63 + 7 * dLi x1))), (4, .ref (ad 21)), (5, .int x5), (6, .int x6), (7, .int x7), (8, .int x8)]) : W p l e ({ frames := 1, cells := 0, slots := 0, locals := 27 } : Room) s m args below meth c H locs 0 0 (MQ below (va_Qi (fun (r : Int32) (u : va_W) => o1 = r ∧ wF ty ad o2 = u) (kz_B D ty A) A) args s 0 0 A) (F0 m 322 ls []) := by
  have C0 := C
  obtain ⟨hx, hb, hr, hts, hown, hlocks, hml, hK, hN, hE, hA⟩ := C
  unfold zX2_valueOf_s18_l_s21_322 at h
  refine lv_iinc (v := x8 + 1) (lv' := [(8, .int (x8 + 1)), (0, .ref (ad 18)), (1, .ref (ad (63 + 7 * dLi x1))), (4, .ref (ad 21)), (5, .int x5), (6, .int x6), (7, .int x7)]) hx hb dX2_valueOf_322 hl (k := 6) rfl rfl (by decide) rfl (fun ls hl => ?_)
  refine lv_goto (tgt := 32) hx hb dX2_valueOf_325 (by decide) ?_
  exact hk32 _ _ _ _ _ _ _ _ _ h hP hD hS (lv_sub hl [1, 2, 3, 4, 5, 6, 0] rfl)
set_option maxHeartbeats 4000000 in
set_option maxRecDepth 100000 in
theorem WX2_valueOf_s18_l_s21_281 {p : Program} {l : Launch} {e : Env} {s : State} {m : MethodId} {args : Array Value} {below : List Frame} {meth : Method} {c : Code} {D : va_G} {ty : Nat → ClassId} {eo : Nat → Nat} {A : Nat → Prop} {ad : Nat → Nat} {o1 : Int32} {o2 : dK} (C : dc_C p s m args meth c cX2_valueOf (some .int) 13 RX2 wsX2_valueOf D ty eo A) {k32 : dK → Int32 → Int32 → Int32 → Int32 → Int32 → Option (Int32 × dK)} (hk32 : ∀ (q : dK) (x1 : Int32) (x5 : Int32) (x6 : Int32) (x7 : Int32) (x8 : Int32) (H : Heap) (locs : List Loc) (ls : Array Slot), k32 q x1 x5 x6 x7 x8 = some (o1, o2) → va_P D vwCl (wF ty ad q) H → va_D A (wF ty ad q) → va_S A s.heap H locs → lv_has ls 13 [(0, .ref (ad 18)), (1, .ref (ad (63 + 7 * dLi x1))), (4, .ref (ad 21)), (5, .int x5), (6, .int x6), (7, .int x7), (8, .int x8)] → W p l e ({ frames := 1, cells := 0, slots := 0, locals := 27 } : Room) s m args below meth c H locs 0 0 (MQ below (va_Qi (fun (r : Int32) (u : va_W) => o1 = r ∧ wF ty ad o2 = u) (kz_B D ty A) A) args s 0 0 A) (F0 m 32 ls [])) (q : dK) (x1 : Int32) (x6 : Int32) (x7 : Int32) (x8 : Int32) (y0 : Int32) (H : Heap) (locs : List Loc) (ls : Array Slot) (h : zX2_valueOf_s18_l_s21_281 k32 q x1 x6 x7 x8 y0 = some (o1, o2)) (hP : va_P D vwCl (wF ty ad q) H) (hD : va_D A (wF ty ad q)) (hS : va_S A s.heap H locs) (hl : lv_has ls 13 [(0, .ref (ad 18)), (1, .ref (ad (63 + 7 * dLi x1))), (4, .ref (ad 21)), (6, .int x6), (7, .int x7), (8, .int x8)]) : W p l e ({ frames := 1, cells := 0, slots := 0, locals := 27 } : Room) s m args below meth c H locs 0 0 (MQ below (va_Qi (fun (r : Int32) (u : va_W) => o1 = r ∧ wF ty ad o2 = u) (kz_B D ty A) A) args s 0 0 A) (F0 m 281 ls [.int y0]) := by
  have C0 := C
  obtain ⟨hx, hb, hr, hts, hown, hlocks, hml, hK, hN, hE, hA⟩ := C
  unfold zX2_valueOf_s18_l_s21_281 at h
  refine lv_istore (lv' := [(5, .int y0), (0, .ref (ad 18)), (1, .ref (ad (63 + 7 * dLi x1))), (4, .ref (ad 21)), (6, .int x6), (7, .int x7), (8, .int x8)]) hx hb dX2_valueOf_281 hl (by decide) rfl (fun ls hl => ?_)
  refine lv_goto (tgt := 322) hx hb dX2_valueOf_283 (by decide) ?_
  exact WX2_valueOf_s18_l_s21_322 C0 hk32 _ _ _ _ _ _ _ _ _ h hP hD hS (lv_sub hl [1, 2, 3, 0, 4, 5, 6] rfl)
set_option maxHeartbeats 4000000 in
set_option maxRecDepth 100000 in
theorem WX2_valueOf_s18_l_s21_265 {p : Program} {l : Launch} {e : Env} {s : State} {m : MethodId} {args : Array Value} {below : List Frame} {meth : Method} {c : Code} {D : va_G} {ty : Nat → ClassId} {eo : Nat → Nat} {A : Nat → Prop} {ad : Nat → Nat} {o1 : Int32} {o2 : dK} (C : dc_C p s m args meth c cX2_valueOf (some .int) 13 RX2 wsX2_valueOf D ty eo A) {k32 : dK → Int32 → Int32 → Int32 → Int32 → Int32 → Option (Int32 × dK)} (hk32 : ∀ (q : dK) (x1 : Int32) (x5 : Int32) (x6 : Int32) (x7 : Int32) (x8 : Int32) (H : Heap) (locs : List Loc) (ls : Array Slot), k32 q x1 x5 x6 x7 x8 = some (o1, o2) → va_P D vwCl (wF ty ad q) H → va_D A (wF ty ad q) → va_S A s.heap H locs → lv_has ls 13 [(0, .ref (ad 18)), (1, .ref (ad (63 + 7 * dLi x1))), (4, .ref (ad 21)), (5, .int x5), (6, .int x6), (7, .int x7), (8, .int x8)] → W p l e ({ frames := 1, cells := 0, slots := 0, locals := 27 } : Room) s m args below meth c H locs 0 0 (MQ below (va_Qi (fun (r : Int32) (u : va_W) => o1 = r ∧ wF ty ad o2 = u) (kz_B D ty A) A) args s 0 0 A) (F0 m 32 ls [])) (q : dK) (x1 : Int32) (x5 : Int32) (x7 : Int32) (x8 : Int32) (x12 : Int32) (y0 : Int32) (H : Heap) (locs : List Loc) (ls : Array Slot) (h : zX2_valueOf_s18_l_s21_265 k32 q x1 x5 x7 x8 x12 y0 = some (o1, o2)) (hP : va_P D vwCl (wF ty ad q) H) (hD : va_D A (wF ty ad q)) (hS : va_S A s.heap H locs) (hl : lv_has ls 13 [(0, .ref (ad 18)), (1, .ref (ad (63 + 7 * dLi x1))), (4, .ref (ad 21)), (5, .int x5), (7, .int x7), (8, .int x8), (12, .int x12)]) : W p l e ({ frames := 1, cells := 0, slots := 0, locals := 27 } : Room) s m args below meth c H locs 0 0 (MQ below (va_Qi (fun (r : Int32) (u : va_W) => o1 = r ∧ wF ty ad o2 = u) (kz_B D ty A) A) args s 0 0 A) (F0 m 265 ls [.int y0]) := by
  have C0 := C
  obtain ⟨hx, hb, hr, hts, hown, hlocks, hml, hK, hN, hE, hA⟩ := C
  unfold zX2_valueOf_s18_l_s21_265 at h
  refine lv_istore (lv' := [(6, .int y0), (0, .ref (ad 18)), (1, .ref (ad (63 + 7 * dLi x1))), (4, .ref (ad 21)), (5, .int x5), (7, .int x7), (8, .int x8), (12, .int x12)]) hx hb dX2_valueOf_265 hl (by decide) rfl (fun ls hl => ?_)
  refine lv_iload hx hb dX2_valueOf_267 (lv_at hl 7 rfl) ?_
  refine lv_if_eq (tgt := 277) hx hb dX2_valueOf_269 (by decide) (fun c9 => ?_) (fun c9 => ?_)
  · rw [if_pos c9] at h
    refine lv_iload hx hb dX2_valueOf_277 (lv_at hl 4 rfl) ?_
    refine lv_iconst (v := 1) hx hb dX2_valueOf_279 (by decide) ?_
    refine lv_isub hx hb dX2_valueOf_280 ?_
    exact WX2_valueOf_s18_l_s21_281 C0 hk32 _ _ _ _ _ _ _ _ _ h hP hD hS (lv_sub hl [1, 2, 3, 0, 5, 6] rfl)
  · rw [if_neg c9] at h
    refine lv_iload hx hb dX2_valueOf_272 (lv_at hl 4 rfl) ?_
    refine lv_goto (tgt := 281) hx hb dX2_valueOf_274 (by decide) ?_
    exact WX2_valueOf_s18_l_s21_281 C0 hk32 _ _ _ _ _ _ _ _ _ h hP hD hS (lv_sub hl [1, 2, 3, 0, 5, 6] rfl)
set_option maxHeartbeats 4000000 in
set_option maxRecDepth 100000 in
theorem WX2_valueOf_s18_l_s21_251 {p : Program} {l : Launch} {e : Env} {s : State} {m : MethodId} {args : Array Value} {below : List Frame} {meth : Method} {c : Code} {D : va_G} {ty : Nat → ClassId} {eo : Nat → Nat} {A : Nat → Prop} {ad : Nat → Nat} {o1 : Int32} {o2 : dK} (C : dc_C p s m args meth c cX2_valueOf (some .int) 13 RX2 wsX2_valueOf D ty eo A) {k32 : dK → Int32 → Int32 → Int32 → Int32 → Int32 → Option (Int32 × dK)} (hk32 : ∀ (q : dK) (x1 : Int32) (x5 : Int32) (x6 : Int32) (x7 : Int32) (x8 : Int32) (H : Heap) (locs : List Loc) (ls : Array Slot), k32 q x1 x5 x6 x7 x8 = some (o1, o2) → va_P D vwCl (wF ty ad q) H → va_D A (wF ty ad q) → va_S A s.heap H locs → lv_has ls 13 [(0, .ref (ad 18)), (1, .ref (ad (63 + 7 * dLi x1))), (4, .ref (ad 21)), (5, .int x5), (6, .int x6), (7, .int x7), (8, .int x8)] → W p l e ({ frames := 1, cells := 0, slots := 0, locals := 27 } : Room) s m args below meth c H locs 0 0 (MQ below (va_Qi (fun (r : Int32) (u : va_W) => o1 = r ∧ wF ty ad o2 = u) (kz_B D ty A) A) args s 0 0 A) (F0 m 32 ls [])) (q : dK) (x1 : Int32) (x5 : Int32) (x6 : Int32) (x7 : Int32) (x8 : Int32) (x10 : Int32) (y0 : Int32) (H : Heap) (locs : List Loc) (ls : Array Slot) (h : zX2_valueOf_s18_l_s21_251 k32 q x1 x5 x6 x7 x8 x10 y0 = some (o1, o2)) (hP : va_P D vwCl (wF ty ad q) H) (hD : va_D A (wF ty ad q)) (hS : va_S A s.heap H locs) (hl : lv_has ls 13 [(0, .ref (ad 18)), (1, .ref (ad (63 + 7 * dLi x1))), (4, .ref (ad 21)), (5, .int x5), (6, .int x6), (7, .int x7), (8, .int x8), (10, .int x10)]) : W p l e ({ frames := 1, cells := 0, slots := 0, locals := 27 } : Room) s m args below meth c H locs 0 0 (MQ below (va_Qi (fun (r : Int32) (u : va_W) => o1 = r ∧ wF ty ad o2 = u) (kz_B D ty A) A) args s 0 0 A) (F0 m 251 ls [.int y0]) := by
  have C0 := C
  obtain ⟨hx, hb, hr, hts, hown, hlocks, hml, hK, hN, hE, hA⟩ := C
  unfold zX2_valueOf_s18_l_s21_251 at h
  refine lv_istore (lv' := [(12, .int y0), (0, .ref (ad 18)), (1, .ref (ad (63 + 7 * dLi x1))), (4, .ref (ad 21)), (5, .int x5), (6, .int x6), (7, .int x7), (8, .int x8), (10, .int x10)]) hx hb dX2_valueOf_251 hl (by decide) rfl (fun ls hl => ?_)
  refine lv_iload hx hb dX2_valueOf_253 (lv_at hl 0 rfl) ?_
  refine lv_if_eq (tgt := 263) hx hb dX2_valueOf_255 (by decide) (fun c9 => ?_) (fun c9 => ?_)
  · rw [if_pos c9] at h
    refine lv_iload hx hb dX2_valueOf_263 (lv_at hl 5 rfl) ?_
    exact WX2_valueOf_s18_l_s21_265 C0 hk32 _ _ _ _ _ _ _ _ _ _ h hP hD hS (lv_sub hl [1, 2, 3, 4, 6, 7, 0] rfl)
  · rw [if_neg c9] at h
    refine lv_iload hx hb dX2_valueOf_258 (lv_at hl 8 rfl) ?_
    refine lv_goto (tgt := 265) hx hb dX2_valueOf_260 (by decide) ?_
    exact WX2_valueOf_s18_l_s21_265 C0 hk32 _ _ _ _ _ _ _ _ _ _ h hP hD hS (lv_sub hl [1, 2, 3, 4, 6, 7, 0] rfl)
set_option maxHeartbeats 4000000 in
set_option maxRecDepth 100000 in
theorem WX2_valueOf_s18_l_s21_243 {p : Program} {l : Launch} {e : Env} {s : State} {m : MethodId} {args : Array Value} {below : List Frame} {meth : Method} {c : Code} {D : va_G} {ty : Nat → ClassId} {eo : Nat → Nat} {A : Nat → Prop} {ad : Nat → Nat} {o1 : Int32} {o2 : dK} (C : dc_C p s m args meth c cX2_valueOf (some .int) 13 RX2 wsX2_valueOf D ty eo A) {k32 : dK → Int32 → Int32 → Int32 → Int32 → Int32 → Option (Int32 × dK)} (hk32 : ∀ (q : dK) (x1 : Int32) (x5 : Int32) (x6 : Int32) (x7 : Int32) (x8 : Int32) (H : Heap) (locs : List Loc) (ls : Array Slot), k32 q x1 x5 x6 x7 x8 = some (o1, o2) → va_P D vwCl (wF ty ad q) H → va_D A (wF ty ad q) → va_S A s.heap H locs → lv_has ls 13 [(0, .ref (ad 18)), (1, .ref (ad (63 + 7 * dLi x1))), (4, .ref (ad 21)), (5, .int x5), (6, .int x6), (7, .int x7), (8, .int x8)] → W p l e ({ frames := 1, cells := 0, slots := 0, locals := 27 } : Room) s m args below meth c H locs 0 0 (MQ below (va_Qi (fun (r : Int32) (u : va_W) => o1 = r ∧ wF ty ad o2 = u) (kz_B D ty A) A) args s 0 0 A) (F0 m 32 ls [])) (q : dK) (x1 : Int32) (x5 : Int32) (x6 : Int32) (x7 : Int32) (x8 : Int32) (x10 : Int32) (y0 : Int32) (y1 : Int32) (H : Heap) (locs : List Loc) (ls : Array Slot) (h : zX2_valueOf_s18_l_s21_243 k32 q x1 x5 x6 x7 x8 x10 y0 y1 = some (o1, o2)) (hP : va_P D vwCl (wF ty ad q) H) (hD : va_D A (wF ty ad q)) (hS : va_S A s.heap H locs) (hl : lv_has ls 13 [(0, .ref (ad 18)), (1, .ref (ad (63 + 7 * dLi x1))), (4, .ref (ad 21)), (5, .int x5), (6, .int x6), (7, .int x7), (8, .int x8), (10, .int x10)]) : W p l e ({ frames := 1, cells := 0, slots := 0, locals := 27 } : Room) s m args below meth c H locs 0 0 (MQ below (va_Qi (fun (r : Int32) (u : va_W) => o1 = r ∧ wF ty ad o2 = u) (kz_B D ty A) A) args s 0 0 A) (F0 m 243 ls [.int y0, .int y1]) := by
  have C0 := C
  obtain ⟨hx, hb, hr, hts, hown, hlocks, hml, hK, hN, hE, hA⟩ := C
  unfold zX2_valueOf_s18_l_s21_243 at h
  refine lv_icmp_ne (tgt := 250) hx hb dX2_valueOf_243 (by decide) (fun c9 => ?_) (fun c9 => ?_)
  · rw [if_neg c9] at h
    refine lv_iconst (v := 0) hx hb dX2_valueOf_250 (by decide) ?_
    exact WX2_valueOf_s18_l_s21_251 C0 hk32 _ _ _ _ _ _ _ _ _ _ _ h hP hD hS (lv_sub hl [0, 1, 2, 3, 4, 5, 6, 7] rfl)
  · rw [if_pos c9] at h
    refine lv_iconst (v := 1) hx hb dX2_valueOf_246 (by decide) ?_
    refine lv_goto (tgt := 251) hx hb dX2_valueOf_247 (by decide) ?_
    exact WX2_valueOf_s18_l_s21_251 C0 hk32 _ _ _ _ _ _ _ _ _ _ _ h hP hD hS (lv_sub hl [0, 1, 2, 3, 4, 5, 6, 7] rfl)
set_option maxHeartbeats 4000000 in
set_option maxRecDepth 100000 in
theorem WX2_valueOf_s18_l_s21_222 {p : Program} {l : Launch} {e : Env} {s : State} {m : MethodId} {args : Array Value} {below : List Frame} {meth : Method} {c : Code} {D : va_G} {ty : Nat → ClassId} {eo : Nat → Nat} {A : Nat → Prop} {ad : Nat → Nat} {o1 : Int32} {o2 : dK} (C : dc_C p s m args meth c cX2_valueOf (some .int) 13 RX2 wsX2_valueOf D ty eo A) {k32 : dK → Int32 → Int32 → Int32 → Int32 → Int32 → Option (Int32 × dK)} (hk32 : ∀ (q : dK) (x1 : Int32) (x5 : Int32) (x6 : Int32) (x7 : Int32) (x8 : Int32) (H : Heap) (locs : List Loc) (ls : Array Slot), k32 q x1 x5 x6 x7 x8 = some (o1, o2) → va_P D vwCl (wF ty ad q) H → va_D A (wF ty ad q) → va_S A s.heap H locs → lv_has ls 13 [(0, .ref (ad 18)), (1, .ref (ad (63 + 7 * dLi x1))), (4, .ref (ad 21)), (5, .int x5), (6, .int x6), (7, .int x7), (8, .int x8)] → W p l e ({ frames := 1, cells := 0, slots := 0, locals := 27 } : Room) s m args below meth c H locs 0 0 (MQ below (va_Qi (fun (r : Int32) (u : va_W) => o1 = r ∧ wF ty ad o2 = u) (kz_B D ty A) A) args s 0 0 A) (F0 m 32 ls [])) (q : dK) (x1 : Int32) (x5 : Int32) (x6 : Int32) (x7 : Int32) (x8 : Int32) (x9 : Int32) (x10 : Int32) (H : Heap) (locs : List Loc) (ls : Array Slot) (h : zX2_valueOf_s18_l_s21_222 k32 q x1 x5 x6 x7 x8 x9 x10 = some (o1, o2)) (hP : va_P D vwCl (wF ty ad q) H) (hD : va_D A (wF ty ad q)) (hS : va_S A s.heap H locs) (hl : lv_has ls 13 [(0, .ref (ad 18)), (1, .ref (ad (63 + 7 * dLi x1))), (4, .ref (ad 21)), (5, .int x5), (6, .int x6), (7, .int x7), (8, .int x8), (9, .int x9), (10, .int x10)]) : W p l e ({ frames := 1, cells := 0, slots := 0, locals := 27 } : Room) s m args below meth c H locs 0 0 (MQ below (va_Qi (fun (r : Int32) (u : va_W) => o1 = r ∧ wF ty ad o2 = u) (kz_B D ty A) A) args s 0 0 A) (F0 m 222 ls []) := by
  have C0 := C
  obtain ⟨hx, hb, hr, hts, hown, hlocks, hml, hK, hN, hE, hA⟩ := C
  unfold zX2_valueOf_s18_l_s21_222 at h
  refine lv_aload_n hx hb dX2_valueOf_222 rfl (lv_at hl 0 rfl) ?_
  refine va_get (D := D) (ci := 2) (v := .ref (ad 19)) (C := RX2) (T := TX2) (N := 2) hx hb hts u9_wsX2_valueOf_X2 hown hK hP 18 rfl rfl 0 (by decide) (hts (.fieldLink RX2 9 "TurnedFloors$Machine" "stack" "[I") f9_wsX2_valueOf_387) (fun _ h9 => h9) rfl dX2_valueOf_223 ?_
  refine lv_iload hx hb dX2_valueOf_226 (lv_at hl 3 rfl) ?_
  refine lv_iconst (v := 1) hx hb dX2_valueOf_228 (by decide) ?_
  refine lv_isub hx hb dX2_valueOf_229 ?_
  obtain ⟨g1, h⟩ := dG_some h
  refine va_iald hx hb hK hP 19 0 rfl rfl (dg_in g1) dX2_valueOf_230 ?_
  obtain ⟨v2, ev2, h⟩ := dL_some h
  refine kz_topi v2 ev2 ?_
  refine lv_iload hx hb dX2_valueOf_231 (lv_at hl 7 rfl) ?_
  refine lv_bipush (v := 12) hx hb dX2_valueOf_233 (by decide) ?_
  refine lv_icmp_ne (tgt := 242) hx hb dX2_valueOf_235 (by decide) (fun c9 => ?_) (fun c9 => ?_)
  · rw [if_neg c9] at h
    refine lv_iconst (v := 0) hx hb dX2_valueOf_242 (by decide) ?_
    exact WX2_valueOf_s18_l_s21_243 C0 hk32 _ _ _ _ _ _ _ _ _ _ _ _ h hP hD hS (lv_sub hl [0, 1, 2, 3, 4, 5, 6, 8] rfl)
  · rw [if_pos c9] at h
    refine lv_iconst (v := 1) hx hb dX2_valueOf_238 (by decide) ?_
    refine lv_goto (tgt := 243) hx hb dX2_valueOf_239 (by decide) ?_
    exact WX2_valueOf_s18_l_s21_243 C0 hk32 _ _ _ _ _ _ _ _ _ _ _ _ h hP hD hS (lv_sub hl [0, 1, 2, 3, 4, 5, 6, 8] rfl)
set_option maxHeartbeats 4000000 in
set_option maxRecDepth 100000 in
theorem WX2_valueOf_s18_l_s21_171 {p : Program} {l : Launch} {e : Env} {s : State} {m : MethodId} {args : Array Value} {below : List Frame} {meth : Method} {c : Code} {D : va_G} {ty : Nat → ClassId} {eo : Nat → Nat} {A : Nat → Prop} {ad : Nat → Nat} {o1 : Int32} {o2 : dK} (C : dc_C p s m args meth c cX2_valueOf (some .int) 13 RX2 wsX2_valueOf D ty eo A) {k32 : dK → Int32 → Int32 → Int32 → Int32 → Int32 → Option (Int32 × dK)} (hk32 : ∀ (q : dK) (x1 : Int32) (x5 : Int32) (x6 : Int32) (x7 : Int32) (x8 : Int32) (H : Heap) (locs : List Loc) (ls : Array Slot), k32 q x1 x5 x6 x7 x8 = some (o1, o2) → va_P D vwCl (wF ty ad q) H → va_D A (wF ty ad q) → va_S A s.heap H locs → lv_has ls 13 [(0, .ref (ad 18)), (1, .ref (ad (63 + 7 * dLi x1))), (4, .ref (ad 21)), (5, .int x5), (6, .int x6), (7, .int x7), (8, .int x8)] → W p l e ({ frames := 1, cells := 0, slots := 0, locals := 27 } : Room) s m args below meth c H locs 0 0 (MQ below (va_Qi (fun (r : Int32) (u : va_W) => o1 = r ∧ wF ty ad o2 = u) (kz_B D ty A) A) args s 0 0 A) (F0 m 32 ls [])) (q : dK) (x1 : Int32) (x5 : Int32) (x6 : Int32) (x7 : Int32) (x8 : Int32) (y0 : Int32) (y1 : Int32) (H : Heap) (locs : List Loc) (ls : Array Slot) (h : zX2_valueOf_s18_l_s21_171 k32 q x1 x5 x6 x7 x8 y0 y1 = some (o1, o2)) (hP : va_P D vwCl (wF ty ad q) H) (hD : va_D A (wF ty ad q)) (hS : va_S A s.heap H locs) (hl : lv_has ls 13 [(0, .ref (ad 18)), (1, .ref (ad (63 + 7 * dLi x1))), (4, .ref (ad 21)), (5, .int x5), (6, .int x6), (7, .int x7), (8, .int x8)]) : W p l e ({ frames := 1, cells := 0, slots := 0, locals := 27 } : Room) s m args below meth c H locs 0 0 (MQ below (va_Qi (fun (r : Int32) (u : va_W) => o1 = r ∧ wF ty ad o2 = u) (kz_B D ty A) A) args s 0 0 A) (F0 m 171 ls [.int y0, .int y1, .ref (ad 19)]) := by
  have C0 := C
  obtain ⟨hx, hb, hr, hts, hown, hlocks, hml, hK, hN, hE, hA⟩ := C
  unfold zX2_valueOf_s18_l_s21_171 at h
  obtain ⟨g1, h⟩ := dG_some h
  refine va_iast hx hb hK hP hD hS 19 0 rfl rfl (dg_in g1) dX2_valueOf_171 (fun H locs hp hd hs => ?_)
  obtain ⟨q2, eq2, h⟩ := dL_some h
  refine kz_re (w2 := wF ty ad q2) hp hd hs (by rw [← eq2]; exact wF_a19 ty ad q (Int32.toNatClampNeg y1) y0) ?_
  clear hp hd hs hP hD hS
  intro hP hD hS
  refine lv_iinc (v := x5 + 1) (lv' := [(5, .int (x5 + 1)), (0, .ref (ad 18)), (1, .ref (ad (63 + 7 * dLi x1))), (4, .ref (ad 21)), (6, .int x6), (7, .int x7), (8, .int x8)]) hx hb dX2_valueOf_172 hl (k := 3) rfl rfl (by decide) rfl (fun ls hl => ?_)
  refine lv_goto (tgt := 322) hx hb dX2_valueOf_175 (by decide) ?_
  exact WX2_valueOf_s18_l_s21_322 C0 hk32 _ _ _ _ _ _ _ _ _ h hP hD hS (lv_sub hl [1, 2, 3, 0, 4, 5, 6] rfl)
set_option maxHeartbeats 4000000 in
set_option maxRecDepth 100000 in
theorem WX2_valueOf_s18_l_s21_150 {p : Program} {l : Launch} {e : Env} {s : State} {m : MethodId} {args : Array Value} {below : List Frame} {meth : Method} {c : Code} {D : va_G} {ty : Nat → ClassId} {eo : Nat → Nat} {A : Nat → Prop} {ad : Nat → Nat} {o1 : Int32} {o2 : dK} (C : dc_C p s m args meth c cX2_valueOf (some .int) 13 RX2 wsX2_valueOf D ty eo A) {k32 : dK → Int32 → Int32 → Int32 → Int32 → Int32 → Option (Int32 × dK)} (hk32 : ∀ (q : dK) (x1 : Int32) (x5 : Int32) (x6 : Int32) (x7 : Int32) (x8 : Int32) (H : Heap) (locs : List Loc) (ls : Array Slot), k32 q x1 x5 x6 x7 x8 = some (o1, o2) → va_P D vwCl (wF ty ad q) H → va_D A (wF ty ad q) → va_S A s.heap H locs → lv_has ls 13 [(0, .ref (ad 18)), (1, .ref (ad (63 + 7 * dLi x1))), (4, .ref (ad 21)), (5, .int x5), (6, .int x6), (7, .int x7), (8, .int x8)] → W p l e ({ frames := 1, cells := 0, slots := 0, locals := 27 } : Room) s m args below meth c H locs 0 0 (MQ below (va_Qi (fun (r : Int32) (u : va_W) => o1 = r ∧ wF ty ad o2 = u) (kz_B D ty A) A) args s 0 0 A) (F0 m 32 ls [])) (q : dK) (x1 : Int32) (x5 : Int32) (x6 : Int32) (x7 : Int32) (x8 : Int32) (x9 : Int32) (x10 : Int32) (H : Heap) (locs : List Loc) (ls : Array Slot) (h : zX2_valueOf_s18_l_s21_150 k32 q x1 x5 x6 x7 x8 x9 x10 = some (o1, o2)) (hP : va_P D vwCl (wF ty ad q) H) (hD : va_D A (wF ty ad q)) (hS : va_S A s.heap H locs) (hl : lv_has ls 13 [(0, .ref (ad 18)), (1, .ref (ad (63 + 7 * dLi x1))), (4, .ref (ad 21)), (5, .int x5), (6, .int x6), (7, .int x7), (8, .int x8), (9, .int x9), (10, .int x10)]) : W p l e ({ frames := 1, cells := 0, slots := 0, locals := 27 } : Room) s m args below meth c H locs 0 0 (MQ below (va_Qi (fun (r : Int32) (u : va_W) => o1 = r ∧ wF ty ad o2 = u) (kz_B D ty A) A) args s 0 0 A) (F0 m 150 ls []) := by
  have C0 := C
  obtain ⟨hx, hb, hr, hts, hown, hlocks, hml, hK, hN, hE, hA⟩ := C
  unfold zX2_valueOf_s18_l_s21_150 at h
  refine lv_aload_n hx hb dX2_valueOf_150 rfl (lv_at hl 0 rfl) ?_
  refine va_get (D := D) (ci := 2) (v := .ref (ad 19)) (C := RX2) (T := TX2) (N := 2) hx hb hts u9_wsX2_valueOf_X2 hown hK hP 18 rfl rfl 0 (by decide) (hts (.fieldLink RX2 9 "TurnedFloors$Machine" "stack" "[I") f9_wsX2_valueOf_387) (fun _ h9 => h9) rfl dX2_valueOf_151 ?_
  refine lv_iload hx hb dX2_valueOf_154 (lv_at hl 3 rfl) ?_
  refine lv_iload hx hb dX2_valueOf_156 (lv_at hl 7 rfl) ?_
  refine lv_if_ne (tgt := 166) hx hb dX2_valueOf_158 (by decide) (fun c9 => ?_) (fun c9 => ?_)
  · rw [if_neg c9] at h
    refine lv_aload hx hb dX2_valueOf_166 (lv_at hl 2 rfl) ?_
    refine lv_iload hx hb dX2_valueOf_168 (lv_at hl 8 rfl) ?_
    obtain ⟨g1, h⟩ := dG_some h
    refine va_iald hx hb hK hP 21 0 rfl rfl (dg_in g1) dX2_valueOf_170 ?_
    obtain ⟨v2, ev2, h⟩ := dL_some h
    refine kz_topi v2 ev2 ?_
    exact WX2_valueOf_s18_l_s21_171 C0 hk32 _ _ _ _ _ _ _ _ _ _ _ h hP hD hS (lv_sub hl [0, 1, 2, 3, 4, 5, 6] rfl)
  · rw [if_pos c9] at h
    refine lv_iload hx hb dX2_valueOf_161 (lv_at hl 8 rfl) ?_
    refine lv_goto (tgt := 171) hx hb dX2_valueOf_163 (by decide) ?_
    exact WX2_valueOf_s18_l_s21_171 C0 hk32 _ _ _ _ _ _ _ _ _ _ _ h hP hD hS (lv_sub hl [0, 1, 2, 3, 4, 5, 6] rfl)
set_option maxHeartbeats 4000000 in
set_option maxRecDepth 100000 in
theorem WX2_valueOf_s18_l_s21_139 {p : Program} {l : Launch} {e : Env} {s : State} {m : MethodId} {args : Array Value} {below : List Frame} {meth : Method} {c : Code} {D : va_G} {ty : Nat → ClassId} {eo : Nat → Nat} {A : Nat → Prop} {ad : Nat → Nat} {o1 : Int32} {o2 : dK} (C : dc_C p s m args meth c cX2_valueOf (some .int) 13 RX2 wsX2_valueOf D ty eo A) {k32 : dK → Int32 → Int32 → Int32 → Int32 → Int32 → Option (Int32 × dK)} (hk32 : ∀ (q : dK) (x1 : Int32) (x5 : Int32) (x6 : Int32) (x7 : Int32) (x8 : Int32) (H : Heap) (locs : List Loc) (ls : Array Slot), k32 q x1 x5 x6 x7 x8 = some (o1, o2) → va_P D vwCl (wF ty ad q) H → va_D A (wF ty ad q) → va_S A s.heap H locs → lv_has ls 13 [(0, .ref (ad 18)), (1, .ref (ad (63 + 7 * dLi x1))), (4, .ref (ad 21)), (5, .int x5), (6, .int x6), (7, .int x7), (8, .int x8)] → W p l e ({ frames := 1, cells := 0, slots := 0, locals := 27 } : Room) s m args below meth c H locs 0 0 (MQ below (va_Qi (fun (r : Int32) (u : va_W) => o1 = r ∧ wF ty ad o2 = u) (kz_B D ty A) A) args s 0 0 A) (F0 m 32 ls [])) (q : dK) (x1 : Int32) (x5 : Int32) (x6 : Int32) (x7 : Int32) (x8 : Int32) (x9 : Int32) (x10 : Int32) (H : Heap) (locs : List Loc) (ls : Array Slot) (h : zX2_valueOf_s18_l_s21_139 k32 q x1 x5 x6 x7 x8 x9 x10 = some (o1, o2)) (hP : va_P D vwCl (wF ty ad q) H) (hD : va_D A (wF ty ad q)) (hS : va_S A s.heap H locs) (hl : lv_has ls 13 [(0, .ref (ad 18)), (1, .ref (ad (63 + 7 * dLi x1))), (4, .ref (ad 21)), (5, .int x5), (6, .int x6), (7, .int x7), (8, .int x8), (9, .int x9), (10, .int x10)]) : W p l e ({ frames := 1, cells := 0, slots := 0, locals := 27 } : Room) s m args below meth c H locs 0 0 (MQ below (va_Qi (fun (r : Int32) (u : va_W) => o1 = r ∧ wF ty ad o2 = u) (kz_B D ty A) A) args s 0 0 A) (F0 m 139 ls []) := by
  have C0 := C
  obtain ⟨hx, hb, hr, hts, hown, hlocks, hml, hK, hN, hE, hA⟩ := C
  unfold zX2_valueOf_s18_l_s21_139 at h
  refine lv_iload hx hb dX2_valueOf_139 (lv_at hl 7 rfl) ?_
  refine lv_if_eq (tgt := 150) hx hb dX2_valueOf_141 (by decide) (fun c9 => ?_) (fun c9 => ?_)
  · rw [if_pos c9] at h
    exact WX2_valueOf_s18_l_s21_150 C0 hk32 _ _ _ _ _ _ _ _ _ _ _ h hP hD hS (lv_sub hl [0, 1, 2, 3, 4, 5, 6, 7, 8] rfl)
  · rw [if_neg c9] at h
    refine lv_iload hx hb dX2_valueOf_144 (lv_at hl 7 rfl) ?_
    refine lv_iconst (v := 1) hx hb dX2_valueOf_146 (by decide) ?_
    refine lv_icmp_ne (tgt := 178) hx hb dX2_valueOf_147 (by decide) (fun c9 => ?_) (fun c9 => ?_)
    · rw [if_neg c9] at h
      refine lv_iload hx hb dX2_valueOf_178 (lv_at hl 7 rfl) ?_
      refine lv_bipush (v := 10) hx hb dX2_valueOf_180 (by decide) ?_
      refine lv_icmp_ne (tgt := 208) hx hb dX2_valueOf_182 (by decide) (fun c9 => ?_) (fun c9 => ?_)
      · rw [if_neg c9] at h
        refine lv_iload hx hb dX2_valueOf_208 (lv_at hl 7 rfl) ?_
        refine lv_bipush (v := 11) hx hb dX2_valueOf_210 (by decide) ?_
        refine lv_icmp_eq (tgt := 222) hx hb dX2_valueOf_212 (by decide) (fun c9 => ?_) (fun c9 => ?_)
        · rw [if_pos c9] at h
          exact WX2_valueOf_s18_l_s21_222 C0 hk32 _ _ _ _ _ _ _ _ _ _ _ h hP hD hS (lv_sub hl [0, 1, 2, 3, 4, 5, 6, 7, 8] rfl)
        · rw [if_neg c9] at h
          refine lv_iload hx hb dX2_valueOf_215 (lv_at hl 7 rfl) ?_
          refine lv_bipush (v := 12) hx hb dX2_valueOf_217 (by decide) ?_
          refine lv_icmp_ne (tgt := 286) hx hb dX2_valueOf_219 (by decide) (fun c9 => ?_) (fun c9 => ?_)
          · rw [if_neg c9] at h
            refine lv_iinc (v := x5 + (-1)) (lv' := [(5, .int (x5 + (-1))), (0, .ref (ad 18)), (1, .ref (ad (63 + 7 * dLi x1))), (4, .ref (ad 21)), (6, .int x6), (7, .int x7), (8, .int x8), (9, .int x9), (10, .int x10)]) hx hb dX2_valueOf_286 hl (k := 3) rfl rfl (by decide) rfl (fun ls hl => ?_)
            refine lv_aload_n hx hb dX2_valueOf_289 rfl (lv_at hl 1 rfl) ?_
            refine va_get (D := D) (ci := 2) (v := .ref (ad 19)) (C := RX2) (T := TX2) (N := 2) hx hb hts u9_wsX2_valueOf_X2 hown hK hP 18 rfl rfl 0 (by decide) (hts (.fieldLink RX2 9 "TurnedFloors$Machine" "stack" "[I") f9_wsX2_valueOf_387) (fun _ h9 => h9) rfl dX2_valueOf_290 ?_
            refine lv_iload hx hb dX2_valueOf_293 (lv_at hl 0 rfl) ?_
            refine lv_iconst (v := 1) hx hb dX2_valueOf_295 (by decide) ?_
            refine lv_isub hx hb dX2_valueOf_296 ?_
            refine lv_aload_n hx hb dX2_valueOf_297 rfl (lv_at hl 1 rfl) ?_
            refine lv_iload hx hb dX2_valueOf_298 (lv_at hl 7 rfl) ?_
            refine lv_aload_n hx hb dX2_valueOf_300 rfl (lv_at hl 1 rfl) ?_
            refine va_get (D := D) (ci := 2) (v := .ref (ad 19)) (C := RX2) (T := TX2) (N := 2) hx hb hts u9_wsX2_valueOf_X2 hown hK hP 18 rfl rfl 0 (by decide) (hts (.fieldLink RX2 9 "TurnedFloors$Machine" "stack" "[I") f9_wsX2_valueOf_387) (fun _ h9 => h9) rfl dX2_valueOf_301 ?_
            refine lv_iload hx hb dX2_valueOf_304 (lv_at hl 0 rfl) ?_
            refine lv_iconst (v := 1) hx hb dX2_valueOf_306 (by decide) ?_
            refine lv_isub hx hb dX2_valueOf_307 ?_
            obtain ⟨g1, h⟩ := dG_some h
            refine va_iald hx hb hK hP 19 0 rfl rfl (dg_in g1) dX2_valueOf_308 ?_
            obtain ⟨v2, ev2, h⟩ := dL_some h
            refine kz_topi v2 ev2 ?_
            refine lv_i2l (v := Int32.toInt64 v2) hx hb dX2_valueOf_309 rfl ?_
            refine lv_aload_n hx hb dX2_valueOf_310 rfl (lv_at hl 1 rfl) ?_
            refine va_get (D := D) (ci := 2) (v := .ref (ad 19)) (C := RX2) (T := TX2) (N := 2) hx hb hts u9_wsX2_valueOf_X2 hown hK hP 18 rfl rfl 0 (by decide) (hts (.fieldLink RX2 9 "TurnedFloors$Machine" "stack" "[I") f9_wsX2_valueOf_387) (fun _ h9 => h9) rfl dX2_valueOf_311 ?_
            refine lv_iload hx hb dX2_valueOf_314 (lv_at hl 0 rfl) ?_
            obtain ⟨g3, h⟩ := dG_some h
            refine va_iald hx hb hK hP 19 0 rfl rfl (dg_in g3) dX2_valueOf_316 ?_
            obtain ⟨v4, ev4, h⟩ := dL_some h
            refine kz_topi v4 ev4 ?_
            refine lv_i2l (v := Int32.toInt64 v4) hx hb dX2_valueOf_317 rfl ?_
            obtain ⟨r5, q7, h6, h⟩ := dB_some h
            refine dw_ki (va_runV (As := [.int x9, .long (Int32.toInt64 v2), .long (Int32.toInt64 v4)]) (rest := [.int ((x5 + (-1)) - 1 : Int32), .ref (ad 19)]) ⟨hx, hb, hml, hown, hts⟩ (qX2_join_s18 l D ty eo _ ad q x9 (Int32.toInt64 v2) (Int32.toInt64 v4) r5 q7 h6) (cwV 3 hts gX2_valueOf_X2_join rfl rfl rfl hd_X2_join_v ⟨Nat.le_of_ble_eq_true rfl, Nat.le_of_ble_eq_true rfl⟩) (pvF_2_18 hK hN hE hP hD hS hA) rfl rfl hl.1 rfl (lv_room (Nat.le_of_ble_eq_true rfl)) dX2_valueOf_318 ⟨Nat.le_of_ble_eq_true rfl, Nat.le_of_ble_eq_true rfl⟩) hD hS hA (fun r9 u9 H locs hw hp hd hs => ?_)
            clear hP hD hS
            obtain ⟨rfl, rfl⟩ := hw
            have hP := hp; have hD := hd; have hS := hs; clear hp hd hs
            obtain ⟨g8, h⟩ := dG_some h
            refine va_iast hx hb hK hP hD hS 19 0 rfl rfl (dg_in g8) dX2_valueOf_321 (fun H locs hp hd hs => ?_)
            obtain ⟨q9, eq9, h⟩ := dL_some h
            refine kz_re (w2 := wF ty ad q9) hp hd hs (by rw [← eq9]; exact wF_a19 ty ad q7 (Int32.toNatClampNeg ((x5 + (-1)) - 1 : Int32)) r5) ?_
            clear hp hd hs hP hD hS
            intro hP hD hS
            exact WX2_valueOf_s18_l_s21_322 C0 hk32 _ _ _ _ _ _ _ _ _ h hP hD hS (lv_sub hl [1, 2, 3, 0, 4, 5, 6] rfl)
          · rw [if_pos c9] at h
            exact WX2_valueOf_s18_l_s21_222 C0 hk32 _ _ _ _ _ _ _ _ _ _ _ h hP hD hS (lv_sub hl [0, 1, 2, 3, 4, 5, 6, 7, 8] rfl)
      · rw [if_pos c9] at h
        refine lv_aload_n hx hb dX2_valueOf_185 rfl (lv_at hl 0 rfl) ?_
        refine va_get (D := D) (ci := 2) (v := .ref (ad 19)) (C := RX2) (T := TX2) (N := 2) hx hb hts u9_wsX2_valueOf_X2 hown hK hP 18 rfl rfl 0 (by decide) (hts (.fieldLink RX2 9 "TurnedFloors$Machine" "stack" "[I") f9_wsX2_valueOf_387) (fun _ h9 => h9) rfl dX2_valueOf_186 ?_
        refine lv_iload hx hb dX2_valueOf_189 (lv_at hl 3 rfl) ?_
        refine lv_iconst (v := 1) hx hb dX2_valueOf_191 (by decide) ?_
        refine lv_isub hx hb dX2_valueOf_192 ?_
        refine lv_iconst (v := 1) hx hb dX2_valueOf_193 (by decide) ?_
        refine lv_aload_n hx hb dX2_valueOf_194 rfl (lv_at hl 0 rfl) ?_
        refine va_get (D := D) (ci := 2) (v := .ref (ad 19)) (C := RX2) (T := TX2) (N := 2) hx hb hts u9_wsX2_valueOf_X2 hown hK hP 18 rfl rfl 0 (by decide) (hts (.fieldLink RX2 9 "TurnedFloors$Machine" "stack" "[I") f9_wsX2_valueOf_387) (fun _ h9 => h9) rfl dX2_valueOf_195 ?_
        refine lv_iload hx hb dX2_valueOf_198 (lv_at hl 3 rfl) ?_
        refine lv_iconst (v := 1) hx hb dX2_valueOf_200 (by decide) ?_
        refine lv_isub hx hb dX2_valueOf_201 ?_
        obtain ⟨g10, h⟩ := dG_some h
        refine va_iald hx hb hK hP 19 0 rfl rfl (dg_in g10) dX2_valueOf_202 ?_
        obtain ⟨v11, ev11, h⟩ := dL_some h
        refine kz_topi v11 ev11 ?_
        refine lv_isub hx hb dX2_valueOf_203 ?_
        obtain ⟨g12, h⟩ := dG_some h
        refine va_iast hx hb hK hP hD hS 19 0 rfl rfl (dg_in g12) dX2_valueOf_204 (fun H locs hp hd hs => ?_)
        obtain ⟨q13, eq13, h⟩ := dL_some h
        refine kz_re (w2 := wF ty ad q13) hp hd hs (by rw [← eq13]; exact wF_a19 ty ad q (Int32.toNatClampNeg (x5 - 1 : Int32)) (1 - v11 : Int32)) ?_
        clear hp hd hs hP hD hS
        intro hP hD hS
        refine lv_goto (tgt := 322) hx hb dX2_valueOf_205 (by decide) ?_
        exact WX2_valueOf_s18_l_s21_322 C0 hk32 _ _ _ _ _ _ _ _ _ h hP hD hS (lv_sub hl [0, 1, 2, 3, 4, 5, 6] rfl)
    · rw [if_pos c9] at h
      exact WX2_valueOf_s18_l_s21_150 C0 hk32 _ _ _ _ _ _ _ _ _ _ _ h hP hD hS (lv_sub hl [0, 1, 2, 3, 4, 5, 6, 7, 8] rfl)
set_option maxHeartbeats 4000000 in
set_option maxRecDepth 100000 in
theorem WX2_valueOf_s18_l_s21_131 {p : Program} {l : Launch} {e : Env} {s : State} {m : MethodId} {args : Array Value} {below : List Frame} {meth : Method} {c : Code} {D : va_G} {ty : Nat → ClassId} {eo : Nat → Nat} {A : Nat → Prop} {ad : Nat → Nat} {o1 : Int32} {o2 : dK} (C : dc_C p s m args meth c cX2_valueOf (some .int) 13 RX2 wsX2_valueOf D ty eo A) {k32 : dK → Int32 → Int32 → Int32 → Int32 → Int32 → Option (Int32 × dK)} (hk32 : ∀ (q : dK) (x1 : Int32) (x5 : Int32) (x6 : Int32) (x7 : Int32) (x8 : Int32) (H : Heap) (locs : List Loc) (ls : Array Slot), k32 q x1 x5 x6 x7 x8 = some (o1, o2) → va_P D vwCl (wF ty ad q) H → va_D A (wF ty ad q) → va_S A s.heap H locs → lv_has ls 13 [(0, .ref (ad 18)), (1, .ref (ad (63 + 7 * dLi x1))), (4, .ref (ad 21)), (5, .int x5), (6, .int x6), (7, .int x7), (8, .int x8)] → W p l e ({ frames := 1, cells := 0, slots := 0, locals := 27 } : Room) s m args below meth c H locs 0 0 (MQ below (va_Qi (fun (r : Int32) (u : va_W) => o1 = r ∧ wF ty ad o2 = u) (kz_B D ty A) A) args s 0 0 A) (F0 m 32 ls [])) (q : dK) (x1 : Int32) (x5 : Int32) (x6 : Int32) (x7 : Int32) (x8 : Int32) (H : Heap) (locs : List Loc) (ls : Array Slot) (h : zX2_valueOf_s18_l_s21_131 k32 q x1 x5 x6 x7 x8 = some (o1, o2)) (hP : va_P D vwCl (wF ty ad q) H) (hD : va_D A (wF ty ad q)) (hS : va_S A s.heap H locs) (hl : lv_has ls 13 [(0, .ref (ad 18)), (1, .ref (ad (63 + 7 * dLi x1))), (4, .ref (ad 21)), (5, .int x5), (6, .int x6), (7, .int x7), (8, .int x8)]) : W p l e ({ frames := 1, cells := 0, slots := 0, locals := 27 } : Room) s m args below meth c H locs 0 0 (MQ below (va_Qi (fun (r : Int32) (u : va_W) => o1 = r ∧ wF ty ad o2 = u) (kz_B D ty A) A) args s 0 0 A) (F0 m 131 ls []) := by
  have C0 := C
  obtain ⟨hx, hb, hr, hts, hown, hlocks, hml, hK, hN, hE, hA⟩ := C
  unfold zX2_valueOf_s18_l_s21_131 at h
  refine lv_aload_n hx hb dX2_valueOf_131 rfl (lv_at hl 0 rfl) ?_
  refine lv_iconst (v := 1) hx hb dX2_valueOf_132 (by decide) ?_
  refine va_put (D := D) (ci := 2) (v := .int 1) (ty := .boolean) (C := RX2) (T := TX2) (N := 2) hx hb hts u9_wsX2_valueOf_X2 tyX2 tyX2_ok nmX2 hown hK hP hD hS 18 rfl rfl 1 (by decide) (hts (.fieldLink RX2 13 "TurnedFloors$Machine" "broken" "Z") f9_wsX2_valueOf_386) (fun _ h9 => h9) rfl (by decide +kernel) rfl rfl (Nat.le_of_ble_eq_true rfl) dX2_valueOf_133 (fun H locs hp hd hs => ?_)
  obtain ⟨q1, eq1, h⟩ := dL_some h
  refine kz_re (w2 := wF ty ad q1) hp hd hs (by rw [← eq1]; exact wF_f18_1 ty ad q 1) ?_
  clear hp hd hs hP hD hS
  intro hP hD hS
  refine lv_goto (tgt := 322) hx hb dX2_valueOf_136 (by decide) ?_
  exact WX2_valueOf_s18_l_s21_322 C0 hk32 _ _ _ _ _ _ _ _ _ h hP hD hS (lv_sub hl [0, 1, 2, 3, 4, 5, 6] rfl)
set_option maxHeartbeats 4000000 in
set_option maxRecDepth 100000 in
theorem WX2_valueOf_s18_l_s21_98 {p : Program} {l : Launch} {e : Env} {s : State} {m : MethodId} {args : Array Value} {below : List Frame} {meth : Method} {c : Code} {D : va_G} {ty : Nat → ClassId} {eo : Nat → Nat} {A : Nat → Prop} {ad : Nat → Nat} {o1 : Int32} {o2 : dK} (C : dc_C p s m args meth c cX2_valueOf (some .int) 13 RX2 wsX2_valueOf D ty eo A) {k32 : dK → Int32 → Int32 → Int32 → Int32 → Int32 → Option (Int32 × dK)} (hk32 : ∀ (q : dK) (x1 : Int32) (x5 : Int32) (x6 : Int32) (x7 : Int32) (x8 : Int32) (H : Heap) (locs : List Loc) (ls : Array Slot), k32 q x1 x5 x6 x7 x8 = some (o1, o2) → va_P D vwCl (wF ty ad q) H → va_D A (wF ty ad q) → va_S A s.heap H locs → lv_has ls 13 [(0, .ref (ad 18)), (1, .ref (ad (63 + 7 * dLi x1))), (4, .ref (ad 21)), (5, .int x5), (6, .int x6), (7, .int x7), (8, .int x8)] → W p l e ({ frames := 1, cells := 0, slots := 0, locals := 27 } : Room) s m args below meth c H locs 0 0 (MQ below (va_Qi (fun (r : Int32) (u : va_W) => o1 = r ∧ wF ty ad o2 = u) (kz_B D ty A) A) args s 0 0 A) (F0 m 32 ls [])) (q : dK) (x1 : Int32) (x5 : Int32) (x6 : Int32) (x7 : Int32) (x8 : Int32) (x9 : Int32) (x10 : Int32) (y0 : Int32) (H : Heap) (locs : List Loc) (ls : Array Slot) (h : zX2_valueOf_s18_l_s21_98 k32 q x1 x5 x6 x7 x8 x9 x10 y0 = some (o1, o2)) (hP : va_P D vwCl (wF ty ad q) H) (hD : va_D A (wF ty ad q)) (hS : va_S A s.heap H locs) (hl : lv_has ls 13 [(0, .ref (ad 18)), (1, .ref (ad (63 + 7 * dLi x1))), (4, .ref (ad 21)), (5, .int x5), (6, .int x6), (7, .int x7), (8, .int x8), (9, .int x9), (10, .int x10)]) : W p l e ({ frames := 1, cells := 0, slots := 0, locals := 27 } : Room) s m args below meth c H locs 0 0 (MQ below (va_Qi (fun (r : Int32) (u : va_W) => o1 = r ∧ wF ty ad o2 = u) (kz_B D ty A) A) args s 0 0 A) (F0 m 98 ls [.int y0]) := by
  have C0 := C
  obtain ⟨hx, hb, hr, hts, hown, hlocks, hml, hK, hN, hE, hA⟩ := C
  unfold zX2_valueOf_s18_l_s21_98 at h
  refine lv_istore (lv' := [(11, .int y0), (0, .ref (ad 18)), (1, .ref (ad (63 + 7 * dLi x1))), (4, .ref (ad 21)), (5, .int x5), (6, .int x6), (7, .int x7), (8, .int x8), (9, .int x9), (10, .int x10)]) hx hb dX2_valueOf_98 hl (by decide) rfl (fun ls hl => ?_)
  refine lv_iinc (v := x6 + 1) (lv' := [(6, .int (x6 + 1)), (11, .int y0), (0, .ref (ad 18)), (1, .ref (ad (63 + 7 * dLi x1))), (4, .ref (ad 21)), (5, .int x5), (7, .int x7), (8, .int x8), (9, .int x9), (10, .int x10)]) hx hb dX2_valueOf_100 hl (k := 5) rfl rfl (by decide) rfl (fun ls hl => ?_)
  refine lv_iload hx hb dX2_valueOf_103 (lv_at hl 5 rfl) ?_
  refine lv_iload hx hb dX2_valueOf_105 (lv_at hl 1 rfl) ?_
  refine lv_icmp_lt (tgt := 131) hx hb dX2_valueOf_107 (by decide) (fun c9 => ?_) (fun c9 => ?_)
  · rw [if_pos c9] at h
    exact WX2_valueOf_s18_l_s21_131 C0 hk32 _ _ _ _ _ _ _ _ _ h hP hD hS (lv_sub hl [2, 3, 4, 5, 0, 6, 7] rfl)
  · rw [if_neg c9] at h
    refine lv_iload hx hb dX2_valueOf_110 (lv_at hl 5 rfl) ?_
    refine lv_bipush (v := 64) hx hb dX2_valueOf_112 (by decide) ?_
    refine lv_icmp_ge (tgt := 131) hx hb dX2_valueOf_114 (by decide) (fun c9 => ?_) (fun c9 => ?_)
    · rw [if_pos c9] at h
      exact WX2_valueOf_s18_l_s21_131 C0 hk32 _ _ _ _ _ _ _ _ _ h hP hD hS (lv_sub hl [2, 3, 4, 5, 0, 6, 7] rfl)
    · rw [if_neg c9] at h
      refine lv_iload hx hb dX2_valueOf_117 (lv_at hl 8 rfl) ?_
      refine lv_iconst (v := 1) hx hb dX2_valueOf_119 (by decide) ?_
      refine lv_icmp_ne (tgt := 139) hx hb dX2_valueOf_120 (by decide) (fun c9 => ?_) (fun c9 => ?_)
      · rw [if_neg c9] at h
        exact WX2_valueOf_s18_l_s21_139 C0 hk32 _ _ _ _ _ _ _ _ _ _ _ h hP hD hS (lv_sub hl [2, 3, 4, 5, 0, 6, 7, 8, 9] rfl)
      · rw [if_pos c9] at h
        refine lv_iload hx hb dX2_valueOf_123 (lv_at hl 9 rfl) ?_
        refine lv_aload hx hb dX2_valueOf_125 (lv_at hl 4 rfl) ?_
        refine va_alen (v := 9) hx hb hK hP 21 0 rfl rfl rfl dX2_valueOf_127 ?_
        refine lv_icmp_lt (tgt := 139) hx hb dX2_valueOf_128 (by decide) (fun c9 => ?_) (fun c9 => ?_)
        · rw [if_pos c9] at h
          exact WX2_valueOf_s18_l_s21_139 C0 hk32 _ _ _ _ _ _ _ _ _ _ _ h hP hD hS (lv_sub hl [2, 3, 4, 5, 0, 6, 7, 8, 9] rfl)
        · rw [if_neg c9] at h
          exact WX2_valueOf_s18_l_s21_131 C0 hk32 _ _ _ _ _ _ _ _ _ h hP hD hS (lv_sub hl [2, 3, 4, 5, 0, 6, 7] rfl)
set_option maxHeartbeats 4000000 in
set_option maxRecDepth 100000 in
theorem WX2_valueOf_s18_l_s21_32b {p : Program} {l : Launch} {e : Env} {s : State} {m : MethodId} {args : Array Value} {below : List Frame} {meth : Method} {c : Code} {D : va_G} {ty : Nat → ClassId} {eo : Nat → Nat} {A : Nat → Prop} {ad : Nat → Nat} {o1 : Int32} {o2 : dK} (C : dc_C p s m args meth c cX2_valueOf (some .int) 13 RX2 wsX2_valueOf D ty eo A) {k32 : dK → Int32 → Int32 → Int32 → Int32 → Int32 → Option (Int32 × dK)} (hk32 : ∀ (q : dK) (x1 : Int32) (x5 : Int32) (x6 : Int32) (x7 : Int32) (x8 : Int32) (H : Heap) (locs : List Loc) (ls : Array Slot), k32 q x1 x5 x6 x7 x8 = some (o1, o2) → va_P D vwCl (wF ty ad q) H → va_D A (wF ty ad q) → va_S A s.heap H locs → lv_has ls 13 [(0, .ref (ad 18)), (1, .ref (ad (63 + 7 * dLi x1))), (4, .ref (ad 21)), (5, .int x5), (6, .int x6), (7, .int x7), (8, .int x8)] → W p l e ({ frames := 1, cells := 0, slots := 0, locals := 27 } : Room) s m args below meth c H locs 0 0 (MQ below (va_Qi (fun (r : Int32) (u : va_W) => o1 = r ∧ wF ty ad o2 = u) (kz_B D ty A) A) args s 0 0 A) (F0 m 32 ls [])) (q : dK) (x1 : Int32) (x5 : Int32) (x6 : Int32) (x7 : Int32) (x8 : Int32) (H : Heap) (locs : List Loc) (ls : Array Slot) (h : zX2_valueOf_s18_l_s21_32b k32 q x1 x5 x6 x7 x8 = some (o1, o2)) (hP : va_P D vwCl (wF ty ad q) H) (hD : va_D A (wF ty ad q)) (hS : va_S A s.heap H locs) (hl : lv_has ls 13 [(0, .ref (ad 18)), (1, .ref (ad (63 + 7 * dLi x1))), (4, .ref (ad 21)), (5, .int x5), (6, .int x6), (7, .int x7), (8, .int x8)]) : W p l e ({ frames := 1, cells := 0, slots := 0, locals := 27 } : Room) s m args below meth c H locs 0 0 (MQ below (va_Qi (fun (r : Int32) (u : va_W) => o1 = r ∧ wF ty ad o2 = u) (kz_B D ty A) A) args s 0 0 A) (F0 m 32 ls []) := by
  have C0 := C
  obtain ⟨hx, hb, hr, hts, hown, hlocks, hml, hK, hN, hE, hA⟩ := C
  unfold zX2_valueOf_s18_l_s21_32b at h
  refine lv_iload hx hb dX2_valueOf_32 (lv_at hl 6 rfl) ?_
  refine lv_iload hx hb dX2_valueOf_34 (lv_at hl 5 rfl) ?_
  refine lv_icmp_ge (tgt := 328) hx hb dX2_valueOf_36 (by decide) (fun c9 => ?_) (fun c9 => ?_)
  · rw [if_pos c9] at h
    exact WX2_valueOf_s18_l_s21_328 C0  _ _ _ _ h hP hD hS (lv_sub hl [0] rfl)
  · rw [if_neg c9] at h
    refine lv_iload hx hb dX2_valueOf_39 (lv_at hl 4 rfl) ?_
    refine lv_iload hx hb dX2_valueOf_41 (lv_at hl 5 rfl) ?_
    refine lv_icmp_ge (tgt := 328) hx hb dX2_valueOf_43 (by decide) (fun c9 => ?_) (fun c9 => ?_)
    · rw [if_pos c9] at h
      exact WX2_valueOf_s18_l_s21_328 C0  _ _ _ _ h hP hD hS (lv_sub hl [0] rfl)
    · rw [if_neg c9] at h
      refine lv_aload_n hx hb dX2_valueOf_46 rfl (lv_at hl 0 rfl) ?_
      refine va_get (D := D) (ci := 2) (v := .int (q.1 18 1)) (C := RX2) (T := TX2) (N := 2) hx hb hts u9_wsX2_valueOf_X2 hown hK hP 18 rfl rfl 1 (by decide) (hts (.fieldLink RX2 13 "TurnedFloors$Machine" "broken" "Z") f9_wsX2_valueOf_386) (fun _ h9 => h9) rfl dX2_valueOf_47 ?_
      refine lv_if_ne (tgt := 328) hx hb dX2_valueOf_50 (by decide) (fun c9 => ?_) (fun c9 => ?_)
      · rw [if_neg c9] at h
        exact WX2_valueOf_s18_l_s21_328 C0  _ _ _ _ h hP hD hS (lv_sub hl [0] rfl)
      · rw [if_pos c9] at h
        refine lv_aload_n hx hb dX2_valueOf_53 rfl (lv_at hl 1 rfl) ?_
        obtain ⟨g1, h⟩ := dG_some h
        refine va_getN (D := D) (ci := 7) (v := .ref (ad (63 + 7 * dLi x1 + 6))) (C := RX7) (T := TX7) (N := 8) hx hb hts u9_wsX2_valueOf_X7 hown hK hP _ (lw_o g1) rfl 5 (by decide) (hN.use (.fieldLinkNest "TurnedFloors$Machine" 17 "TurnedFloors$Text" "code" "[I" "TurnedFloors") nn9_4) (fun _ h9 => h9) rfl dX2_valueOf_54 ?_
        refine lv_iload hx hb dX2_valueOf_57 (lv_at hl 4 rfl) ?_
        obtain ⟨g2, h⟩ := dG_some h
        obtain ⟨g3, h⟩ := dG_some h
        refine va_iald hx hb hK hP _ 0 (lw_a6 g2) rfl (dg_in g3) dX2_valueOf_59 ?_
        obtain ⟨v4, ev4, h⟩ := dL_some h
        refine kz_topi v4 ev4 ?_
        refine lv_bipush (v := 15) hx hb dX2_valueOf_60 (by decide) ?_
        refine lv_iand hx hb dX2_valueOf_62 ?_
        refine lv_istore (lv' := [(9, .int (v4 &&& 15 : Int32)), (0, .ref (ad 18)), (1, .ref (ad (63 + 7 * dLi x1))), (4, .ref (ad 21)), (5, .int x5), (6, .int x6), (7, .int x7), (8, .int x8)]) hx hb dX2_valueOf_63 hl (by decide) rfl (fun ls hl => ?_)
        refine lv_aload_n hx hb dX2_valueOf_65 rfl (lv_at hl 2 rfl) ?_
        obtain ⟨g5, h⟩ := dG_some h
        refine va_getN (D := D) (ci := 7) (v := .ref (ad (63 + 7 * dLi x1 + 6))) (C := RX7) (T := TX7) (N := 8) hx hb hts u9_wsX2_valueOf_X7 hown hK hP _ (lw_o g5) rfl 5 (by decide) (hN.use (.fieldLinkNest "TurnedFloors$Machine" 17 "TurnedFloors$Text" "code" "[I" "TurnedFloors") nn9_4) (fun _ h9 => h9) rfl dX2_valueOf_66 ?_
        refine lv_iload hx hb dX2_valueOf_69 (lv_at hl 5 rfl) ?_
        obtain ⟨g6, h⟩ := dG_some h
        obtain ⟨g7, h⟩ := dG_some h
        refine va_iald hx hb hK hP _ 0 (lw_a6 g6) rfl (dg_in g7) dX2_valueOf_71 ?_
        obtain ⟨v8, ev8, h⟩ := dL_some h
        refine kz_topi v8 ev8 ?_
        refine lv_iconst (v := 4) hx hb dX2_valueOf_72 (by decide) ?_
        refine lv_ishr hx hb dX2_valueOf_73 ?_
        refine lv_istore (lv' := [(10, .int (v8 >>> ((4 : Int32) &&& 31) : Int32)), (9, .int (v4 &&& 15 : Int32)), (0, .ref (ad 18)), (1, .ref (ad (63 + 7 * dLi x1))), (4, .ref (ad 21)), (5, .int x5), (6, .int x6), (7, .int x7), (8, .int x8)]) hx hb dX2_valueOf_74 hl (by decide) rfl (fun ls hl => ?_)
        refine lv_iload hx hb dX2_valueOf_76 (lv_at hl 1 rfl) ?_
        refine lv_iconst (v := 1) hx hb dX2_valueOf_78 (by decide) ?_
        refine lv_icmp_gt (tgt := 86) hx hb dX2_valueOf_79 (by decide) (fun c9 => ?_) (fun c9 => ?_)
        · rw [if_pos c9] at h
          refine lv_iload hx hb dX2_valueOf_86 (lv_at hl 1 rfl) ?_
          refine lv_bipush (v := 10) hx hb dX2_valueOf_88 (by decide) ?_
          refine lv_icmp_ge (tgt := 97) hx hb dX2_valueOf_90 (by decide) (fun c9 => ?_) (fun c9 => ?_)
          · rw [if_pos c9] at h
            refine lv_iconst (v := 1) hx hb dX2_valueOf_97 (by decide) ?_
            exact WX2_valueOf_s18_l_s21_98 C0 hk32 _ _ _ _ _ _ _ _ _ _ _ _ h hP hD hS (lv_sub hl [2, 3, 4, 5, 6, 7, 8, 1, 0] rfl)
          · rw [if_neg c9] at h
            refine lv_iconst (v := 2) hx hb dX2_valueOf_93 (by decide) ?_
            refine lv_goto (tgt := 98) hx hb dX2_valueOf_94 (by decide) ?_
            exact WX2_valueOf_s18_l_s21_98 C0 hk32 _ _ _ _ _ _ _ _ _ _ _ _ h hP hD hS (lv_sub hl [2, 3, 4, 5, 6, 7, 8, 1, 0] rfl)
        · rw [if_neg c9] at h
          refine lv_iconst (v := 0) hx hb dX2_valueOf_82 (by decide) ?_
          refine lv_goto (tgt := 98) hx hb dX2_valueOf_83 (by decide) ?_
          exact WX2_valueOf_s18_l_s21_98 C0 hk32 _ _ _ _ _ _ _ _ _ _ _ _ h hP hD hS (lv_sub hl [2, 3, 4, 5, 6, 7, 8, 1, 0] rfl)
set_option maxHeartbeats 4000000 in
set_option maxRecDepth 100000 in
theorem WX2_valueOf_s18_l_s21_32 {p : Program} {l : Launch} {e : Env} {s : State} {m : MethodId} {args : Array Value} {below : List Frame} {meth : Method} {c : Code} {D : va_G} {ty : Nat → ClassId} {eo : Nat → Nat} {A : Nat → Prop} {ad : Nat → Nat} {o1 : Int32} {o2 : dK} (C : dc_C p s m args meth c cX2_valueOf (some .int) 13 RX2 wsX2_valueOf D ty eo A)   (n : Nat) (q : dK) (x1 : Int32) (x5 : Int32) (x6 : Int32) (x7 : Int32) (x8 : Int32) (H : Heap) (locs : List Loc) (ls : Array Slot) (h : zX2_valueOf_s18_l_s21_32  n q x1 x5 x6 x7 x8 = some (o1, o2)) (hP : va_P D vwCl (wF ty ad q) H) (hD : va_D A (wF ty ad q)) (hS : va_S A s.heap H locs) (hl : lv_has ls 13 [(0, .ref (ad 18)), (1, .ref (ad (63 + 7 * dLi x1))), (4, .ref (ad 21)), (5, .int x5), (6, .int x6), (7, .int x7), (8, .int x8)]) : W p l e ({ frames := 1, cells := 0, slots := 0, locals := 27 } : Room) s m args below meth c H locs 0 0 (MQ below (va_Qi (fun (r : Int32) (u : va_W) => o1 = r ∧ wF ty ad o2 = u) (kz_B D ty A) A) args s 0 0 A) (F0 m 32 ls []) := by
  exact dFix_W (F := fun k (a : dK × Int32 × Int32 × Int32 × Int32 × Int32) => zX2_valueOf_s18_l_s21_32b  (fun q x1 x5 x6 x7 x8 => k (q, x1, x5, x6, x7, x8)) a.1 a.2.1 a.2.2.1 a.2.2.2.1 a.2.2.2.2.1 a.2.2.2.2.2) (o := (o1, o2)) (P := fun (a : dK × Int32 × Int32 × Int32 × Int32 × Int32) H locs ls => va_P D vwCl (wF ty ad a.1) H ∧ va_D A (wF ty ad a.1) ∧ va_S A s.heap H locs ∧ lv_has ls 13 [(0, .ref (ad 18)), (1, .ref (ad (63 + 7 * dLi a.2.1))), (4, .ref (ad 21)), (5, .int a.2.2.1), (6, .int a.2.2.2.1), (7, .int a.2.2.2.2.1), (8, .int a.2.2.2.2.2)]) (G := fun H locs ls => W p l e ({ frames := 1, cells := 0, slots := 0, locals := 27 } : Room) s m args below meth c H locs 0 0 (MQ below (va_Qi (fun (r : Int32) (u : va_W) => o1 = r ∧ wF ty ad o2 = u) (kz_B D ty A) A) args s 0 0 A) (F0 m 32 ls []))
    (fun k hk a H locs ls h hp => WX2_valueOf_s18_l_s21_32b C  (fun q x1 x5 x6 x7 x8 H locs ls h h1 h2 h3 h4 => hk (q, x1, x5, x6, x7, x8) H locs ls h ⟨h1, h2, h3, h4⟩) a.1 a.2.1 a.2.2.1 a.2.2.2.1 a.2.2.2.2.1 a.2.2.2.2.2 H locs ls h hp.1 hp.2.1 hp.2.2.1 hp.2.2.2) n (q, x1, x5, x6, x7, x8) H locs ls h ⟨hP, hD, hS, hl⟩
set_option maxHeartbeats 4000000 in
set_option maxRecDepth 100000 in
theorem qX2_valueOf_s18_l_s21 (l : Launch) (D : va_G) (ty : Nat → ClassId) (eo : Nat → Nat) (sz : Nat) (ad : Nat → Nat) (q : dK) (p1 : Int32) (p2 : Int32) (p3 : Int32) (o1 : Int32) (o2 : dK) (h : zX2_valueOf_s18_l_s21 q p1 p2 p3 = some (o1, o2)) : Met l yX2_valueOf wsX2_valueOf ({ frames := 1, cells := 0, slots := 0, locals := 27 } : Room) (va_Pc [.ref (ad 18), .ref (ad (63 + 7 * dLi p1)), .int p2, .int p3, .ref (ad 21)] (kz_pre D ty eo (wF ty ad q) sz)) (va_Qi (fun (r : Int32) (u : va_W) => o1 = r ∧ wF ty ad o2 = u) (kz_B D ty (va_A (wF ty ad q) sz)) (va_A (wF ty ad q) sz)) 0 0 (va_A (wF ty ad q) sz) := by
  refine Met.ofW (cc := cX2_valueOf) (maxL := 13) (ret := (some .int)) (by decide) rfl ?_
  intro p e s m args below meth c s₁ B hml hv
  obtain ⟨rfl, hsz, hP, hK, hD0, hN, hE⟩ := hv
  have hx := B.exec
  have hb := B.bytes
  have hr := B.returns
  have hts := atoms_spec (ws := wsX2_valueOf) B.pre
  have hown : s.vm.findClass RX2 = some m.cls := findClass_of_methodNamed B.named
  have hlocks := B.notSynchronized
  subst hsz
  have hD := hD0.self (sz := s.heap.size)
  generalize hAe : va_A (wF ty ad q) s.heap.size = A at hD hE ⊢
  have hA : ∀ q : Nat, s.heap.size ≤ q → A q := fun q h => by rw [← hAe]; exact Or.inr h
  clear hAe
  have hS : va_S A s.heap s.heap [] := va_S.rf
  have hl := lv_entry ([.ref (ad 18), .ref (ad (63 + 7 * dLi p1)), .int p2, .int p3, .ref (ad 21)]) (n := 13) (Nat.le_of_ble_eq_true rfl)
  rw [lg_entry_eq]
  generalize (lg_sl ([.ref (ad 18), .ref (ad (63 + 7 * dLi p1)), .int p2, .int p3, .ref (ad 21)]) ++ List.replicate (13 - (lg_sl ([.ref (ad 18), .ref (ad (63 + 7 * dLi p1)), .int p2, .int p3, .ref (ad 21)])).length) Slot.unset).toArray = ls at hl ⊢
  have hl : lv_has ls 13 [(0, .ref (ad 18)), (1, .ref (ad (63 + 7 * dLi p1))), (2, .int p2), (3, .int p3), (4, .ref (ad 21))] := hl
  have C : dc_C p s m _ meth c cX2_valueOf (some .int) 13 RX2 wsX2_valueOf D ty eo A := ⟨hx, hb, hr, hts, hown, hlocks, hml, hK, hN, hE, hA⟩
  unfold zX2_valueOf_s18_l_s21 at h
  refine lv_aload_n hx hb dX2_valueOf_0 rfl (lv_at hl 0 rfl) ?_
  refine lv_iconst (v := 0) hx hb dX2_valueOf_1 (by decide) ?_
  refine va_put (D := D) (ci := 2) (v := .int 0) (ty := .boolean) (C := RX2) (T := TX2) (N := 2) hx hb hts u9_wsX2_valueOf_X2 tyX2 tyX2_ok nmX2 hown hK hP hD hS 18 rfl rfl 1 (by decide) (hts (.fieldLink RX2 13 "TurnedFloors$Machine" "broken" "Z") f9_wsX2_valueOf_386) (fun _ h9 => h9) rfl (by decide +kernel) rfl rfl (Nat.le_of_ble_eq_true rfl) dX2_valueOf_2 (fun H locs hp hd hs => ?_)
  obtain ⟨q1, eq1, h⟩ := dL_some h
  refine kz_re (w2 := wF ty ad q1) hp hd hs (by rw [← eq1]; exact wF_f18_1 ty ad q 0) ?_
  clear hp hd hs hP hD hS
  intro hP hD hS
  refine lv_aload_n hx hb dX2_valueOf_5 rfl (lv_at hl 0 rfl) ?_
  refine va_get (D := D) (ci := 2) (v := .ref (ad 19)) (C := RX2) (T := TX2) (N := 2) hx hb hts u9_wsX2_valueOf_X2 hown hK hP 18 rfl rfl 0 (by decide) (hts (.fieldLink RX2 9 "TurnedFloors$Machine" "stack" "[I") f9_wsX2_valueOf_387) (fun _ h9 => h9) rfl dX2_valueOf_6 ?_
  refine lv_iconst (v := 0) hx hb dX2_valueOf_9 (by decide) ?_
  refine lv_iconst (v := 1) hx hb dX2_valueOf_10 (by decide) ?_
  refine va_iast hx hb hK hP hD hS 19 0 rfl rfl (by simp only [vp_in]; decide) dX2_valueOf_11 (fun H locs hp hd hs => ?_)
  obtain ⟨q2, eq2, h⟩ := dL_some h
  refine kz_re (w2 := wF ty ad q2) hp hd hs (by rw [(by decide +kernel : Int32.toNatClampNeg 0 = 0), ← eq2]; exact wF_a19 ty ad q1 0 1) ?_
  clear hp hd hs hP hD hS
  intro hP hD hS
  refine lv_iconst (v := 0) hx hb dX2_valueOf_12 (by decide) ?_
  refine lv_istore (lv' := [(5, .int 0), (0, .ref (ad 18)), (1, .ref (ad (63 + 7 * dLi p1))), (2, .int p2), (3, .int p3), (4, .ref (ad 21))]) hx hb dX2_valueOf_13 hl (by decide) rfl (fun ls hl => ?_)
  refine lv_iload_n hx hb dX2_valueOf_15 rfl (lv_at hl 3 rfl) ?_
  refine lv_istore (lv' := [(6, .int p2), (5, .int 0), (0, .ref (ad 18)), (1, .ref (ad (63 + 7 * dLi p1))), (2, .int p2), (3, .int p3), (4, .ref (ad 21))]) hx hb dX2_valueOf_16 hl (by decide) rfl (fun ls hl => ?_)
  refine lv_iload_n hx hb dX2_valueOf_18 rfl (lv_at hl 5 rfl) ?_
  refine lv_aload_n hx hb dX2_valueOf_19 rfl (lv_at hl 3 rfl) ?_
  obtain ⟨g3, h⟩ := dG_some h
  refine va_getN (D := D) (ci := 7) (v := .ref (ad (63 + 7 * dLi p1 + 6))) (C := RX7) (T := TX7) (N := 8) hx hb hts u9_wsX2_valueOf_X7 hown hK hP _ (lw_o g3) rfl 5 (by decide) (hN.use (.fieldLinkNest "TurnedFloors$Machine" 17 "TurnedFloors$Text" "code" "[I" "TurnedFloors") nn9_4) (fun _ h9 => h9) rfl dX2_valueOf_20 ?_
  obtain ⟨g4, h⟩ := dG_some h
  refine va_alen (v := Int32.ofNat (Int32.toNatClampNeg (dTx q2 p1).2.2.2.1)) hx hb hK hP _ 0 (lw_a6 g4) rfl rfl dX2_valueOf_23 ?_
  refine va_mmin hx hb (hml.trans hl.1.symm) hown (hts (.methodLink RX2 22 Lib.Math.min.name) f9_wsX2_valueOf_389) (hts (.static Lib.Math.min.name) f9_wsX2_valueOf_390) (hts (.initialized "java/lang/Math") f9_wsX2_valueOf_391) (hts (.code Lib.Math.min.name Lib.Math.min.code 2 (some .int)) f9_wsX2_valueOf_392) (Nat.le_of_ble_eq_true rfl) (Nat.le_of_ble_eq_true rfl) (Nat.le_of_ble_eq_true rfl) (Nat.le_of_ble_eq_true rfl) dX2_valueOf_24 ?_
  refine kz_topi (mnI p3 (Int32.ofNat (Int32.toNatClampNeg (dTx q2 p1).2.2.2.1))) rfl ?_
  refine lv_istore (lv' := [(7, .int (mnI p3 (Int32.ofNat (Int32.toNatClampNeg (dTx q2 p1).2.2.2.1)))), (6, .int p2), (5, .int 0), (0, .ref (ad 18)), (1, .ref (ad (63 + 7 * dLi p1))), (2, .int p2), (3, .int p3), (4, .ref (ad 21))]) hx hb dX2_valueOf_27 hl (by decide) rfl (fun ls hl => ?_)
  refine lv_iload_n hx hb dX2_valueOf_29 rfl (lv_at hl 5 rfl) ?_
  refine lv_istore (lv' := [(8, .int p2), (7, .int (mnI p3 (Int32.ofNat (Int32.toNatClampNeg (dTx q2 p1).2.2.2.1)))), (6, .int p2), (5, .int 0), (0, .ref (ad 18)), (1, .ref (ad (63 + 7 * dLi p1))), (2, .int p2), (3, .int p3), (4, .ref (ad 21))]) hx hb dX2_valueOf_30 hl (by decide) rfl (fun ls hl => ?_)
  exact WX2_valueOf_s18_l_s21_32 C  _ _ _ _ _ _ _ _ _ _ h hP hD hS (lv_sub hl [4, 5, 8, 3, 2, 1, 0] rfl)
end
section
set_option maxRecDepth 20000 in
theorem ggX1_bars_X1_setTurn : GoodIn wsX1_bars wsX1_setTurn := wd_c vW9_ok mvW9_110
set_option maxRecDepth 20000 in
theorem gX1_bars_X1_setTurn : GoodIn wsX1_bars (wsV RX1 23 RX1 yX1_setTurn wsX1_setTurn) := goodIn_app (wd_l vW9_ok _ pvW9_0) ggX1_bars_X1_setTurn
set_option maxRecDepth 20000 in
theorem ggX1_bars_X1_anyHolds : GoodIn wsX1_bars wsX1_anyHolds := wd_c vW9_ok mvW9_76
set_option maxRecDepth 20000 in
theorem gX1_bars_X1_anyHolds : GoodIn wsX1_bars (wsV RX1 27 RX1 yX1_anyHolds wsX1_anyHolds) := goodIn_app (wd_l vW9_ok _ pvW9_1) ggX1_bars_X1_anyHolds
theorem da9_dX1_bars_0 : (decode cX1_bars 0 = .ok (.aload_n 0, 1)) ∧ (decode cX1_bars 1 = .ok (.aload_n 1, 1)) ∧ (decode cX1_bars 2 = .ok (.iload_n 2, 1)) ∧ (decode cX1_bars 3 = .ok (.invokevirtual 23, 3)) ∧ (decode cX1_bars 6 = .ok (.aload_n 0, 1)) ∧ (decode cX1_bars 7 = .ok (.iconst 1, 1)) ∧ (decode cX1_bars 8 = .ok (.invokevirtual 27, 3)) ∧ (decode cX1_bars 11 = .ok (.ireturn, 1)) := by decide +kernel
theorem dX1_bars_0 : decode cX1_bars 0 = .ok (.aload_n 0, 1) := da9_dX1_bars_0.1
theorem dX1_bars_1 : decode cX1_bars 1 = .ok (.aload_n 1, 1) := da9_dX1_bars_0.2.1
theorem dX1_bars_2 : decode cX1_bars 2 = .ok (.iload_n 2, 1) := da9_dX1_bars_0.2.2.1
theorem dX1_bars_3 : decode cX1_bars 3 = .ok (.invokevirtual 23, 3) := da9_dX1_bars_0.2.2.2.1
theorem dX1_bars_6 : decode cX1_bars 6 = .ok (.aload_n 0, 1) := da9_dX1_bars_0.2.2.2.2.1
theorem dX1_bars_7 : decode cX1_bars 7 = .ok (.iconst 1, 1) := da9_dX1_bars_0.2.2.2.2.2.1
theorem dX1_bars_8 : decode cX1_bars 8 = .ok (.invokevirtual 27, 3) := da9_dX1_bars_0.2.2.2.2.2.2.1
theorem dX1_bars_11 : decode cX1_bars 11 = .ok (.ireturn, 1) := da9_dX1_bars_0.2.2.2.2.2.2.2
set_option maxRecDepth 20000 in
theorem ggX1_payOf_X1_setTurn : GoodIn wsX1_payOf wsX1_setTurn := wd_c vW9_ok mvW9_110
set_option maxRecDepth 20000 in
theorem gX1_payOf_X1_setTurn : GoodIn wsX1_payOf (wsV RX1 23 RX1 yX1_setTurn wsX1_setTurn) := goodIn_app (wd_l vW9_ok _ pvW9_0) ggX1_payOf_X1_setTurn
set_option maxRecDepth 20000 in
theorem ggX1_payOf_X1_pay : GoodIn wsX1_payOf wsX1_pay := wd_c vW9_ok mvW9_119
set_option maxRecDepth 20000 in
theorem gX1_payOf_X1_pay : GoodIn wsX1_payOf (wsV RX1 31 RX1 yX1_pay wsX1_pay) := goodIn_app (wd_l vW9_ok _ pvW9_2) ggX1_payOf_X1_pay
theorem da9_dX1_payOf_0 : (decode cX1_payOf 0 = .ok (.aload_n 0, 1)) ∧ (decode cX1_payOf 1 = .ok (.aload_n 1, 1)) ∧ (decode cX1_payOf 2 = .ok (.iload_n 2, 1)) ∧ (decode cX1_payOf 3 = .ok (.invokevirtual 23, 3)) ∧ (decode cX1_payOf 6 = .ok (.aload_n 0, 1)) ∧ (decode cX1_payOf 7 = .ok (.invokevirtual 31, 3)) ∧ (decode cX1_payOf 10 = .ok (.ireturn, 1)) := by decide +kernel
theorem dX1_payOf_0 : decode cX1_payOf 0 = .ok (.aload_n 0, 1) := da9_dX1_payOf_0.1
theorem dX1_payOf_1 : decode cX1_payOf 1 = .ok (.aload_n 1, 1) := da9_dX1_payOf_0.2.1
theorem dX1_payOf_2 : decode cX1_payOf 2 = .ok (.iload_n 2, 1) := da9_dX1_payOf_0.2.2.1
theorem dX1_payOf_3 : decode cX1_payOf 3 = .ok (.invokevirtual 23, 3) := da9_dX1_payOf_0.2.2.2.1
theorem dX1_payOf_6 : decode cX1_payOf 6 = .ok (.aload_n 0, 1) := da9_dX1_payOf_0.2.2.2.2.1
theorem dX1_payOf_7 : decode cX1_payOf 7 = .ok (.invokevirtual 31, 3) := da9_dX1_payOf_0.2.2.2.2.2.1
theorem dX1_payOf_10 : decode cX1_payOf 10 = .ok (.ireturn, 1) := da9_dX1_payOf_0.2.2.2.2.2.2
set_option maxRecDepth 20000 in
theorem ggX1_tips_X8_isFloor : GoodIn wsX1_tips wsX8_isFloor := wd_c vW9_ok mvW9_40
set_option maxRecDepth 20000 in
theorem gX1_tips_X8_isFloor : GoodIn wsX1_tips (wsV RX1 35 RX8 yX8_isFloor wsX8_isFloor) := goodIn_app (wd_l vW9_ok _ pvW9_3) ggX1_tips_X8_isFloor
set_option maxRecDepth 20000 in
theorem ggX1_tips_X1_setCommon : GoodIn wsX1_tips wsX1_setCommon := wd_c vW9_ok mvW9_72
set_option maxRecDepth 20000 in
theorem gX1_tips_X1_setCommon : GoodIn wsX1_tips (wsV RX1 47 RX1 yX1_setCommon wsX1_setCommon) := goodIn_app (wd_l vW9_ok _ pvW9_4) ggX1_tips_X1_setCommon
set_option maxRecDepth 20000 in
theorem ggX1_tips_X1_anyHolds : GoodIn wsX1_tips wsX1_anyHolds := wd_c vW9_ok mvW9_76
set_option maxRecDepth 20000 in
theorem gX1_tips_X1_anyHolds : GoodIn wsX1_tips (wsV RX1 27 RX1 yX1_anyHolds wsX1_anyHolds) := goodIn_app (wd_l vW9_ok _ pvW9_1) ggX1_tips_X1_anyHolds
theorem da9_dX1_tips_0 : (decode cX1_tips 0 = .ok (.aload_n 1, 1)) ∧ (decode cX1_tips 1 = .ok (.iload_n 2, 1)) ∧ (decode cX1_tips 2 = .ok (.invokevirtual 35, 3)) ∧ (decode cX1_tips 5 = .ok (.ifCond .ne 5, 3)) ∧ (decode cX1_tips 8 = .ok (.iconst 0, 1)) ∧ (decode cX1_tips 9 = .ok (.ireturn, 1)) ∧ (decode cX1_tips 10 = .ok (.aload_n 0, 1)) ∧ (decode cX1_tips 11 = .ok (.aload_n 1, 1)) ∧ (decode cX1_tips 12 = .ok (.getfield 40, 3)) ∧ (decode cX1_tips 15 = .ok (.aload_n 1, 1)) ∧ (decode cX1_tips 16 = .ok (.getfield 44, 3)) ∧ (decode cX1_tips 19 = .ok (.invokevirtual 47, 3)) ∧ (decode cX1_tips 22 = .ok (.aload_n 0, 1)) ∧ (decode cX1_tips 23 = .ok (.getfield 11, 3)) ∧ (decode cX1_tips 26 = .ok (.iconst 0, 1)) ∧ (decode cX1_tips 27 = .ok (.iconst (-1), 1)) := by decide +kernel
theorem dX1_tips_0 : decode cX1_tips 0 = .ok (.aload_n 1, 1) := da9_dX1_tips_0.1
theorem dX1_tips_1 : decode cX1_tips 1 = .ok (.iload_n 2, 1) := da9_dX1_tips_0.2.1
theorem dX1_tips_2 : decode cX1_tips 2 = .ok (.invokevirtual 35, 3) := da9_dX1_tips_0.2.2.1
theorem dX1_tips_5 : decode cX1_tips 5 = .ok (.ifCond .ne 5, 3) := da9_dX1_tips_0.2.2.2.1
theorem dX1_tips_8 : decode cX1_tips 8 = .ok (.iconst 0, 1) := da9_dX1_tips_0.2.2.2.2.1
theorem dX1_tips_9 : decode cX1_tips 9 = .ok (.ireturn, 1) := da9_dX1_tips_0.2.2.2.2.2.1
theorem dX1_tips_10 : decode cX1_tips 10 = .ok (.aload_n 0, 1) := da9_dX1_tips_0.2.2.2.2.2.2.1
theorem dX1_tips_11 : decode cX1_tips 11 = .ok (.aload_n 1, 1) := da9_dX1_tips_0.2.2.2.2.2.2.2.1
theorem dX1_tips_12 : decode cX1_tips 12 = .ok (.getfield 40, 3) := da9_dX1_tips_0.2.2.2.2.2.2.2.2.1
theorem dX1_tips_15 : decode cX1_tips 15 = .ok (.aload_n 1, 1) := da9_dX1_tips_0.2.2.2.2.2.2.2.2.2.1
theorem dX1_tips_16 : decode cX1_tips 16 = .ok (.getfield 44, 3) := da9_dX1_tips_0.2.2.2.2.2.2.2.2.2.2.1
theorem dX1_tips_19 : decode cX1_tips 19 = .ok (.invokevirtual 47, 3) := da9_dX1_tips_0.2.2.2.2.2.2.2.2.2.2.2.1
theorem dX1_tips_22 : decode cX1_tips 22 = .ok (.aload_n 0, 1) := da9_dX1_tips_0.2.2.2.2.2.2.2.2.2.2.2.2.1
theorem dX1_tips_23 : decode cX1_tips 23 = .ok (.getfield 11, 3) := da9_dX1_tips_0.2.2.2.2.2.2.2.2.2.2.2.2.2.1
theorem dX1_tips_26 : decode cX1_tips 26 = .ok (.iconst 0, 1) := da9_dX1_tips_0.2.2.2.2.2.2.2.2.2.2.2.2.2.2.1
theorem dX1_tips_27 : decode cX1_tips 27 = .ok (.iconst (-1), 1) := da9_dX1_tips_0.2.2.2.2.2.2.2.2.2.2.2.2.2.2.2
theorem da9_dX1_tips_28 : (decode cX1_tips 28 = .ok (.iastore, 1)) ∧ (decode cX1_tips 29 = .ok (.aload_n 0, 1)) ∧ (decode cX1_tips 30 = .ok (.getfield 11, 3)) ∧ (decode cX1_tips 33 = .ok (.iconst 1, 1)) ∧ (decode cX1_tips 34 = .ok (.iconst (-1), 1)) ∧ (decode cX1_tips 35 = .ok (.iastore, 1)) ∧ (decode cX1_tips 36 = .ok (.aload_n 0, 1)) ∧ (decode cX1_tips 37 = .ok (.getfield 11, 3)) ∧ (decode cX1_tips 40 = .ok (.iconst 2, 1)) ∧ (decode cX1_tips 41 = .ok (.iconst (-1), 1)) ∧ (decode cX1_tips 42 = .ok (.iastore, 1)) ∧ (decode cX1_tips 43 = .ok (.aload_n 0, 1)) ∧ (decode cX1_tips 44 = .ok (.getfield 11, 3)) ∧ (decode cX1_tips 47 = .ok (.iconst 3, 1)) ∧ (decode cX1_tips 48 = .ok (.aload_n 1, 1)) ∧ (decode cX1_tips 49 = .ok (.getfield 51, 3)) := by decide +kernel
theorem dX1_tips_28 : decode cX1_tips 28 = .ok (.iastore, 1) := da9_dX1_tips_28.1
theorem dX1_tips_29 : decode cX1_tips 29 = .ok (.aload_n 0, 1) := da9_dX1_tips_28.2.1
theorem dX1_tips_30 : decode cX1_tips 30 = .ok (.getfield 11, 3) := da9_dX1_tips_28.2.2.1
theorem dX1_tips_33 : decode cX1_tips 33 = .ok (.iconst 1, 1) := da9_dX1_tips_28.2.2.2.1
theorem dX1_tips_34 : decode cX1_tips 34 = .ok (.iconst (-1), 1) := da9_dX1_tips_28.2.2.2.2.1
theorem dX1_tips_35 : decode cX1_tips 35 = .ok (.iastore, 1) := da9_dX1_tips_28.2.2.2.2.2.1
theorem dX1_tips_36 : decode cX1_tips 36 = .ok (.aload_n 0, 1) := da9_dX1_tips_28.2.2.2.2.2.2.1
theorem dX1_tips_37 : decode cX1_tips 37 = .ok (.getfield 11, 3) := da9_dX1_tips_28.2.2.2.2.2.2.2.1
theorem dX1_tips_40 : decode cX1_tips 40 = .ok (.iconst 2, 1) := da9_dX1_tips_28.2.2.2.2.2.2.2.2.1
theorem dX1_tips_41 : decode cX1_tips 41 = .ok (.iconst (-1), 1) := da9_dX1_tips_28.2.2.2.2.2.2.2.2.2.1
theorem dX1_tips_42 : decode cX1_tips 42 = .ok (.iastore, 1) := da9_dX1_tips_28.2.2.2.2.2.2.2.2.2.2.1
theorem dX1_tips_43 : decode cX1_tips 43 = .ok (.aload_n 0, 1) := da9_dX1_tips_28.2.2.2.2.2.2.2.2.2.2.2.1
theorem dX1_tips_44 : decode cX1_tips 44 = .ok (.getfield 11, 3) := da9_dX1_tips_28.2.2.2.2.2.2.2.2.2.2.2.2.1
theorem dX1_tips_47 : decode cX1_tips 47 = .ok (.iconst 3, 1) := da9_dX1_tips_28.2.2.2.2.2.2.2.2.2.2.2.2.2.1
theorem dX1_tips_48 : decode cX1_tips 48 = .ok (.aload_n 1, 1) := da9_dX1_tips_28.2.2.2.2.2.2.2.2.2.2.2.2.2.2.1
theorem dX1_tips_49 : decode cX1_tips 49 = .ok (.getfield 51, 3) := da9_dX1_tips_28.2.2.2.2.2.2.2.2.2.2.2.2.2.2.2
theorem da9_dX1_tips_52 : (decode cX1_tips 52 = .ok (.iload_n 2, 1)) ∧ (decode cX1_tips 53 = .ok (.iaload, 1)) ∧ (decode cX1_tips 54 = .ok (.iastore, 1)) ∧ (decode cX1_tips 55 = .ok (.aload_n 0, 1)) ∧ (decode cX1_tips 56 = .ok (.getfield 11, 3)) ∧ (decode cX1_tips 59 = .ok (.iconst 5, 1)) ∧ (decode cX1_tips 60 = .ok (.aload_n 1, 1)) ∧ (decode cX1_tips 61 = .ok (.getfield 54, 3)) ∧ (decode cX1_tips 64 = .ok (.iload_n 2, 1)) ∧ (decode cX1_tips 65 = .ok (.iaload, 1)) ∧ (decode cX1_tips 66 = .ok (.iastore, 1)) ∧ (decode cX1_tips 67 = .ok (.aload_n 0, 1)) ∧ (decode cX1_tips 68 = .ok (.getfield 11, 3)) ∧ (decode cX1_tips 71 = .ok (.bipush 6, 2)) ∧ (decode cX1_tips 73 = .ok (.iload_n 2, 1)) ∧ (decode cX1_tips 74 = .ok (.iastore, 1)) := by decide +kernel
theorem dX1_tips_52 : decode cX1_tips 52 = .ok (.iload_n 2, 1) := da9_dX1_tips_52.1
theorem dX1_tips_53 : decode cX1_tips 53 = .ok (.iaload, 1) := da9_dX1_tips_52.2.1
theorem dX1_tips_54 : decode cX1_tips 54 = .ok (.iastore, 1) := da9_dX1_tips_52.2.2.1
theorem dX1_tips_55 : decode cX1_tips 55 = .ok (.aload_n 0, 1) := da9_dX1_tips_52.2.2.2.1
theorem dX1_tips_56 : decode cX1_tips 56 = .ok (.getfield 11, 3) := da9_dX1_tips_52.2.2.2.2.1
theorem dX1_tips_59 : decode cX1_tips 59 = .ok (.iconst 5, 1) := da9_dX1_tips_52.2.2.2.2.2.1
theorem dX1_tips_60 : decode cX1_tips 60 = .ok (.aload_n 1, 1) := da9_dX1_tips_52.2.2.2.2.2.2.1
theorem dX1_tips_61 : decode cX1_tips 61 = .ok (.getfield 54, 3) := da9_dX1_tips_52.2.2.2.2.2.2.2.1
theorem dX1_tips_64 : decode cX1_tips 64 = .ok (.iload_n 2, 1) := da9_dX1_tips_52.2.2.2.2.2.2.2.2.1
theorem dX1_tips_65 : decode cX1_tips 65 = .ok (.iaload, 1) := da9_dX1_tips_52.2.2.2.2.2.2.2.2.2.1
theorem dX1_tips_66 : decode cX1_tips 66 = .ok (.iastore, 1) := da9_dX1_tips_52.2.2.2.2.2.2.2.2.2.2.1
theorem dX1_tips_67 : decode cX1_tips 67 = .ok (.aload_n 0, 1) := da9_dX1_tips_52.2.2.2.2.2.2.2.2.2.2.2.1
theorem dX1_tips_68 : decode cX1_tips 68 = .ok (.getfield 11, 3) := da9_dX1_tips_52.2.2.2.2.2.2.2.2.2.2.2.2.1
theorem dX1_tips_71 : decode cX1_tips 71 = .ok (.bipush 6, 2) := da9_dX1_tips_52.2.2.2.2.2.2.2.2.2.2.2.2.2.1
theorem dX1_tips_73 : decode cX1_tips 73 = .ok (.iload_n 2, 1) := da9_dX1_tips_52.2.2.2.2.2.2.2.2.2.2.2.2.2.2.1
theorem dX1_tips_74 : decode cX1_tips 74 = .ok (.iastore, 1) := da9_dX1_tips_52.2.2.2.2.2.2.2.2.2.2.2.2.2.2.2
theorem da9_dX1_tips_75 : (decode cX1_tips 75 = .ok (.aload_n 0, 1)) ∧ (decode cX1_tips 76 = .ok (.iconst 2, 1)) ∧ (decode cX1_tips 77 = .ok (.invokevirtual 27, 3)) ∧ (decode cX1_tips 80 = .ok (.ireturn, 1)) := by decide +kernel
theorem dX1_tips_75 : decode cX1_tips 75 = .ok (.aload_n 0, 1) := da9_dX1_tips_75.1
theorem dX1_tips_76 : decode cX1_tips 76 = .ok (.iconst 2, 1) := da9_dX1_tips_75.2.1
theorem dX1_tips_77 : decode cX1_tips 77 = .ok (.invokevirtual 27, 3) := da9_dX1_tips_75.2.2.1
theorem dX1_tips_80 : decode cX1_tips 80 = .ok (.ireturn, 1) := da9_dX1_tips_75.2.2.2
set_option maxRecDepth 20000 in
theorem ggX1_setTurn_X1_setCommon : GoodIn wsX1_setTurn wsX1_setCommon := wd_c vW9_ok mvW9_72
set_option maxRecDepth 20000 in
theorem gX1_setTurn_X1_setCommon : GoodIn wsX1_setTurn (wsV RX1 47 RX1 yX1_setCommon wsX1_setCommon) := goodIn_app (wd_l vW9_ok _ pvW9_4) ggX1_setTurn_X1_setCommon
set_option maxRecDepth 20000 in
theorem ggX1_setTurn_X8_tell : GoodIn wsX1_setTurn wsX8_tell := wd_c vW9_ok mvW9_101
set_option maxRecDepth 20000 in
theorem gX1_setTurn_X8_tell : GoodIn wsX1_setTurn (wsV RX1 57 RX8 yX8_tell wsX8_tell) := goodIn_app (wd_l vW9_ok _ pvW9_5) ggX1_setTurn_X8_tell
set_option maxRecDepth 20000 in
theorem ggX1_setTurn_X1_setGrip : GoodIn wsX1_setTurn wsX1_setGrip := wd_c vW9_ok mvW9_115
set_option maxRecDepth 20000 in
theorem gX1_setTurn_X1_setGrip : GoodIn wsX1_setTurn (wsV RX1 61 RX1 yX1_setGrip wsX1_setGrip) := goodIn_app (wd_l vW9_ok _ pvW9_6) ggX1_setTurn_X1_setGrip
theorem da9_dX1_setTurn_0 : (decode cX1_setTurn 0 = .ok (.aload_n 0, 1)) ∧ (decode cX1_setTurn 1 = .ok (.aload_n 1, 1)) ∧ (decode cX1_setTurn 2 = .ok (.getfield 40, 3)) ∧ (decode cX1_setTurn 5 = .ok (.aload_n 1, 1)) ∧ (decode cX1_setTurn 6 = .ok (.getfield 44, 3)) ∧ (decode cX1_setTurn 9 = .ok (.invokevirtual 47, 3)) ∧ (decode cX1_setTurn 12 = .ok (.aload_n 0, 1)) ∧ (decode cX1_setTurn 13 = .ok (.iload_n 2, 1)) ∧ (decode cX1_setTurn 14 = .ok (.aload_n 1, 1)) ∧ (decode cX1_setTurn 15 = .ok (.iconst 0, 1)) ∧ (decode cX1_setTurn 16 = .ok (.iconst 0, 1)) ∧ (decode cX1_setTurn 17 = .ok (.invokevirtual 57, 3)) ∧ (decode cX1_setTurn 20 = .ok (.aload_n 1, 1)) ∧ (decode cX1_setTurn 21 = .ok (.iload_n 2, 1)) ∧ (decode cX1_setTurn 22 = .ok (.iconst 0, 1)) ∧ (decode cX1_setTurn 23 = .ok (.invokevirtual 57, 3)) := by decide +kernel
theorem dX1_setTurn_0 : decode cX1_setTurn 0 = .ok (.aload_n 0, 1) := da9_dX1_setTurn_0.1
theorem dX1_setTurn_1 : decode cX1_setTurn 1 = .ok (.aload_n 1, 1) := da9_dX1_setTurn_0.2.1
theorem dX1_setTurn_2 : decode cX1_setTurn 2 = .ok (.getfield 40, 3) := da9_dX1_setTurn_0.2.2.1
theorem dX1_setTurn_5 : decode cX1_setTurn 5 = .ok (.aload_n 1, 1) := da9_dX1_setTurn_0.2.2.2.1
theorem dX1_setTurn_6 : decode cX1_setTurn 6 = .ok (.getfield 44, 3) := da9_dX1_setTurn_0.2.2.2.2.1
theorem dX1_setTurn_9 : decode cX1_setTurn 9 = .ok (.invokevirtual 47, 3) := da9_dX1_setTurn_0.2.2.2.2.2.1
theorem dX1_setTurn_12 : decode cX1_setTurn 12 = .ok (.aload_n 0, 1) := da9_dX1_setTurn_0.2.2.2.2.2.2.1
theorem dX1_setTurn_13 : decode cX1_setTurn 13 = .ok (.iload_n 2, 1) := da9_dX1_setTurn_0.2.2.2.2.2.2.2.1
theorem dX1_setTurn_14 : decode cX1_setTurn 14 = .ok (.aload_n 1, 1) := da9_dX1_setTurn_0.2.2.2.2.2.2.2.2.1
theorem dX1_setTurn_15 : decode cX1_setTurn 15 = .ok (.iconst 0, 1) := da9_dX1_setTurn_0.2.2.2.2.2.2.2.2.2.1
theorem dX1_setTurn_16 : decode cX1_setTurn 16 = .ok (.iconst 0, 1) := da9_dX1_setTurn_0.2.2.2.2.2.2.2.2.2.2.1
theorem dX1_setTurn_17 : decode cX1_setTurn 17 = .ok (.invokevirtual 57, 3) := da9_dX1_setTurn_0.2.2.2.2.2.2.2.2.2.2.2.1
theorem dX1_setTurn_20 : decode cX1_setTurn 20 = .ok (.aload_n 1, 1) := da9_dX1_setTurn_0.2.2.2.2.2.2.2.2.2.2.2.2.1
theorem dX1_setTurn_21 : decode cX1_setTurn 21 = .ok (.iload_n 2, 1) := da9_dX1_setTurn_0.2.2.2.2.2.2.2.2.2.2.2.2.2.1
theorem dX1_setTurn_22 : decode cX1_setTurn 22 = .ok (.iconst 0, 1) := da9_dX1_setTurn_0.2.2.2.2.2.2.2.2.2.2.2.2.2.2.1
theorem dX1_setTurn_23 : decode cX1_setTurn 23 = .ok (.invokevirtual 57, 3) := da9_dX1_setTurn_0.2.2.2.2.2.2.2.2.2.2.2.2.2.2.2
theorem da9_dX1_setTurn_26 : (decode cX1_setTurn 26 = .ok (.aload_n 1, 1)) ∧ (decode cX1_setTurn 27 = .ok (.iconst 0, 1)) ∧ (decode cX1_setTurn 28 = .ok (.iconst 1, 1)) ∧ (decode cX1_setTurn 29 = .ok (.invokevirtual 57, 3)) ∧ (decode cX1_setTurn 32 = .ok (.invokevirtual 61, 3)) ∧ (decode cX1_setTurn 35 = .ok (.return_, 1)) := by decide +kernel
theorem dX1_setTurn_26 : decode cX1_setTurn 26 = .ok (.aload_n 1, 1) := da9_dX1_setTurn_26.1
theorem dX1_setTurn_27 : decode cX1_setTurn 27 = .ok (.iconst 0, 1) := da9_dX1_setTurn_26.2.1
theorem dX1_setTurn_28 : decode cX1_setTurn 28 = .ok (.iconst 1, 1) := da9_dX1_setTurn_26.2.2.1
theorem dX1_setTurn_29 : decode cX1_setTurn 29 = .ok (.invokevirtual 57, 3) := da9_dX1_setTurn_26.2.2.2.1
theorem dX1_setTurn_32 : decode cX1_setTurn 32 = .ok (.invokevirtual 61, 3) := da9_dX1_setTurn_26.2.2.2.2.1
theorem dX1_setTurn_35 : decode cX1_setTurn 35 = .ok (.return_, 1) := da9_dX1_setTurn_26.2.2.2.2.2
theorem da9_dX1_setGrip_0 : (decode cX1_setGrip 0 = .ok (.aload_n 0, 1)) ∧ (decode cX1_setGrip 1 = .ok (.getfield 11, 3)) ∧ (decode cX1_setGrip 4 = .ok (.iconst 0, 1)) ∧ (decode cX1_setGrip 5 = .ok (.iload_n 1, 1)) ∧ (decode cX1_setGrip 6 = .ok (.iastore, 1)) ∧ (decode cX1_setGrip 7 = .ok (.aload_n 0, 1)) ∧ (decode cX1_setGrip 8 = .ok (.getfield 11, 3)) ∧ (decode cX1_setGrip 11 = .ok (.iconst 1, 1)) ∧ (decode cX1_setGrip 12 = .ok (.iload_n 2, 1)) ∧ (decode cX1_setGrip 13 = .ok (.iastore, 1)) ∧ (decode cX1_setGrip 14 = .ok (.aload_n 0, 1)) ∧ (decode cX1_setGrip 15 = .ok (.getfield 11, 3)) ∧ (decode cX1_setGrip 18 = .ok (.iconst 2, 1)) ∧ (decode cX1_setGrip 19 = .ok (.iload_n 3, 1)) ∧ (decode cX1_setGrip 20 = .ok (.iastore, 1)) ∧ (decode cX1_setGrip 21 = .ok (.aload_n 0, 1)) := by decide +kernel
theorem dX1_setGrip_0 : decode cX1_setGrip 0 = .ok (.aload_n 0, 1) := da9_dX1_setGrip_0.1
theorem dX1_setGrip_1 : decode cX1_setGrip 1 = .ok (.getfield 11, 3) := da9_dX1_setGrip_0.2.1
theorem dX1_setGrip_4 : decode cX1_setGrip 4 = .ok (.iconst 0, 1) := da9_dX1_setGrip_0.2.2.1
theorem dX1_setGrip_5 : decode cX1_setGrip 5 = .ok (.iload_n 1, 1) := da9_dX1_setGrip_0.2.2.2.1
theorem dX1_setGrip_6 : decode cX1_setGrip 6 = .ok (.iastore, 1) := da9_dX1_setGrip_0.2.2.2.2.1
theorem dX1_setGrip_7 : decode cX1_setGrip 7 = .ok (.aload_n 0, 1) := da9_dX1_setGrip_0.2.2.2.2.2.1
theorem dX1_setGrip_8 : decode cX1_setGrip 8 = .ok (.getfield 11, 3) := da9_dX1_setGrip_0.2.2.2.2.2.2.1
theorem dX1_setGrip_11 : decode cX1_setGrip 11 = .ok (.iconst 1, 1) := da9_dX1_setGrip_0.2.2.2.2.2.2.2.1
theorem dX1_setGrip_12 : decode cX1_setGrip 12 = .ok (.iload_n 2, 1) := da9_dX1_setGrip_0.2.2.2.2.2.2.2.2.1
theorem dX1_setGrip_13 : decode cX1_setGrip 13 = .ok (.iastore, 1) := da9_dX1_setGrip_0.2.2.2.2.2.2.2.2.2.1
theorem dX1_setGrip_14 : decode cX1_setGrip 14 = .ok (.aload_n 0, 1) := da9_dX1_setGrip_0.2.2.2.2.2.2.2.2.2.2.1
theorem dX1_setGrip_15 : decode cX1_setGrip 15 = .ok (.getfield 11, 3) := da9_dX1_setGrip_0.2.2.2.2.2.2.2.2.2.2.2.1
theorem dX1_setGrip_18 : decode cX1_setGrip 18 = .ok (.iconst 2, 1) := da9_dX1_setGrip_0.2.2.2.2.2.2.2.2.2.2.2.2.1
theorem dX1_setGrip_19 : decode cX1_setGrip 19 = .ok (.iload_n 3, 1) := da9_dX1_setGrip_0.2.2.2.2.2.2.2.2.2.2.2.2.2.1
theorem dX1_setGrip_20 : decode cX1_setGrip 20 = .ok (.iastore, 1) := da9_dX1_setGrip_0.2.2.2.2.2.2.2.2.2.2.2.2.2.2.1
theorem dX1_setGrip_21 : decode cX1_setGrip 21 = .ok (.aload_n 0, 1) := da9_dX1_setGrip_0.2.2.2.2.2.2.2.2.2.2.2.2.2.2.2
theorem da9_dX1_setGrip_22 : (decode cX1_setGrip 22 = .ok (.getfield 11, 3)) ∧ (decode cX1_setGrip 25 = .ok (.iconst 3, 1)) ∧ (decode cX1_setGrip 26 = .ok (.iload 4, 2)) ∧ (decode cX1_setGrip 28 = .ok (.iastore, 1)) ∧ (decode cX1_setGrip 29 = .ok (.aload_n 0, 1)) ∧ (decode cX1_setGrip 30 = .ok (.getfield 11, 3)) ∧ (decode cX1_setGrip 33 = .ok (.iconst 5, 1)) ∧ (decode cX1_setGrip 34 = .ok (.iconst (-1), 1)) ∧ (decode cX1_setGrip 35 = .ok (.iastore, 1)) ∧ (decode cX1_setGrip 36 = .ok (.aload_n 0, 1)) ∧ (decode cX1_setGrip 37 = .ok (.getfield 11, 3)) ∧ (decode cX1_setGrip 40 = .ok (.bipush 6, 2)) ∧ (decode cX1_setGrip 42 = .ok (.iconst (-1), 1)) ∧ (decode cX1_setGrip 43 = .ok (.iastore, 1)) ∧ (decode cX1_setGrip 44 = .ok (.return_, 1)) := by decide +kernel
theorem dX1_setGrip_22 : decode cX1_setGrip 22 = .ok (.getfield 11, 3) := da9_dX1_setGrip_22.1
theorem dX1_setGrip_25 : decode cX1_setGrip 25 = .ok (.iconst 3, 1) := da9_dX1_setGrip_22.2.1
theorem dX1_setGrip_26 : decode cX1_setGrip 26 = .ok (.iload 4, 2) := da9_dX1_setGrip_22.2.2.1
theorem dX1_setGrip_28 : decode cX1_setGrip 28 = .ok (.iastore, 1) := da9_dX1_setGrip_22.2.2.2.1
theorem dX1_setGrip_29 : decode cX1_setGrip 29 = .ok (.aload_n 0, 1) := da9_dX1_setGrip_22.2.2.2.2.1
theorem dX1_setGrip_30 : decode cX1_setGrip 30 = .ok (.getfield 11, 3) := da9_dX1_setGrip_22.2.2.2.2.2.1
theorem dX1_setGrip_33 : decode cX1_setGrip 33 = .ok (.iconst 5, 1) := da9_dX1_setGrip_22.2.2.2.2.2.2.1
theorem dX1_setGrip_34 : decode cX1_setGrip 34 = .ok (.iconst (-1), 1) := da9_dX1_setGrip_22.2.2.2.2.2.2.2.1
theorem dX1_setGrip_35 : decode cX1_setGrip 35 = .ok (.iastore, 1) := da9_dX1_setGrip_22.2.2.2.2.2.2.2.2.1
theorem dX1_setGrip_36 : decode cX1_setGrip 36 = .ok (.aload_n 0, 1) := da9_dX1_setGrip_22.2.2.2.2.2.2.2.2.2.1
theorem dX1_setGrip_37 : decode cX1_setGrip 37 = .ok (.getfield 11, 3) := da9_dX1_setGrip_22.2.2.2.2.2.2.2.2.2.2.1
theorem dX1_setGrip_40 : decode cX1_setGrip 40 = .ok (.bipush 6, 2) := da9_dX1_setGrip_22.2.2.2.2.2.2.2.2.2.2.2.1
theorem dX1_setGrip_42 : decode cX1_setGrip 42 = .ok (.iconst (-1), 1) := da9_dX1_setGrip_22.2.2.2.2.2.2.2.2.2.2.2.2.1
theorem dX1_setGrip_43 : decode cX1_setGrip 43 = .ok (.iastore, 1) := da9_dX1_setGrip_22.2.2.2.2.2.2.2.2.2.2.2.2.2.1
theorem dX1_setGrip_44 : decode cX1_setGrip 44 = .ok (.return_, 1) := da9_dX1_setGrip_22.2.2.2.2.2.2.2.2.2.2.2.2.2.2
set_option maxRecDepth 20000 in
theorem ggX1_anyHolds_X2_valueOf : GoodIn wsX1_anyHolds wsX2_valueOf := wd_c vW9_ok mvW9_82
set_option maxRecDepth 20000 in
theorem gX1_anyHolds_X2_valueOf : GoodIn wsX1_anyHolds (wsV RX1 79 RX2 yX2_valueOf wsX2_valueOf) := goodIn_app (wd_l vW9_ok _ pvW9_7) ggX1_anyHolds_X2_valueOf
theorem da9_dX1_anyHolds_0 : (decode cX1_anyHolds 0 = .ok (.aload_n 0, 1)) ∧ (decode cX1_anyHolds 1 = .ok (.getfield 15, 3)) ∧ (decode cX1_anyHolds 4 = .ok (.ifnonnull 5, 3)) ∧ (decode cX1_anyHolds 7 = .ok (.iconst 0, 1)) ∧ (decode cX1_anyHolds 8 = .ok (.ireturn, 1)) ∧ (decode cX1_anyHolds 9 = .ok (.iconst 0, 1)) ∧ (decode cX1_anyHolds 10 = .ok (.istore_n 2, 1)) ∧ (decode cX1_anyHolds 11 = .ok (.iload_n 2, 1)) ∧ (decode cX1_anyHolds 12 = .ok (.aload_n 0, 1)) ∧ (decode cX1_anyHolds 13 = .ok (.getfield 15, 3)) ∧ (decode cX1_anyHolds 16 = .ok (.getfield 65, 3)) ∧ (decode cX1_anyHolds 19 = .ok (.if_icmp .ge 61, 3)) ∧ (decode cX1_anyHolds 22 = .ok (.aload_n 0, 1)) ∧ (decode cX1_anyHolds 23 = .ok (.getfield 15, 3)) ∧ (decode cX1_anyHolds 26 = .ok (.getfield 70, 3)) ∧ (decode cX1_anyHolds 29 = .ok (.iload_n 2, 1)) := by decide +kernel
theorem dX1_anyHolds_0 : decode cX1_anyHolds 0 = .ok (.aload_n 0, 1) := da9_dX1_anyHolds_0.1
theorem dX1_anyHolds_1 : decode cX1_anyHolds 1 = .ok (.getfield 15, 3) := da9_dX1_anyHolds_0.2.1
theorem dX1_anyHolds_4 : decode cX1_anyHolds 4 = .ok (.ifnonnull 5, 3) := da9_dX1_anyHolds_0.2.2.1
theorem dX1_anyHolds_7 : decode cX1_anyHolds 7 = .ok (.iconst 0, 1) := da9_dX1_anyHolds_0.2.2.2.1
theorem dX1_anyHolds_8 : decode cX1_anyHolds 8 = .ok (.ireturn, 1) := da9_dX1_anyHolds_0.2.2.2.2.1
theorem dX1_anyHolds_9 : decode cX1_anyHolds 9 = .ok (.iconst 0, 1) := da9_dX1_anyHolds_0.2.2.2.2.2.1
theorem dX1_anyHolds_10 : decode cX1_anyHolds 10 = .ok (.istore_n 2, 1) := da9_dX1_anyHolds_0.2.2.2.2.2.2.1
theorem dX1_anyHolds_11 : decode cX1_anyHolds 11 = .ok (.iload_n 2, 1) := da9_dX1_anyHolds_0.2.2.2.2.2.2.2.1
theorem dX1_anyHolds_12 : decode cX1_anyHolds 12 = .ok (.aload_n 0, 1) := da9_dX1_anyHolds_0.2.2.2.2.2.2.2.2.1
theorem dX1_anyHolds_13 : decode cX1_anyHolds 13 = .ok (.getfield 15, 3) := da9_dX1_anyHolds_0.2.2.2.2.2.2.2.2.2.1
theorem dX1_anyHolds_16 : decode cX1_anyHolds 16 = .ok (.getfield 65, 3) := da9_dX1_anyHolds_0.2.2.2.2.2.2.2.2.2.2.1
theorem dX1_anyHolds_19 : decode cX1_anyHolds 19 = .ok (.if_icmp .ge 61, 3) := da9_dX1_anyHolds_0.2.2.2.2.2.2.2.2.2.2.2.1
theorem dX1_anyHolds_22 : decode cX1_anyHolds 22 = .ok (.aload_n 0, 1) := da9_dX1_anyHolds_0.2.2.2.2.2.2.2.2.2.2.2.2.1
theorem dX1_anyHolds_23 : decode cX1_anyHolds 23 = .ok (.getfield 15, 3) := da9_dX1_anyHolds_0.2.2.2.2.2.2.2.2.2.2.2.2.2.1
theorem dX1_anyHolds_26 : decode cX1_anyHolds 26 = .ok (.getfield 70, 3) := da9_dX1_anyHolds_0.2.2.2.2.2.2.2.2.2.2.2.2.2.2.1
theorem dX1_anyHolds_29 : decode cX1_anyHolds 29 = .ok (.iload_n 2, 1) := da9_dX1_anyHolds_0.2.2.2.2.2.2.2.2.2.2.2.2.2.2.2
theorem da9_dX1_anyHolds_30 : (decode cX1_anyHolds 30 = .ok (.iaload, 1)) ∧ (decode cX1_anyHolds 31 = .ok (.iload_n 1, 1)) ∧ (decode cX1_anyHolds 32 = .ok (.if_icmp .ne 42, 3)) ∧ (decode cX1_anyHolds 35 = .ok (.aload_n 0, 1)) ∧ (decode cX1_anyHolds 36 = .ok (.getfield 19, 3)) ∧ (decode cX1_anyHolds 39 = .ok (.aload_n 0, 1)) ∧ (decode cX1_anyHolds 40 = .ok (.getfield 15, 3)) ∧ (decode cX1_anyHolds 43 = .ok (.aload_n 0, 1)) ∧ (decode cX1_anyHolds 44 = .ok (.getfield 15, 3)) ∧ (decode cX1_anyHolds 47 = .ok (.getfield 73, 3)) ∧ (decode cX1_anyHolds 50 = .ok (.iload_n 2, 1)) ∧ (decode cX1_anyHolds 51 = .ok (.iaload, 1)) ∧ (decode cX1_anyHolds 52 = .ok (.aload_n 0, 1)) ∧ (decode cX1_anyHolds 53 = .ok (.getfield 15, 3)) ∧ (decode cX1_anyHolds 56 = .ok (.getfield 76, 3)) ∧ (decode cX1_anyHolds 59 = .ok (.iload_n 2, 1)) := by decide +kernel
theorem dX1_anyHolds_30 : decode cX1_anyHolds 30 = .ok (.iaload, 1) := da9_dX1_anyHolds_30.1
theorem dX1_anyHolds_31 : decode cX1_anyHolds 31 = .ok (.iload_n 1, 1) := da9_dX1_anyHolds_30.2.1
theorem dX1_anyHolds_32 : decode cX1_anyHolds 32 = .ok (.if_icmp .ne 42, 3) := da9_dX1_anyHolds_30.2.2.1
theorem dX1_anyHolds_35 : decode cX1_anyHolds 35 = .ok (.aload_n 0, 1) := da9_dX1_anyHolds_30.2.2.2.1
theorem dX1_anyHolds_36 : decode cX1_anyHolds 36 = .ok (.getfield 19, 3) := da9_dX1_anyHolds_30.2.2.2.2.1
theorem dX1_anyHolds_39 : decode cX1_anyHolds 39 = .ok (.aload_n 0, 1) := da9_dX1_anyHolds_30.2.2.2.2.2.1
theorem dX1_anyHolds_40 : decode cX1_anyHolds 40 = .ok (.getfield 15, 3) := da9_dX1_anyHolds_30.2.2.2.2.2.2.1
theorem dX1_anyHolds_43 : decode cX1_anyHolds 43 = .ok (.aload_n 0, 1) := da9_dX1_anyHolds_30.2.2.2.2.2.2.2.1
theorem dX1_anyHolds_44 : decode cX1_anyHolds 44 = .ok (.getfield 15, 3) := da9_dX1_anyHolds_30.2.2.2.2.2.2.2.2.1
theorem dX1_anyHolds_47 : decode cX1_anyHolds 47 = .ok (.getfield 73, 3) := da9_dX1_anyHolds_30.2.2.2.2.2.2.2.2.2.1
theorem dX1_anyHolds_50 : decode cX1_anyHolds 50 = .ok (.iload_n 2, 1) := da9_dX1_anyHolds_30.2.2.2.2.2.2.2.2.2.2.1
theorem dX1_anyHolds_51 : decode cX1_anyHolds 51 = .ok (.iaload, 1) := da9_dX1_anyHolds_30.2.2.2.2.2.2.2.2.2.2.2.1
theorem dX1_anyHolds_52 : decode cX1_anyHolds 52 = .ok (.aload_n 0, 1) := da9_dX1_anyHolds_30.2.2.2.2.2.2.2.2.2.2.2.2.1
theorem dX1_anyHolds_53 : decode cX1_anyHolds 53 = .ok (.getfield 15, 3) := da9_dX1_anyHolds_30.2.2.2.2.2.2.2.2.2.2.2.2.2.1
theorem dX1_anyHolds_56 : decode cX1_anyHolds 56 = .ok (.getfield 76, 3) := da9_dX1_anyHolds_30.2.2.2.2.2.2.2.2.2.2.2.2.2.2.1
theorem dX1_anyHolds_59 : decode cX1_anyHolds 59 = .ok (.iload_n 2, 1) := da9_dX1_anyHolds_30.2.2.2.2.2.2.2.2.2.2.2.2.2.2.2
theorem da9_dX1_anyHolds_60 : (decode cX1_anyHolds 60 = .ok (.iaload, 1)) ∧ (decode cX1_anyHolds 61 = .ok (.aload_n 0, 1)) ∧ (decode cX1_anyHolds 62 = .ok (.getfield 11, 3)) ∧ (decode cX1_anyHolds 65 = .ok (.invokevirtual 79, 3)) ∧ (decode cX1_anyHolds 68 = .ok (.iconst 1, 1)) ∧ (decode cX1_anyHolds 69 = .ok (.if_icmp .ne 5, 3)) ∧ (decode cX1_anyHolds 72 = .ok (.iconst 1, 1)) ∧ (decode cX1_anyHolds 73 = .ok (.ireturn, 1)) ∧ (decode cX1_anyHolds 74 = .ok (.iinc 2 1, 3)) ∧ (decode cX1_anyHolds 77 = .ok (.goto (-66), 3)) ∧ (decode cX1_anyHolds 80 = .ok (.iconst 0, 1)) ∧ (decode cX1_anyHolds 81 = .ok (.ireturn, 1)) := by decide +kernel
theorem dX1_anyHolds_60 : decode cX1_anyHolds 60 = .ok (.iaload, 1) := da9_dX1_anyHolds_60.1
theorem dX1_anyHolds_61 : decode cX1_anyHolds 61 = .ok (.aload_n 0, 1) := da9_dX1_anyHolds_60.2.1
theorem dX1_anyHolds_62 : decode cX1_anyHolds 62 = .ok (.getfield 11, 3) := da9_dX1_anyHolds_60.2.2.1
theorem dX1_anyHolds_65 : decode cX1_anyHolds 65 = .ok (.invokevirtual 79, 3) := da9_dX1_anyHolds_60.2.2.2.1
theorem dX1_anyHolds_68 : decode cX1_anyHolds 68 = .ok (.iconst 1, 1) := da9_dX1_anyHolds_60.2.2.2.2.1
theorem dX1_anyHolds_69 : decode cX1_anyHolds 69 = .ok (.if_icmp .ne 5, 3) := da9_dX1_anyHolds_60.2.2.2.2.2.1
theorem dX1_anyHolds_72 : decode cX1_anyHolds 72 = .ok (.iconst 1, 1) := da9_dX1_anyHolds_60.2.2.2.2.2.2.1
theorem dX1_anyHolds_73 : decode cX1_anyHolds 73 = .ok (.ireturn, 1) := da9_dX1_anyHolds_60.2.2.2.2.2.2.2.1
theorem dX1_anyHolds_74 : decode cX1_anyHolds 74 = .ok (.iinc 2 1, 3) := da9_dX1_anyHolds_60.2.2.2.2.2.2.2.2.1
theorem dX1_anyHolds_77 : decode cX1_anyHolds 77 = .ok (.goto (-66), 3) := da9_dX1_anyHolds_60.2.2.2.2.2.2.2.2.2.1
theorem dX1_anyHolds_80 : decode cX1_anyHolds 80 = .ok (.iconst 0, 1) := da9_dX1_anyHolds_60.2.2.2.2.2.2.2.2.2.2.1
theorem dX1_anyHolds_81 : decode cX1_anyHolds 81 = .ok (.ireturn, 1) := da9_dX1_anyHolds_60.2.2.2.2.2.2.2.2.2.2.2
set_option maxRecDepth 20000 in
theorem ggX1_pay_X2_valueOf : GoodIn wsX1_pay wsX2_valueOf := wd_c vW9_ok mvW9_82
set_option maxRecDepth 20000 in
theorem gX1_pay_X2_valueOf : GoodIn wsX1_pay (wsV RX1 79 RX2 yX2_valueOf wsX2_valueOf) := goodIn_app (wd_l vW9_ok _ pvW9_7) ggX1_pay_X2_valueOf
theorem da9_dX1_pay_0 : (decode cX1_pay 0 = .ok (.aload_n 0, 1)) ∧ (decode cX1_pay 1 = .ok (.getfield 15, 3)) ∧ (decode cX1_pay 4 = .ok (.ifnonnull 10, 3)) ∧ (decode cX1_pay 7 = .ok (.aload_n 0, 1)) ∧ (decode cX1_pay 8 = .ok (.getfield 11, 3)) ∧ (decode cX1_pay 11 = .ok (.iconst 0, 1)) ∧ (decode cX1_pay 12 = .ok (.iaload, 1)) ∧ (decode cX1_pay 13 = .ok (.ireturn, 1)) ∧ (decode cX1_pay 14 = .ok (.aload_n 0, 1)) ∧ (decode cX1_pay 15 = .ok (.getfield 15, 3)) ∧ (decode cX1_pay 18 = .ok (.getfield 65, 3)) ∧ (decode cX1_pay 21 = .ok (.iconst 1, 1)) ∧ (decode cX1_pay 22 = .ok (.isub, 1)) ∧ (decode cX1_pay 23 = .ok (.istore_n 1, 1)) ∧ (decode cX1_pay 24 = .ok (.iload_n 1, 1)) ∧ (decode cX1_pay 25 = .ok (.ifCond .lt 113, 3)) := by decide +kernel
theorem dX1_pay_0 : decode cX1_pay 0 = .ok (.aload_n 0, 1) := da9_dX1_pay_0.1
theorem dX1_pay_1 : decode cX1_pay 1 = .ok (.getfield 15, 3) := da9_dX1_pay_0.2.1
theorem dX1_pay_4 : decode cX1_pay 4 = .ok (.ifnonnull 10, 3) := da9_dX1_pay_0.2.2.1
theorem dX1_pay_7 : decode cX1_pay 7 = .ok (.aload_n 0, 1) := da9_dX1_pay_0.2.2.2.1
theorem dX1_pay_8 : decode cX1_pay 8 = .ok (.getfield 11, 3) := da9_dX1_pay_0.2.2.2.2.1
theorem dX1_pay_11 : decode cX1_pay 11 = .ok (.iconst 0, 1) := da9_dX1_pay_0.2.2.2.2.2.1
theorem dX1_pay_12 : decode cX1_pay 12 = .ok (.iaload, 1) := da9_dX1_pay_0.2.2.2.2.2.2.1
theorem dX1_pay_13 : decode cX1_pay 13 = .ok (.ireturn, 1) := da9_dX1_pay_0.2.2.2.2.2.2.2.1
theorem dX1_pay_14 : decode cX1_pay 14 = .ok (.aload_n 0, 1) := da9_dX1_pay_0.2.2.2.2.2.2.2.2.1
theorem dX1_pay_15 : decode cX1_pay 15 = .ok (.getfield 15, 3) := da9_dX1_pay_0.2.2.2.2.2.2.2.2.2.1
theorem dX1_pay_18 : decode cX1_pay 18 = .ok (.getfield 65, 3) := da9_dX1_pay_0.2.2.2.2.2.2.2.2.2.2.1
theorem dX1_pay_21 : decode cX1_pay 21 = .ok (.iconst 1, 1) := da9_dX1_pay_0.2.2.2.2.2.2.2.2.2.2.2.1
theorem dX1_pay_22 : decode cX1_pay 22 = .ok (.isub, 1) := da9_dX1_pay_0.2.2.2.2.2.2.2.2.2.2.2.2.1
theorem dX1_pay_23 : decode cX1_pay 23 = .ok (.istore_n 1, 1) := da9_dX1_pay_0.2.2.2.2.2.2.2.2.2.2.2.2.2.1
theorem dX1_pay_24 : decode cX1_pay 24 = .ok (.iload_n 1, 1) := da9_dX1_pay_0.2.2.2.2.2.2.2.2.2.2.2.2.2.2.1
theorem dX1_pay_25 : decode cX1_pay 25 = .ok (.ifCond .lt 113, 3) := da9_dX1_pay_0.2.2.2.2.2.2.2.2.2.2.2.2.2.2.2
theorem da9_dX1_pay_28 : (decode cX1_pay 28 = .ok (.aload_n 0, 1)) ∧ (decode cX1_pay 29 = .ok (.getfield 15, 3)) ∧ (decode cX1_pay 32 = .ok (.getfield 70, 3)) ∧ (decode cX1_pay 35 = .ok (.iload_n 1, 1)) ∧ (decode cX1_pay 36 = .ok (.iaload, 1)) ∧ (decode cX1_pay 37 = .ok (.ifCond .ne 95, 3)) ∧ (decode cX1_pay 40 = .ok (.aload_n 0, 1)) ∧ (decode cX1_pay 41 = .ok (.getfield 19, 3)) ∧ (decode cX1_pay 44 = .ok (.aload_n 0, 1)) ∧ (decode cX1_pay 45 = .ok (.getfield 15, 3)) ∧ (decode cX1_pay 48 = .ok (.aload_n 0, 1)) ∧ (decode cX1_pay 49 = .ok (.getfield 15, 3)) ∧ (decode cX1_pay 52 = .ok (.getfield 73, 3)) ∧ (decode cX1_pay 55 = .ok (.iload_n 1, 1)) ∧ (decode cX1_pay 56 = .ok (.iaload, 1)) ∧ (decode cX1_pay 57 = .ok (.aload_n 0, 1)) := by decide +kernel
theorem dX1_pay_28 : decode cX1_pay 28 = .ok (.aload_n 0, 1) := da9_dX1_pay_28.1
theorem dX1_pay_29 : decode cX1_pay 29 = .ok (.getfield 15, 3) := da9_dX1_pay_28.2.1
theorem dX1_pay_32 : decode cX1_pay 32 = .ok (.getfield 70, 3) := da9_dX1_pay_28.2.2.1
theorem dX1_pay_35 : decode cX1_pay 35 = .ok (.iload_n 1, 1) := da9_dX1_pay_28.2.2.2.1
theorem dX1_pay_36 : decode cX1_pay 36 = .ok (.iaload, 1) := da9_dX1_pay_28.2.2.2.2.1
theorem dX1_pay_37 : decode cX1_pay 37 = .ok (.ifCond .ne 95, 3) := da9_dX1_pay_28.2.2.2.2.2.1
theorem dX1_pay_40 : decode cX1_pay 40 = .ok (.aload_n 0, 1) := da9_dX1_pay_28.2.2.2.2.2.2.1
theorem dX1_pay_41 : decode cX1_pay 41 = .ok (.getfield 19, 3) := da9_dX1_pay_28.2.2.2.2.2.2.2.1
theorem dX1_pay_44 : decode cX1_pay 44 = .ok (.aload_n 0, 1) := da9_dX1_pay_28.2.2.2.2.2.2.2.2.1
theorem dX1_pay_45 : decode cX1_pay 45 = .ok (.getfield 15, 3) := da9_dX1_pay_28.2.2.2.2.2.2.2.2.2.1
theorem dX1_pay_48 : decode cX1_pay 48 = .ok (.aload_n 0, 1) := da9_dX1_pay_28.2.2.2.2.2.2.2.2.2.2.1
theorem dX1_pay_49 : decode cX1_pay 49 = .ok (.getfield 15, 3) := da9_dX1_pay_28.2.2.2.2.2.2.2.2.2.2.2.1
theorem dX1_pay_52 : decode cX1_pay 52 = .ok (.getfield 73, 3) := da9_dX1_pay_28.2.2.2.2.2.2.2.2.2.2.2.2.1
theorem dX1_pay_55 : decode cX1_pay 55 = .ok (.iload_n 1, 1) := da9_dX1_pay_28.2.2.2.2.2.2.2.2.2.2.2.2.2.1
theorem dX1_pay_56 : decode cX1_pay 56 = .ok (.iaload, 1) := da9_dX1_pay_28.2.2.2.2.2.2.2.2.2.2.2.2.2.2.1
theorem dX1_pay_57 : decode cX1_pay 57 = .ok (.aload_n 0, 1) := da9_dX1_pay_28.2.2.2.2.2.2.2.2.2.2.2.2.2.2.2
theorem da9_dX1_pay_58 : (decode cX1_pay 58 = .ok (.getfield 15, 3)) ∧ (decode cX1_pay 61 = .ok (.getfield 76, 3)) ∧ (decode cX1_pay 64 = .ok (.iload_n 1, 1)) ∧ (decode cX1_pay 65 = .ok (.iaload, 1)) ∧ (decode cX1_pay 66 = .ok (.aload_n 0, 1)) ∧ (decode cX1_pay 67 = .ok (.getfield 11, 3)) ∧ (decode cX1_pay 70 = .ok (.invokevirtual 79, 3)) ∧ (decode cX1_pay 73 = .ok (.iconst 1, 1)) ∧ (decode cX1_pay 74 = .ok (.if_icmp .ne 58, 3)) ∧ (decode cX1_pay 77 = .ok (.aload_n 0, 1)) ∧ (decode cX1_pay 78 = .ok (.getfield 19, 3)) ∧ (decode cX1_pay 81 = .ok (.aload_n 0, 1)) ∧ (decode cX1_pay 82 = .ok (.getfield 15, 3)) ∧ (decode cX1_pay 85 = .ok (.aload_n 0, 1)) ∧ (decode cX1_pay 86 = .ok (.getfield 15, 3)) ∧ (decode cX1_pay 89 = .ok (.getfield 85, 3)) := by decide +kernel
theorem dX1_pay_58 : decode cX1_pay 58 = .ok (.getfield 15, 3) := da9_dX1_pay_58.1
theorem dX1_pay_61 : decode cX1_pay 61 = .ok (.getfield 76, 3) := da9_dX1_pay_58.2.1
theorem dX1_pay_64 : decode cX1_pay 64 = .ok (.iload_n 1, 1) := da9_dX1_pay_58.2.2.1
theorem dX1_pay_65 : decode cX1_pay 65 = .ok (.iaload, 1) := da9_dX1_pay_58.2.2.2.1
theorem dX1_pay_66 : decode cX1_pay 66 = .ok (.aload_n 0, 1) := da9_dX1_pay_58.2.2.2.2.1
theorem dX1_pay_67 : decode cX1_pay 67 = .ok (.getfield 11, 3) := da9_dX1_pay_58.2.2.2.2.2.1
theorem dX1_pay_70 : decode cX1_pay 70 = .ok (.invokevirtual 79, 3) := da9_dX1_pay_58.2.2.2.2.2.2.1
theorem dX1_pay_73 : decode cX1_pay 73 = .ok (.iconst 1, 1) := da9_dX1_pay_58.2.2.2.2.2.2.2.1
theorem dX1_pay_74 : decode cX1_pay 74 = .ok (.if_icmp .ne 58, 3) := da9_dX1_pay_58.2.2.2.2.2.2.2.2.1
theorem dX1_pay_77 : decode cX1_pay 77 = .ok (.aload_n 0, 1) := da9_dX1_pay_58.2.2.2.2.2.2.2.2.2.1
theorem dX1_pay_78 : decode cX1_pay 78 = .ok (.getfield 19, 3) := da9_dX1_pay_58.2.2.2.2.2.2.2.2.2.2.1
theorem dX1_pay_81 : decode cX1_pay 81 = .ok (.aload_n 0, 1) := da9_dX1_pay_58.2.2.2.2.2.2.2.2.2.2.2.1
theorem dX1_pay_82 : decode cX1_pay 82 = .ok (.getfield 15, 3) := da9_dX1_pay_58.2.2.2.2.2.2.2.2.2.2.2.2.1
theorem dX1_pay_85 : decode cX1_pay 85 = .ok (.aload_n 0, 1) := da9_dX1_pay_58.2.2.2.2.2.2.2.2.2.2.2.2.2.1
theorem dX1_pay_86 : decode cX1_pay 86 = .ok (.getfield 15, 3) := da9_dX1_pay_58.2.2.2.2.2.2.2.2.2.2.2.2.2.2.1
theorem dX1_pay_89 : decode cX1_pay 89 = .ok (.getfield 85, 3) := da9_dX1_pay_58.2.2.2.2.2.2.2.2.2.2.2.2.2.2.2
theorem da9_dX1_pay_92 : (decode cX1_pay 92 = .ok (.iload_n 1, 1)) ∧ (decode cX1_pay 93 = .ok (.iaload, 1)) ∧ (decode cX1_pay 94 = .ok (.aload_n 0, 1)) ∧ (decode cX1_pay 95 = .ok (.getfield 15, 3)) ∧ (decode cX1_pay 98 = .ok (.getfield 73, 3)) ∧ (decode cX1_pay 101 = .ok (.iload_n 1, 1)) ∧ (decode cX1_pay 102 = .ok (.iaload, 1)) ∧ (decode cX1_pay 103 = .ok (.aload_n 0, 1)) ∧ (decode cX1_pay 104 = .ok (.getfield 11, 3)) ∧ (decode cX1_pay 107 = .ok (.invokevirtual 79, 3)) ∧ (decode cX1_pay 110 = .ok (.istore_n 2, 1)) ∧ (decode cX1_pay 111 = .ok (.aload_n 0, 1)) ∧ (decode cX1_pay 112 = .ok (.getfield 19, 3)) ∧ (decode cX1_pay 115 = .ok (.getfield 88, 3)) ∧ (decode cX1_pay 118 = .ok (.ifCond .ne 14, 3)) ∧ (decode cX1_pay 121 = .ok (.iconst 0, 1)) := by decide +kernel
theorem dX1_pay_92 : decode cX1_pay 92 = .ok (.iload_n 1, 1) := da9_dX1_pay_92.1
theorem dX1_pay_93 : decode cX1_pay 93 = .ok (.iaload, 1) := da9_dX1_pay_92.2.1
theorem dX1_pay_94 : decode cX1_pay 94 = .ok (.aload_n 0, 1) := da9_dX1_pay_92.2.2.1
theorem dX1_pay_95 : decode cX1_pay 95 = .ok (.getfield 15, 3) := da9_dX1_pay_92.2.2.2.1
theorem dX1_pay_98 : decode cX1_pay 98 = .ok (.getfield 73, 3) := da9_dX1_pay_92.2.2.2.2.1
theorem dX1_pay_101 : decode cX1_pay 101 = .ok (.iload_n 1, 1) := da9_dX1_pay_92.2.2.2.2.2.1
theorem dX1_pay_102 : decode cX1_pay 102 = .ok (.iaload, 1) := da9_dX1_pay_92.2.2.2.2.2.2.1
theorem dX1_pay_103 : decode cX1_pay 103 = .ok (.aload_n 0, 1) := da9_dX1_pay_92.2.2.2.2.2.2.2.1
theorem dX1_pay_104 : decode cX1_pay 104 = .ok (.getfield 11, 3) := da9_dX1_pay_92.2.2.2.2.2.2.2.2.1
theorem dX1_pay_107 : decode cX1_pay 107 = .ok (.invokevirtual 79, 3) := da9_dX1_pay_92.2.2.2.2.2.2.2.2.2.1
theorem dX1_pay_110 : decode cX1_pay 110 = .ok (.istore_n 2, 1) := da9_dX1_pay_92.2.2.2.2.2.2.2.2.2.2.1
theorem dX1_pay_111 : decode cX1_pay 111 = .ok (.aload_n 0, 1) := da9_dX1_pay_92.2.2.2.2.2.2.2.2.2.2.2.1
theorem dX1_pay_112 : decode cX1_pay 112 = .ok (.getfield 19, 3) := da9_dX1_pay_92.2.2.2.2.2.2.2.2.2.2.2.2.1
theorem dX1_pay_115 : decode cX1_pay 115 = .ok (.getfield 88, 3) := da9_dX1_pay_92.2.2.2.2.2.2.2.2.2.2.2.2.2.1
theorem dX1_pay_118 : decode cX1_pay 118 = .ok (.ifCond .ne 14, 3) := da9_dX1_pay_92.2.2.2.2.2.2.2.2.2.2.2.2.2.2.1
theorem dX1_pay_121 : decode cX1_pay 121 = .ok (.iconst 0, 1) := da9_dX1_pay_92.2.2.2.2.2.2.2.2.2.2.2.2.2.2.2
theorem da9_dX1_pay_122 : (decode cX1_pay 122 = .ok (.bipush 99, 2)) ∧ (decode cX1_pay 124 = .ok (.iload_n 2, 1)) ∧ (decode cX1_pay 125 = .ok (.invokestatic 92, 3)) ∧ (decode cX1_pay 128 = .ok (.invokestatic 97, 3)) ∧ (decode cX1_pay 131 = .ok (.ireturn, 1)) ∧ (decode cX1_pay 132 = .ok (.iinc 1 (-1), 3)) ∧ (decode cX1_pay 135 = .ok (.goto (-111), 3)) ∧ (decode cX1_pay 138 = .ok (.aload_n 0, 1)) ∧ (decode cX1_pay 139 = .ok (.getfield 11, 3)) ∧ (decode cX1_pay 142 = .ok (.iconst 0, 1)) ∧ (decode cX1_pay 143 = .ok (.iaload, 1)) ∧ (decode cX1_pay 144 = .ok (.ireturn, 1)) := by decide +kernel
theorem dX1_pay_122 : decode cX1_pay 122 = .ok (.bipush 99, 2) := da9_dX1_pay_122.1
theorem dX1_pay_124 : decode cX1_pay 124 = .ok (.iload_n 2, 1) := da9_dX1_pay_122.2.1
theorem dX1_pay_125 : decode cX1_pay 125 = .ok (.invokestatic 92, 3) := da9_dX1_pay_122.2.2.1
theorem dX1_pay_128 : decode cX1_pay 128 = .ok (.invokestatic 97, 3) := da9_dX1_pay_122.2.2.2.1
theorem dX1_pay_131 : decode cX1_pay 131 = .ok (.ireturn, 1) := da9_dX1_pay_122.2.2.2.2.1
theorem dX1_pay_132 : decode cX1_pay 132 = .ok (.iinc 1 (-1), 3) := da9_dX1_pay_122.2.2.2.2.2.1
theorem dX1_pay_135 : decode cX1_pay 135 = .ok (.goto (-111), 3) := da9_dX1_pay_122.2.2.2.2.2.2.1
theorem dX1_pay_138 : decode cX1_pay 138 = .ok (.aload_n 0, 1) := da9_dX1_pay_122.2.2.2.2.2.2.2.1
theorem dX1_pay_139 : decode cX1_pay 139 = .ok (.getfield 11, 3) := da9_dX1_pay_122.2.2.2.2.2.2.2.2.1
theorem dX1_pay_142 : decode cX1_pay 142 = .ok (.iconst 0, 1) := da9_dX1_pay_122.2.2.2.2.2.2.2.2.2.1
theorem dX1_pay_143 : decode cX1_pay 143 = .ok (.iaload, 1) := da9_dX1_pay_122.2.2.2.2.2.2.2.2.2.2.1
theorem dX1_pay_144 : decode cX1_pay 144 = .ok (.ireturn, 1) := da9_dX1_pay_122.2.2.2.2.2.2.2.2.2.2.2
set_option maxRecDepth 20000 in
theorem ggX9_at_X8_isFloor : GoodIn wsX9_at wsX8_isFloor := wd_c vW9_ok mvW9_40
set_option maxRecDepth 20000 in
theorem gX9_at_X8_isFloor : GoodIn wsX9_at (wsV RX9 141 RX8 yX8_isFloor wsX8_isFloor) := goodIn_app (wd_l vW9_ok _ pvW9_96) ggX9_at_X8_isFloor
set_option maxRecDepth 20000 in
theorem ggX9_at_X9_seated : GoodIn wsX9_at wsX9_seated := wd_c vW9_ok mvW9_44
set_option maxRecDepth 20000 in
theorem gX9_at_X9_seated : GoodIn wsX9_at (wsV RX9 144 RX9 yX9_seated wsX9_seated) := goodIn_app (wd_l vW9_ok _ pvW9_97) ggX9_at_X9_seated
set_option maxRecDepth 20000 in
theorem ggX9_at_X1_tips : GoodIn wsX9_at wsX1_tips := wd_c vW9_ok mvW9_67
set_option maxRecDepth 20000 in
theorem gX9_at_X1_tips : GoodIn wsX9_at (wsV RX9 148 RX1 yX1_tips wsX1_tips) := goodIn_app (wd_l vW9_ok _ pvW9_98) ggX9_at_X1_tips
set_option maxRecDepth 20000 in
theorem ggX9_at_X9_bit : GoodIn wsX9_at wsX9_bit := wd_c vW9_ok mvW9_97
set_option maxRecDepth 20000 in
theorem gX9_at_X9_bit : GoodIn wsX9_at (va_wsS RX9 152 yX9_bit wsX9_bit) := goodIn_app (wd_l vW9_ok _ pvW9_99) ggX9_at_X9_bit
set_option maxRecDepth 20000 in
theorem ggX9_at_X8_tell : GoodIn wsX9_at wsX8_tell := wd_c vW9_ok mvW9_101
set_option maxRecDepth 20000 in
theorem gX9_at_X8_tell : GoodIn wsX9_at (wsV RX9 156 RX8 yX8_tell wsX8_tell) := goodIn_app (wd_l vW9_ok _ pvW9_100) ggX9_at_X8_tell
theorem da9_dX9_at_0 : (decode cX9_at 0 = .ok (.iload_n 2, 1)) ∧ (decode cX9_at 1 = .ok (.iconst 2, 1)) ∧ (decode cX9_at 2 = .ok (.if_icmp .ne 40, 3)) ∧ (decode cX9_at 5 = .ok (.aload_n 0, 1)) ∧ (decode cX9_at 6 = .ok (.getfield 10, 3)) ∧ (decode cX9_at 9 = .ok (.getfield 122, 3)) ∧ (decode cX9_at 12 = .ok (.iload_n 1, 1)) ∧ (decode cX9_at 13 = .ok (.invokevirtual 141, 3)) ∧ (decode cX9_at 16 = .ok (.ifCond .eq 24, 3)) ∧ (decode cX9_at 19 = .ok (.aload_n 0, 1)) ∧ (decode cX9_at 20 = .ok (.invokevirtual 144, 3)) ∧ (decode cX9_at 23 = .ok (.aload_n 0, 1)) ∧ (decode cX9_at 24 = .ok (.getfield 10, 3)) ∧ (decode cX9_at 27 = .ok (.getfield 122, 3)) ∧ (decode cX9_at 30 = .ok (.iload_n 1, 1)) ∧ (decode cX9_at 31 = .ok (.invokevirtual 148, 3)) := by decide +kernel
theorem dX9_at_0 : decode cX9_at 0 = .ok (.iload_n 2, 1) := da9_dX9_at_0.1
theorem dX9_at_1 : decode cX9_at 1 = .ok (.iconst 2, 1) := da9_dX9_at_0.2.1
theorem dX9_at_2 : decode cX9_at 2 = .ok (.if_icmp .ne 40, 3) := da9_dX9_at_0.2.2.1
theorem dX9_at_5 : decode cX9_at 5 = .ok (.aload_n 0, 1) := da9_dX9_at_0.2.2.2.1
theorem dX9_at_6 : decode cX9_at 6 = .ok (.getfield 10, 3) := da9_dX9_at_0.2.2.2.2.1
theorem dX9_at_9 : decode cX9_at 9 = .ok (.getfield 122, 3) := da9_dX9_at_0.2.2.2.2.2.1
theorem dX9_at_12 : decode cX9_at 12 = .ok (.iload_n 1, 1) := da9_dX9_at_0.2.2.2.2.2.2.1
theorem dX9_at_13 : decode cX9_at 13 = .ok (.invokevirtual 141, 3) := da9_dX9_at_0.2.2.2.2.2.2.2.1
theorem dX9_at_16 : decode cX9_at 16 = .ok (.ifCond .eq 24, 3) := da9_dX9_at_0.2.2.2.2.2.2.2.2.1
theorem dX9_at_19 : decode cX9_at 19 = .ok (.aload_n 0, 1) := da9_dX9_at_0.2.2.2.2.2.2.2.2.2.1
theorem dX9_at_20 : decode cX9_at 20 = .ok (.invokevirtual 144, 3) := da9_dX9_at_0.2.2.2.2.2.2.2.2.2.2.1
theorem dX9_at_23 : decode cX9_at 23 = .ok (.aload_n 0, 1) := da9_dX9_at_0.2.2.2.2.2.2.2.2.2.2.2.1
theorem dX9_at_24 : decode cX9_at 24 = .ok (.getfield 10, 3) := da9_dX9_at_0.2.2.2.2.2.2.2.2.2.2.2.2.1
theorem dX9_at_27 : decode cX9_at 27 = .ok (.getfield 122, 3) := da9_dX9_at_0.2.2.2.2.2.2.2.2.2.2.2.2.2.1
theorem dX9_at_30 : decode cX9_at 30 = .ok (.iload_n 1, 1) := da9_dX9_at_0.2.2.2.2.2.2.2.2.2.2.2.2.2.2.1
theorem dX9_at_31 : decode cX9_at 31 = .ok (.invokevirtual 148, 3) := da9_dX9_at_0.2.2.2.2.2.2.2.2.2.2.2.2.2.2.2
theorem da9_dX9_at_34 : (decode cX9_at 34 = .ok (.invokestatic 152, 3)) ∧ (decode cX9_at 37 = .ok (.goto 4, 3)) ∧ (decode cX9_at 40 = .ok (.iconst (-1), 1)) ∧ (decode cX9_at 41 = .ok (.ireturn, 1)) ∧ (decode cX9_at 42 = .ok (.aload_n 0, 1)) ∧ (decode cX9_at 43 = .ok (.getfield 10, 3)) ∧ (decode cX9_at 46 = .ok (.getfield 122, 3)) ∧ (decode cX9_at 49 = .ok (.iload_n 1, 1)) ∧ (decode cX9_at 50 = .ok (.iload_n 2, 1)) ∧ (decode cX9_at 51 = .ok (.invokevirtual 156, 3)) ∧ (decode cX9_at 54 = .ok (.ireturn, 1)) := by decide +kernel
theorem dX9_at_34 : decode cX9_at 34 = .ok (.invokestatic 152, 3) := da9_dX9_at_34.1
theorem dX9_at_37 : decode cX9_at 37 = .ok (.goto 4, 3) := da9_dX9_at_34.2.1
theorem dX9_at_40 : decode cX9_at 40 = .ok (.iconst (-1), 1) := da9_dX9_at_34.2.2.1
theorem dX9_at_41 : decode cX9_at 41 = .ok (.ireturn, 1) := da9_dX9_at_34.2.2.2.1
theorem dX9_at_42 : decode cX9_at 42 = .ok (.aload_n 0, 1) := da9_dX9_at_34.2.2.2.2.1
theorem dX9_at_43 : decode cX9_at 43 = .ok (.getfield 10, 3) := da9_dX9_at_34.2.2.2.2.2.1
theorem dX9_at_46 : decode cX9_at 46 = .ok (.getfield 122, 3) := da9_dX9_at_34.2.2.2.2.2.2.1
theorem dX9_at_49 : decode cX9_at 49 = .ok (.iload_n 1, 1) := da9_dX9_at_34.2.2.2.2.2.2.2.1
theorem dX9_at_50 : decode cX9_at 50 = .ok (.iload_n 2, 1) := da9_dX9_at_34.2.2.2.2.2.2.2.2.1
theorem dX9_at_51 : decode cX9_at 51 = .ok (.invokevirtual 156, 3) := da9_dX9_at_34.2.2.2.2.2.2.2.2.2.1
theorem dX9_at_54 : decode cX9_at 54 = .ok (.ireturn, 1) := da9_dX9_at_34.2.2.2.2.2.2.2.2.2.2
theorem da9_dX9_bit_0 : (decode cX9_bit 0 = .ok (.iload_n 0, 1)) ∧ (decode cX9_bit 1 = .ok (.ifCond .eq 7, 3)) ∧ (decode cX9_bit 4 = .ok (.iconst 1, 1)) ∧ (decode cX9_bit 5 = .ok (.goto 4, 3)) ∧ (decode cX9_bit 8 = .ok (.iconst 0, 1)) ∧ (decode cX9_bit 9 = .ok (.ireturn, 1)) := by decide +kernel
theorem dX9_bit_0 : decode cX9_bit 0 = .ok (.iload_n 0, 1) := da9_dX9_bit_0.1
theorem dX9_bit_1 : decode cX9_bit 1 = .ok (.ifCond .eq 7, 3) := da9_dX9_bit_0.2.1
theorem dX9_bit_4 : decode cX9_bit 4 = .ok (.iconst 1, 1) := da9_dX9_bit_0.2.2.1
theorem dX9_bit_5 : decode cX9_bit 5 = .ok (.goto 4, 3) := da9_dX9_bit_0.2.2.2.1
theorem dX9_bit_8 : decode cX9_bit 8 = .ok (.iconst 0, 1) := da9_dX9_bit_0.2.2.2.2.1
theorem dX9_bit_9 : decode cX9_bit 9 = .ok (.ireturn, 1) := da9_dX9_bit_0.2.2.2.2.2
end
section
theorem u9_wsX1_anyHolds_X1 : ∀ w ∈ u_ws RX1 TX1 3, w ∈ wsX1_anyHolds := fun w h => List.mem_cons_of_mem _ (vW9_wsX10 w h)
theorem u9_wsX1_anyHolds_X7 : ∀ w ∈ u_ws RX7 TX7 8, w ∈ wsX1_anyHolds := fun w h => List.mem_cons_of_mem _ (vW9_wsX70 w h)
theorem f9_wsX1_anyHolds_395 : (Cond.fieldLink RX1 15 "TurnedFloors$Judge" "law" "LTurnedFloors$Text;") ∈ wsX1_anyHolds := List.mem_cons_of_mem _ mvW9_62
theorem f9_wsX1_anyHolds_396 : (Cond.fieldLink RX1 19 "TurnedFloors$Judge" "machine" "LTurnedFloors$Machine;") ∈ wsX1_anyHolds := List.mem_cons_of_mem _ mvW9_77
theorem f9_wsX1_anyHolds_397 : (Cond.fieldLink RX1 11 "TurnedFloors$Judge" "words" "[I") ∈ wsX1_anyHolds := List.mem_cons_of_mem _ mvW9_63
theorem u9_wsX1_tips_X8 : ∀ w ∈ u_ws RX8 TX8 5, w ∈ wsX1_tips := fun w h => List.mem_cons_of_mem _ (vW9_wsX80 w h)
theorem u9_wsX1_tips_X1 : ∀ w ∈ u_ws RX1 TX1 3, w ∈ wsX1_tips := fun w h => List.mem_cons_of_mem _ (vW9_wsX10 w h)
theorem f9_wsX1_tips_400 : (Cond.fieldLink RX1 11 "TurnedFloors$Judge" "words" "[I") ∈ wsX1_tips := List.mem_cons_of_mem _ mvW9_63
theorem u9_wsX9_at_X9 : ∀ w ∈ u_ws RX9 TX9 19, w ∈ wsX9_at := fun w h => List.mem_cons_of_mem _ (vW9_wsX90 w h)
theorem u9_wsX9_at_X6 : ∀ w ∈ u_ws RX6 TX6 10, w ∈ wsX9_at := fun w h => List.mem_cons_of_mem _ (vW9_wsX60 w h)
theorem f9_wsX9_at_403 : (Cond.fieldLink RX9 10 "TurnedFloors" "state" "LTurnedFloors$State;") ∈ wsX9_at := List.mem_cons_of_mem _ mvW9_0
theorem u9_wsX1_setGrip_X1 : ∀ w ∈ u_ws RX1 TX1 3, w ∈ wsX1_setGrip := fun w h => List.mem_cons_of_mem _ (vW9_wsX10 w h)
theorem f9_wsX1_setGrip_405 : (Cond.fieldLink RX1 11 "TurnedFloors$Judge" "words" "[I") ∈ wsX1_setGrip := List.mem_cons_of_mem _ mvW9_63
theorem u9_wsX1_setTurn_X8 : ∀ w ∈ u_ws RX8 TX8 5, w ∈ wsX1_setTurn := fun w h => List.mem_cons_of_mem _ (vW9_wsX80 w h)
theorem u9_wsX1_pay_X1 : ∀ w ∈ u_ws RX1 TX1 3, w ∈ wsX1_pay := fun w h => List.mem_cons_of_mem _ (vW9_wsX10 w h)
theorem u9_wsX1_pay_X7 : ∀ w ∈ u_ws RX7 TX7 8, w ∈ wsX1_pay := fun w h => List.mem_cons_of_mem _ (vW9_wsX70 w h)
theorem u9_wsX1_pay_X2 : ∀ w ∈ u_ws RX2 TX2 2, w ∈ wsX1_pay := fun w h => List.mem_cons_of_mem _ (vW9_wsX20 w h)
theorem f9_wsX1_pay_410 : (Cond.fieldLink RX1 11 "TurnedFloors$Judge" "words" "[I") ∈ wsX1_pay := List.mem_cons_of_mem _ mvW9_63
theorem f9_wsX1_pay_411 : (Cond.fieldLink RX1 15 "TurnedFloors$Judge" "law" "LTurnedFloors$Text;") ∈ wsX1_pay := List.mem_cons_of_mem _ mvW9_62
theorem f9_wsX1_pay_412 : (Cond.fieldLink RX1 19 "TurnedFloors$Judge" "machine" "LTurnedFloors$Machine;") ∈ wsX1_pay := List.mem_cons_of_mem _ mvW9_77
theorem f9_wsX1_pay_413 : (Cond.methodLink RX1 92 Lib.Math.min.name) ∈ wsX1_pay := List.mem_cons_of_mem _ mvW9_120
theorem f9_wsX1_pay_414 : (Cond.static Lib.Math.min.name) ∈ wsX1_pay := List.mem_cons_of_mem _ mvW9_86
theorem f9_wsX1_pay_415 : (Cond.initialized "java/lang/Math") ∈ wsX1_pay := List.mem_cons_of_mem _ mvW9_87
theorem f9_wsX1_pay_416 : (Cond.code Lib.Math.min.name Lib.Math.min.code 2 (some .int)) ∈ wsX1_pay := List.mem_cons_of_mem _ mvW9_88
theorem f9_wsX1_pay_417 : (Cond.methodLink RX1 97 Lib.Math.max.name) ∈ wsX1_pay := List.mem_cons_of_mem _ mvW9_121
theorem f9_wsX1_pay_418 : (Cond.static Lib.Math.max.name) ∈ wsX1_pay := List.mem_cons_of_mem _ mvW9_122
theorem f9_wsX1_pay_419 : (Cond.code Lib.Math.max.name Lib.Math.max.code 2 (some .int)) ∈ wsX1_pay := List.mem_cons_of_mem _ mvW9_123
set_option maxHeartbeats 4000000 in
set_option maxRecDepth 100000 in
theorem WX1_anyHolds_s20_74 {p : Program} {l : Launch} {e : Env} {s : State} {m : MethodId} {args : Array Value} {below : List Frame} {meth : Method} {c : Code} {D : va_G} {ty : Nat → ClassId} {eo : Nat → Nat} {A : Nat → Prop} {ad : Nat → Nat} {o1 : Int32} {o2 : dK} (C : dc_C p s m args meth c cX1_anyHolds (some .boolean) 3 RX1 wsX1_anyHolds D ty eo A) {k11 : dK → Int32 → Int32 → Option (Int32 × dK)} (hk11 : ∀ (q : dK) (x1 : Int32) (x2 : Int32) (H : Heap) (locs : List Loc) (ls : Array Slot), k11 q x1 x2 = some (o1, o2) → va_P D vwCl (wF ty ad q) H → va_D A (wF ty ad q) → va_S A s.heap H locs → lv_has ls 3 [(0, .ref (ad 20)), (1, .int x1), (2, .int x2)] → W p l e ({ frames := 2, cells := 0, slots := 0, locals := 59 } : Room) s m args below meth c H locs 0 0 (MQ below (va_Qi (fun (r : Int32) (u : va_W) => o1 = r ∧ wF ty ad o2 = u) (kz_B D ty A) A) args s 0 0 A) (F0 m 11 ls [])) (q : dK) (x1 : Int32) (x2 : Int32) (H : Heap) (locs : List Loc) (ls : Array Slot) (h : zX1_anyHolds_s20_74 k11 q x1 x2 = some (o1, o2)) (hP : va_P D vwCl (wF ty ad q) H) (hD : va_D A (wF ty ad q)) (hS : va_S A s.heap H locs) (hl : lv_has ls 3 [(0, .ref (ad 20)), (1, .int x1), (2, .int x2)]) : W p l e ({ frames := 2, cells := 0, slots := 0, locals := 59 } : Room) s m args below meth c H locs 0 0 (MQ below (va_Qi (fun (r : Int32) (u : va_W) => o1 = r ∧ wF ty ad o2 = u) (kz_B D ty A) A) args s 0 0 A) (F0 m 74 ls []) := by
  have C0 := C
  obtain ⟨hx, hb, hr, hts, hown, hlocks, hml, hK, hN, hE, hA⟩ := C
  unfold zX1_anyHolds_s20_74 at h
  refine lv_iinc (v := x2 + 1) (lv' := [(2, .int (x2 + 1)), (0, .ref (ad 20)), (1, .int x1)]) hx hb dX1_anyHolds_74 hl (k := 2) rfl rfl (by decide) rfl (fun ls hl => ?_)
  refine lv_goto (tgt := 11) hx hb dX1_anyHolds_77 (by decide) ?_
  exact hk11 _ _ _ _ _ _ h hP hD hS (lv_sub hl [1, 2, 0] rfl)
set_option maxHeartbeats 4000000 in
set_option maxRecDepth 100000 in
theorem WX1_anyHolds_s20_11b {p : Program} {l : Launch} {e : Env} {s : State} {m : MethodId} {args : Array Value} {below : List Frame} {meth : Method} {c : Code} {D : va_G} {ty : Nat → ClassId} {eo : Nat → Nat} {A : Nat → Prop} {ad : Nat → Nat} {o1 : Int32} {o2 : dK} (C : dc_C p s m args meth c cX1_anyHolds (some .boolean) 3 RX1 wsX1_anyHolds D ty eo A) {k11 : dK → Int32 → Int32 → Option (Int32 × dK)} (hk11 : ∀ (q : dK) (x1 : Int32) (x2 : Int32) (H : Heap) (locs : List Loc) (ls : Array Slot), k11 q x1 x2 = some (o1, o2) → va_P D vwCl (wF ty ad q) H → va_D A (wF ty ad q) → va_S A s.heap H locs → lv_has ls 3 [(0, .ref (ad 20)), (1, .int x1), (2, .int x2)] → W p l e ({ frames := 2, cells := 0, slots := 0, locals := 59 } : Room) s m args below meth c H locs 0 0 (MQ below (va_Qi (fun (r : Int32) (u : va_W) => o1 = r ∧ wF ty ad o2 = u) (kz_B D ty A) A) args s 0 0 A) (F0 m 11 ls [])) (q : dK) (x1 : Int32) (x2 : Int32) (H : Heap) (locs : List Loc) (ls : Array Slot) (h : zX1_anyHolds_s20_11b k11 q x1 x2 = some (o1, o2)) (hP : va_P D vwCl (wF ty ad q) H) (hD : va_D A (wF ty ad q)) (hS : va_S A s.heap H locs) (hl : lv_has ls 3 [(0, .ref (ad 20)), (1, .int x1), (2, .int x2)]) : W p l e ({ frames := 2, cells := 0, slots := 0, locals := 59 } : Room) s m args below meth c H locs 0 0 (MQ below (va_Qi (fun (r : Int32) (u : va_W) => o1 = r ∧ wF ty ad o2 = u) (kz_B D ty A) A) args s 0 0 A) (F0 m 11 ls []) := by
  have C0 := C
  obtain ⟨hx, hb, hr, hts, hown, hlocks, hml, hK, hN, hE, hA⟩ := C
  unfold zX1_anyHolds_s20_11b at h
  refine lv_iload_n hx hb dX1_anyHolds_11 rfl (lv_at hl 2 rfl) ?_
  refine lv_aload_n hx hb dX1_anyHolds_12 rfl (lv_at hl 0 rfl) ?_
  refine va_get (D := D) (ci := 1) (v := dLw ad (q.1 20 2)) (C := RX1) (T := TX1) (N := 3) hx hb hts u9_wsX1_anyHolds_X1 hown hK hP 20 rfl rfl 2 (by decide) (hts (.fieldLink RX1 15 "TurnedFloors$Judge" "law" "LTurnedFloors$Text;") f9_wsX1_anyHolds_395) (fun _ h9 => h9) rfl dX1_anyHolds_13 ?_
  obtain ⟨g1, h⟩ := dG_some h
  refine kz_topv (if_neg (dlg_ne g1)) ?_
  obtain ⟨g2, h⟩ := dG_some h
  refine va_getN (D := D) (ci := 7) (v := .int ((dTx q (q.1 20 2)).1)) (C := RX7) (T := TX7) (N := 8) hx hb hts u9_wsX1_anyHolds_X7 hown hK hP _ (lw_o g2) rfl 6 (by decide) (hN.use (.fieldLinkNest "TurnedFloors$Judge" 65 "TurnedFloors$Text" "clauses" "I" "TurnedFloors") nn9_5) (fun _ h9 => h9) rfl dX1_anyHolds_16 ?_
  refine lv_icmp_ge (tgt := 80) hx hb dX1_anyHolds_19 (by decide) (fun c9 => ?_) (fun c9 => ?_)
  · rw [if_pos c9] at h
    refine lv_iconst (v := 0) hx hb dX1_anyHolds_80 (by decide) ?_
    cases h
    exact kz_zret hx hb hr hlocks rfl hP hK hD hS dX1_anyHolds_81 ⟨rfl, rfl⟩
  · rw [if_neg c9] at h
    refine lv_aload_n hx hb dX1_anyHolds_22 rfl (lv_at hl 0 rfl) ?_
    refine va_get (D := D) (ci := 1) (v := dLw ad (q.1 20 2)) (C := RX1) (T := TX1) (N := 3) hx hb hts u9_wsX1_anyHolds_X1 hown hK hP 20 rfl rfl 2 (by decide) (hts (.fieldLink RX1 15 "TurnedFloors$Judge" "law" "LTurnedFloors$Text;") f9_wsX1_anyHolds_395) (fun _ h9 => h9) rfl dX1_anyHolds_23 ?_
    obtain ⟨g3, h⟩ := dG_some h
    refine kz_topv (if_neg (dlg_ne g3)) ?_
    obtain ⟨g4, h⟩ := dG_some h
    refine va_getN (D := D) (ci := 7) (v := .ref (ad (63 + 7 * dLi (q.1 20 2) + 1))) (C := RX7) (T := TX7) (N := 8) hx hb hts u9_wsX1_anyHolds_X7 hown hK hP _ (lw_o g4) rfl 0 (by decide) (hN.use (.fieldLinkNest "TurnedFloors$Judge" 70 "TurnedFloors$Text" "kind" "[I" "TurnedFloors") nn9_6) (fun _ h9 => h9) rfl dX1_anyHolds_26 ?_
    refine lv_iload_n hx hb dX1_anyHolds_29 rfl (lv_at hl 2 rfl) ?_
    obtain ⟨g5, h⟩ := dG_some h
    obtain ⟨g6, h⟩ := dG_some h
    refine va_iald hx hb hK hP _ 0 (lw_a1 g5) rfl (dg_in g6) dX1_anyHolds_30 ?_
    obtain ⟨v7, ev7, h⟩ := dL_some h
    refine kz_topi v7 ev7 ?_
    refine lv_iload_n hx hb dX1_anyHolds_31 rfl (lv_at hl 1 rfl) ?_
    refine lv_icmp_ne (tgt := 74) hx hb dX1_anyHolds_32 (by decide) (fun c9 => ?_) (fun c9 => ?_)
    · rw [if_neg c9] at h
      exact WX1_anyHolds_s20_74 C0 hk11 _ _ _ _ _ _ h hP hD hS (lv_sub hl [0, 1, 2] rfl)
    · rw [if_pos c9] at h
      refine lv_aload_n hx hb dX1_anyHolds_35 rfl (lv_at hl 0 rfl) ?_
      refine va_get (D := D) (ci := 1) (v := .ref (ad 18)) (C := RX1) (T := TX1) (N := 3) hx hb hts u9_wsX1_anyHolds_X1 hown hK hP 20 rfl rfl 0 (by decide) (hts (.fieldLink RX1 19 "TurnedFloors$Judge" "machine" "LTurnedFloors$Machine;") f9_wsX1_anyHolds_396) (fun _ h9 => h9) rfl dX1_anyHolds_36 ?_
      refine lv_aload_n hx hb dX1_anyHolds_39 rfl (lv_at hl 0 rfl) ?_
      refine va_get (D := D) (ci := 1) (v := dLw ad (q.1 20 2)) (C := RX1) (T := TX1) (N := 3) hx hb hts u9_wsX1_anyHolds_X1 hown hK hP 20 rfl rfl 2 (by decide) (hts (.fieldLink RX1 15 "TurnedFloors$Judge" "law" "LTurnedFloors$Text;") f9_wsX1_anyHolds_395) (fun _ h9 => h9) rfl dX1_anyHolds_40 ?_
      obtain ⟨g8, h⟩ := dG_some h
      refine kz_topv (if_neg (dlg_ne g8)) ?_
      refine lv_aload_n hx hb dX1_anyHolds_43 rfl (lv_at hl 0 rfl) ?_
      refine va_get (D := D) (ci := 1) (v := dLw ad (q.1 20 2)) (C := RX1) (T := TX1) (N := 3) hx hb hts u9_wsX1_anyHolds_X1 hown hK hP 20 rfl rfl 2 (by decide) (hts (.fieldLink RX1 15 "TurnedFloors$Judge" "law" "LTurnedFloors$Text;") f9_wsX1_anyHolds_395) (fun _ h9 => h9) rfl dX1_anyHolds_44 ?_
      obtain ⟨g9, h⟩ := dG_some h
      refine kz_topv (if_neg (dlg_ne g9)) ?_
      obtain ⟨g10, h⟩ := dG_some h
      refine va_getN (D := D) (ci := 7) (v := .ref (ad (63 + 7 * dLi (q.1 20 2) + 4))) (C := RX7) (T := TX7) (N := 8) hx hb hts u9_wsX1_anyHolds_X7 hown hK hP _ (lw_o g10) rfl 3 (by decide) (hN.use (.fieldLinkNest "TurnedFloors$Judge" 73 "TurnedFloors$Text" "testFrom" "[I" "TurnedFloors") nn9_7) (fun _ h9 => h9) rfl dX1_anyHolds_47 ?_
      refine lv_iload_n hx hb dX1_anyHolds_50 rfl (lv_at hl 2 rfl) ?_
      obtain ⟨g11, h⟩ := dG_some h
      obtain ⟨g12, h⟩ := dG_some h
      refine va_iald hx hb hK hP _ 0 (lw_a4 g11) rfl (dg_in g12) dX1_anyHolds_51 ?_
      obtain ⟨v13, ev13, h⟩ := dL_some h
      refine kz_topi v13 ev13 ?_
      refine lv_aload_n hx hb dX1_anyHolds_52 rfl (lv_at hl 0 rfl) ?_
      refine va_get (D := D) (ci := 1) (v := dLw ad (q.1 20 2)) (C := RX1) (T := TX1) (N := 3) hx hb hts u9_wsX1_anyHolds_X1 hown hK hP 20 rfl rfl 2 (by decide) (hts (.fieldLink RX1 15 "TurnedFloors$Judge" "law" "LTurnedFloors$Text;") f9_wsX1_anyHolds_395) (fun _ h9 => h9) rfl dX1_anyHolds_53 ?_
      obtain ⟨g14, h⟩ := dG_some h
      refine kz_topv (if_neg (dlg_ne g14)) ?_
      obtain ⟨g15, h⟩ := dG_some h
      refine va_getN (D := D) (ci := 7) (v := .ref (ad (63 + 7 * dLi (q.1 20 2) + 5))) (C := RX7) (T := TX7) (N := 8) hx hb hts u9_wsX1_anyHolds_X7 hown hK hP _ (lw_o g15) rfl 4 (by decide) (hN.use (.fieldLinkNest "TurnedFloors$Judge" 76 "TurnedFloors$Text" "testTo" "[I" "TurnedFloors") nn9_8) (fun _ h9 => h9) rfl dX1_anyHolds_56 ?_
      refine lv_iload_n hx hb dX1_anyHolds_59 rfl (lv_at hl 2 rfl) ?_
      obtain ⟨g16, h⟩ := dG_some h
      obtain ⟨g17, h⟩ := dG_some h
      refine va_iald hx hb hK hP _ 0 (lw_a5 g16) rfl (dg_in g17) dX1_anyHolds_60 ?_
      obtain ⟨v18, ev18, h⟩ := dL_some h
      refine kz_topi v18 ev18 ?_
      refine lv_aload_n hx hb dX1_anyHolds_61 rfl (lv_at hl 0 rfl) ?_
      refine va_get (D := D) (ci := 1) (v := .ref (ad 21)) (C := RX1) (T := TX1) (N := 3) hx hb hts u9_wsX1_anyHolds_X1 hown hK hP 20 rfl rfl 1 (by decide) (hts (.fieldLink RX1 11 "TurnedFloors$Judge" "words" "[I") f9_wsX1_anyHolds_397) (fun _ h9 => h9) rfl dX1_anyHolds_62 ?_
      obtain ⟨r19, q21, h20, h⟩ := dB_some h
      refine dw_ki (va_runV (As := [.ref (ad (63 + 7 * dLi (q.1 20 2))), .int v13, .int v18, .ref (ad 21)]) (rest := []) ⟨hx, hb, hml, hown, hts⟩ (qX2_valueOf_s18_l_s21 l D ty eo _ ad q (q.1 20 2) v13 v18 r19 q21 h20) (cwV 4 hts gX1_anyHolds_X2_valueOf rfl rfl rfl hd_X2_valueOf_v ⟨Nat.le_of_ble_eq_true rfl, Nat.le_of_ble_eq_true rfl⟩) (pvF_2_18 hK hN hE hP hD hS hA) rfl rfl hl.1 rfl (lv_room (Nat.le_of_ble_eq_true rfl)) dX1_anyHolds_65 ⟨Nat.le_of_ble_eq_true rfl, Nat.le_of_ble_eq_true rfl⟩) hD hS hA (fun r9 u9 H locs hw hp hd hs => ?_)
      clear hP hD hS
      obtain ⟨rfl, rfl⟩ := hw
      have hP := hp; have hD := hd; have hS := hs; clear hp hd hs
      refine lv_iconst (v := 1) hx hb dX1_anyHolds_68 (by decide) ?_
      refine lv_icmp_ne (tgt := 74) hx hb dX1_anyHolds_69 (by decide) (fun c9 => ?_) (fun c9 => ?_)
      · rw [if_neg c9] at h
        exact WX1_anyHolds_s20_74 C0 hk11 _ _ _ _ _ _ h hP hD hS (lv_sub hl [0, 1, 2] rfl)
      · rw [if_pos c9] at h
        refine lv_iconst (v := 1) hx hb dX1_anyHolds_72 (by decide) ?_
        cases h
        exact kz_zret hx hb hr hlocks rfl hP hK hD hS dX1_anyHolds_73 ⟨rfl, rfl⟩
set_option maxHeartbeats 4000000 in
set_option maxRecDepth 100000 in
theorem WX1_anyHolds_s20_11 {p : Program} {l : Launch} {e : Env} {s : State} {m : MethodId} {args : Array Value} {below : List Frame} {meth : Method} {c : Code} {D : va_G} {ty : Nat → ClassId} {eo : Nat → Nat} {A : Nat → Prop} {ad : Nat → Nat} {o1 : Int32} {o2 : dK} (C : dc_C p s m args meth c cX1_anyHolds (some .boolean) 3 RX1 wsX1_anyHolds D ty eo A)   (n : Nat) (q : dK) (x1 : Int32) (x2 : Int32) (H : Heap) (locs : List Loc) (ls : Array Slot) (h : zX1_anyHolds_s20_11  n q x1 x2 = some (o1, o2)) (hP : va_P D vwCl (wF ty ad q) H) (hD : va_D A (wF ty ad q)) (hS : va_S A s.heap H locs) (hl : lv_has ls 3 [(0, .ref (ad 20)), (1, .int x1), (2, .int x2)]) : W p l e ({ frames := 2, cells := 0, slots := 0, locals := 59 } : Room) s m args below meth c H locs 0 0 (MQ below (va_Qi (fun (r : Int32) (u : va_W) => o1 = r ∧ wF ty ad o2 = u) (kz_B D ty A) A) args s 0 0 A) (F0 m 11 ls []) := by
  exact dFix_W (F := fun k (a : dK × Int32 × Int32) => zX1_anyHolds_s20_11b  (fun q x1 x2 => k (q, x1, x2)) a.1 a.2.1 a.2.2) (o := (o1, o2)) (P := fun (a : dK × Int32 × Int32) H locs ls => va_P D vwCl (wF ty ad a.1) H ∧ va_D A (wF ty ad a.1) ∧ va_S A s.heap H locs ∧ lv_has ls 3 [(0, .ref (ad 20)), (1, .int a.2.1), (2, .int a.2.2)]) (G := fun H locs ls => W p l e ({ frames := 2, cells := 0, slots := 0, locals := 59 } : Room) s m args below meth c H locs 0 0 (MQ below (va_Qi (fun (r : Int32) (u : va_W) => o1 = r ∧ wF ty ad o2 = u) (kz_B D ty A) A) args s 0 0 A) (F0 m 11 ls []))
    (fun k hk a H locs ls h hp => WX1_anyHolds_s20_11b C  (fun q x1 x2 H locs ls h h1 h2 h3 h4 => hk (q, x1, x2) H locs ls h ⟨h1, h2, h3, h4⟩) a.1 a.2.1 a.2.2 H locs ls h hp.1 hp.2.1 hp.2.2.1 hp.2.2.2) n (q, x1, x2) H locs ls h ⟨hP, hD, hS, hl⟩
set_option maxHeartbeats 4000000 in
set_option maxRecDepth 100000 in
theorem qX1_anyHolds_s20 (l : Launch) (D : va_G) (ty : Nat → ClassId) (eo : Nat → Nat) (sz : Nat) (ad : Nat → Nat) (q : dK) (p1 : Int32) (o1 : Int32) (o2 : dK) (h : zX1_anyHolds_s20 q p1 = some (o1, o2)) : Met l yX1_anyHolds wsX1_anyHolds ({ frames := 2, cells := 0, slots := 0, locals := 59 } : Room) (va_Pc [.ref (ad 20), .int p1] (kz_pre D ty eo (wF ty ad q) sz)) (va_Qi (fun (r : Int32) (u : va_W) => o1 = r ∧ wF ty ad o2 = u) (kz_B D ty (va_A (wF ty ad q) sz)) (va_A (wF ty ad q) sz)) 0 0 (va_A (wF ty ad q) sz) := by
  refine Met.ofW (cc := cX1_anyHolds) (maxL := 3) (ret := (some .boolean)) (by decide) rfl ?_
  intro p e s m args below meth c s₁ B hml hv
  obtain ⟨rfl, hsz, hP, hK, hD0, hN, hE⟩ := hv
  have hx := B.exec
  have hb := B.bytes
  have hr := B.returns
  have hts := atoms_spec (ws := wsX1_anyHolds) B.pre
  have hown : s.vm.findClass RX1 = some m.cls := findClass_of_methodNamed B.named
  have hlocks := B.notSynchronized
  subst hsz
  have hD := hD0.self (sz := s.heap.size)
  generalize hAe : va_A (wF ty ad q) s.heap.size = A at hD hE ⊢
  have hA : ∀ q : Nat, s.heap.size ≤ q → A q := fun q h => by rw [← hAe]; exact Or.inr h
  clear hAe
  have hS : va_S A s.heap s.heap [] := va_S.rf
  have hl := lv_entry ([.ref (ad 20), .int p1]) (n := 3) (Nat.le_of_ble_eq_true rfl)
  rw [lg_entry_eq]
  generalize (lg_sl ([.ref (ad 20), .int p1]) ++ List.replicate (3 - (lg_sl ([.ref (ad 20), .int p1])).length) Slot.unset).toArray = ls at hl ⊢
  have hl : lv_has ls 3 [(0, .ref (ad 20)), (1, .int p1)] := hl
  have C : dc_C p s m _ meth c cX1_anyHolds (some .boolean) 3 RX1 wsX1_anyHolds D ty eo A := ⟨hx, hb, hr, hts, hown, hlocks, hml, hK, hN, hE, hA⟩
  unfold zX1_anyHolds_s20 at h
  refine lv_aload_n hx hb dX1_anyHolds_0 rfl (lv_at hl 0 rfl) ?_
  refine va_get (D := D) (ci := 1) (v := dLw ad (q.1 20 2)) (C := RX1) (T := TX1) (N := 3) hx hb hts u9_wsX1_anyHolds_X1 hown hK hP 20 rfl rfl 2 (by decide) (hts (.fieldLink RX1 15 "TurnedFloors$Judge" "law" "LTurnedFloors$Text;") f9_wsX1_anyHolds_395) (fun _ h9 => h9) rfl dX1_anyHolds_1 ?_
  by_cases c1 : (q.1 20 2) = 0
  · rw [if_pos c1] at h
    refine kz_topv (if_pos c1) ?_
    refine lv_ifnonnullN hx hb dX1_anyHolds_4 ?_
    refine lv_iconst (v := 0) hx hb dX1_anyHolds_7 (by decide) ?_
    cases h
    exact kz_zret hx hb hr hlocks rfl hP hK hD hS dX1_anyHolds_8 ⟨rfl, rfl⟩
  · rw [if_neg c1] at h
    refine kz_topv (if_neg c1) ?_
    refine lv_ifnonnull (tgt := 9) hx hb dX1_anyHolds_4 (by decide) ?_
    refine lv_iconst (v := 0) hx hb dX1_anyHolds_9 (by decide) ?_
    refine lv_istore_n (lv' := [(2, .int 0), (0, .ref (ad 20)), (1, .int p1)]) hx hb dX1_anyHolds_10 rfl hl (by decide) rfl (fun ls hl => ?_)
    exact WX1_anyHolds_s20_11 C  _ _ _ _ _ _ _ h hP hD hS (lv_sub hl [1, 2, 0] rfl)

set_option maxHeartbeats 4000000 in
set_option maxRecDepth 100000 in
theorem qX1_tips_s20_s2 (l : Launch) (D : va_G) (ty : Nat → ClassId) (eo : Nat → Nat) (sz : Nat) (ad : Nat → Nat) (q : dK) (p2 : Int32) (o1 : Int32) (o2 : dK) (h : zX1_tips_s20_s2 q p2 = some (o1, o2)) : Met l yX1_tips wsX1_tips ({ frames := 3, cells := 0, slots := 0, locals := 81 } : Room) (va_Pc [.ref (ad 20), .ref (ad 2), .int p2] (kz_pre D ty eo (wF ty ad q) sz)) (va_Qi (fun (r : Int32) (u : va_W) => o1 = r ∧ wF ty ad o2 = u) (kz_B D ty (va_A (wF ty ad q) sz)) (va_A (wF ty ad q) sz)) 0 0 (va_A (wF ty ad q) sz) := by
  refine Met.ofW (cc := cX1_tips) (maxL := 3) (ret := (some .boolean)) (by decide) rfl ?_
  intro p e s m args below meth c s₁ B hml hv
  obtain ⟨rfl, hsz, hP, hK, hD0, hN, hE⟩ := hv
  have hx := B.exec
  have hb := B.bytes
  have hr := B.returns
  have hts := atoms_spec (ws := wsX1_tips) B.pre
  have hown : s.vm.findClass RX1 = some m.cls := findClass_of_methodNamed B.named
  have hlocks := B.notSynchronized
  subst hsz
  have hD := hD0.self (sz := s.heap.size)
  generalize hAe : va_A (wF ty ad q) s.heap.size = A at hD hE ⊢
  have hA : ∀ q : Nat, s.heap.size ≤ q → A q := fun q h => by rw [← hAe]; exact Or.inr h
  clear hAe
  have hS : va_S A s.heap s.heap [] := va_S.rf
  have hl := lv_entry ([.ref (ad 20), .ref (ad 2), .int p2]) (n := 3) (Nat.le_of_ble_eq_true rfl)
  rw [lg_entry_eq]
  generalize (lg_sl ([.ref (ad 20), .ref (ad 2), .int p2]) ++ List.replicate (3 - (lg_sl ([.ref (ad 20), .ref (ad 2), .int p2])).length) Slot.unset).toArray = ls at hl ⊢
  have hl : lv_has ls 3 [(0, .ref (ad 20)), (1, .ref (ad 2)), (2, .int p2)] := hl
  have C : dc_C p s m _ meth c cX1_tips (some .boolean) 3 RX1 wsX1_tips D ty eo A := ⟨hx, hb, hr, hts, hown, hlocks, hml, hK, hN, hE, hA⟩
  unfold zX1_tips_s20_s2 at h
  refine lv_aload_n hx hb dX1_tips_0 rfl (lv_at hl 1 rfl) ?_
  refine lv_iload_n hx hb dX1_tips_1 rfl (lv_at hl 2 rfl) ?_
  obtain ⟨r1, q3, h2, h⟩ := dB_some h
  refine dw_ki (va_runV (As := [.int p2]) (rest := []) ⟨hx, hb, hml, hown, hts⟩ (qX8_isFloor_s2 l D ty eo _ ad q p2 r1 q3 h2) (cwV 1 hts gX1_tips_X8_isFloor rfl rfl rfl hd_X8_isFloor_v ⟨Nat.le_of_ble_eq_true rfl, Nat.le_of_ble_eq_true rfl⟩) (pvF_8_2 hK hN hE hP hD hS hA) rfl rfl hl.1 rfl (lv_room (Nat.le_of_ble_eq_true rfl)) dX1_tips_2 ⟨Nat.le_of_ble_eq_true rfl, Nat.le_of_ble_eq_true rfl⟩) hD hS hA (fun r9 u9 H locs hw hp hd hs => ?_)
  clear hP hD hS
  obtain ⟨rfl, rfl⟩ := hw
  have hP := hp; have hD := hd; have hS := hs; clear hp hd hs
  refine lv_if_ne (tgt := 10) hx hb dX1_tips_5 (by decide) (fun c9 => ?_) (fun c9 => ?_)
  · rw [if_neg c9] at h
    refine lv_aload_n hx hb dX1_tips_10 rfl (lv_at hl 0 rfl) ?_
    refine lv_aload_n hx hb dX1_tips_11 rfl (lv_at hl 1 rfl) ?_
    refine va_getN (D := D) (ci := 8) (v := .int (q3.1 2 2)) (C := RX8) (T := TX8) (N := 5) hx hb hts u9_wsX1_tips_X8 hown hK hP 2 rfl rfl 2 (by decide) (hN.use (.fieldLinkNest "TurnedFloors$Judge" 40 "TurnedFloors$Tower" "floors" "I" "TurnedFloors") nn9_9) (fun _ h9 => h9) rfl dX1_tips_12 ?_
    refine lv_aload_n hx hb dX1_tips_15 rfl (lv_at hl 1 rfl) ?_
    refine va_getN (D := D) (ci := 8) (v := .int (q3.1 2 4)) (C := RX8) (T := TX8) (N := 5) hx hb hts u9_wsX1_tips_X8 hown hK hP 2 rfl rfl 4 (by decide) (hN.use (.fieldLinkNest "TurnedFloors$Judge" 44 "TurnedFloors$Tower" "year" "I" "TurnedFloors") nn9_10) (fun _ h9 => h9) rfl dX1_tips_16 ?_
    obtain ⟨q6, h5, h⟩ := dV_some h
    refine dw_kv (va_runV (As := [.int (q3.1 2 2), .int (q3.1 2 4)]) (rest := []) ⟨hx, hb, hml, hown, hts⟩ (qX1_setCommon_s20 l D ty eo _ ad q3 (q3.1 2 2) (q3.1 2 4) q6 h5) (cwV 2 hts gX1_tips_X1_setCommon rfl rfl rfl hd_X1_setCommon_v ⟨Nat.le_of_ble_eq_true rfl, Nat.le_of_ble_eq_true rfl⟩) (pvF_1_20 hK hN hE hP hD hS hA) rfl rfl hl.1 rfl (lv_room (Nat.le_of_ble_eq_true rfl)) dX1_tips_19 ⟨Nat.le_of_ble_eq_true rfl, Nat.le_of_ble_eq_true rfl⟩) hD hS hA (fun u9 H locs hw hp hd hs => ?_)
    clear hP hD hS
    obtain rfl := hw
    have hP := hp; have hD := hd; have hS := hs; clear hp hd hs
    refine lv_aload_n hx hb dX1_tips_22 rfl (lv_at hl 0 rfl) ?_
    refine va_get (D := D) (ci := 1) (v := .ref (ad 21)) (C := RX1) (T := TX1) (N := 3) hx hb hts u9_wsX1_tips_X1 hown hK hP 20 rfl rfl 1 (by decide) (hts (.fieldLink RX1 11 "TurnedFloors$Judge" "words" "[I") f9_wsX1_tips_400) (fun _ h9 => h9) rfl dX1_tips_23 ?_
    refine lv_iconst (v := 0) hx hb dX1_tips_26 (by decide) ?_
    refine lv_iconst (v := (-1)) hx hb dX1_tips_27 (by decide) ?_
    refine va_iast hx hb hK hP hD hS 21 0 rfl rfl (by simp only [vp_in]; decide) dX1_tips_28 (fun H locs hp hd hs => ?_)
    obtain ⟨q7, eq7, h⟩ := dL_some h
    refine kz_re (w2 := wF ty ad q7) hp hd hs (by rw [(by decide +kernel : Int32.toNatClampNeg 0 = 0), ← eq7]; exact wF_a21 ty ad q6 0 (-1)) ?_
    clear hp hd hs hP hD hS
    intro hP hD hS
    refine lv_aload_n hx hb dX1_tips_29 rfl (lv_at hl 0 rfl) ?_
    refine va_get (D := D) (ci := 1) (v := .ref (ad 21)) (C := RX1) (T := TX1) (N := 3) hx hb hts u9_wsX1_tips_X1 hown hK hP 20 rfl rfl 1 (by decide) (hts (.fieldLink RX1 11 "TurnedFloors$Judge" "words" "[I") f9_wsX1_tips_400) (fun _ h9 => h9) rfl dX1_tips_30 ?_
    refine lv_iconst (v := 1) hx hb dX1_tips_33 (by decide) ?_
    refine lv_iconst (v := (-1)) hx hb dX1_tips_34 (by decide) ?_
    refine va_iast hx hb hK hP hD hS 21 0 rfl rfl (by simp only [vp_in]; decide) dX1_tips_35 (fun H locs hp hd hs => ?_)
    obtain ⟨q8, eq8, h⟩ := dL_some h
    refine kz_re (w2 := wF ty ad q8) hp hd hs (by rw [(by decide +kernel : Int32.toNatClampNeg 1 = 1), ← eq8]; exact wF_a21 ty ad q7 1 (-1)) ?_
    clear hp hd hs hP hD hS
    intro hP hD hS
    refine lv_aload_n hx hb dX1_tips_36 rfl (lv_at hl 0 rfl) ?_
    refine va_get (D := D) (ci := 1) (v := .ref (ad 21)) (C := RX1) (T := TX1) (N := 3) hx hb hts u9_wsX1_tips_X1 hown hK hP 20 rfl rfl 1 (by decide) (hts (.fieldLink RX1 11 "TurnedFloors$Judge" "words" "[I") f9_wsX1_tips_400) (fun _ h9 => h9) rfl dX1_tips_37 ?_
    refine lv_iconst (v := 2) hx hb dX1_tips_40 (by decide) ?_
    refine lv_iconst (v := (-1)) hx hb dX1_tips_41 (by decide) ?_
    refine va_iast hx hb hK hP hD hS 21 0 rfl rfl (by simp only [vp_in]; decide) dX1_tips_42 (fun H locs hp hd hs => ?_)
    obtain ⟨q9, eq9, h⟩ := dL_some h
    refine kz_re (w2 := wF ty ad q9) hp hd hs (by rw [(by decide +kernel : Int32.toNatClampNeg 2 = 2), ← eq9]; exact wF_a21 ty ad q8 2 (-1)) ?_
    clear hp hd hs hP hD hS
    intro hP hD hS
    refine lv_aload_n hx hb dX1_tips_43 rfl (lv_at hl 0 rfl) ?_
    refine va_get (D := D) (ci := 1) (v := .ref (ad 21)) (C := RX1) (T := TX1) (N := 3) hx hb hts u9_wsX1_tips_X1 hown hK hP 20 rfl rfl 1 (by decide) (hts (.fieldLink RX1 11 "TurnedFloors$Judge" "words" "[I") f9_wsX1_tips_400) (fun _ h9 => h9) rfl dX1_tips_44 ?_
    refine lv_iconst (v := 3) hx hb dX1_tips_47 (by decide) ?_
    refine lv_aload_n hx hb dX1_tips_48 rfl (lv_at hl 1 rfl) ?_
    refine va_getN (D := D) (ci := 8) (v := .ref (ad 4)) (C := RX8) (T := TX8) (N := 5) hx hb hts u9_wsX1_tips_X8 hown hK hP 2 rfl rfl 1 (by decide) (hN.use (.fieldLinkNest "TurnedFloors$Judge" 51 "TurnedFloors$Tower" "head" "[I" "TurnedFloors") nn9_11) (fun _ h9 => h9) rfl dX1_tips_49 ?_
    refine lv_iload_n hx hb dX1_tips_52 rfl (lv_at hl 2 rfl) ?_
    obtain ⟨g10, h⟩ := dG_some h
    refine va_iald hx hb hK hP 4 0 rfl rfl (dg_in g10) dX1_tips_53 ?_
    obtain ⟨v11, ev11, h⟩ := dL_some h
    refine kz_topi v11 ev11 ?_
    refine va_iast hx hb hK hP hD hS 21 0 rfl rfl (by simp only [vp_in]; decide) dX1_tips_54 (fun H locs hp hd hs => ?_)
    obtain ⟨q12, eq12, h⟩ := dL_some h
    refine kz_re (w2 := wF ty ad q12) hp hd hs (by rw [(by decide +kernel : Int32.toNatClampNeg 3 = 3), ← eq12]; exact wF_a21 ty ad q9 3 v11) ?_
    clear hp hd hs hP hD hS
    intro hP hD hS
    refine lv_aload_n hx hb dX1_tips_55 rfl (lv_at hl 0 rfl) ?_
    refine va_get (D := D) (ci := 1) (v := .ref (ad 21)) (C := RX1) (T := TX1) (N := 3) hx hb hts u9_wsX1_tips_X1 hown hK hP 20 rfl rfl 1 (by decide) (hts (.fieldLink RX1 11 "TurnedFloors$Judge" "words" "[I") f9_wsX1_tips_400) (fun _ h9 => h9) rfl dX1_tips_56 ?_
    refine lv_iconst (v := 5) hx hb dX1_tips_59 (by decide) ?_
    refine lv_aload_n hx hb dX1_tips_60 rfl (lv_at hl 1 rfl) ?_
    refine va_getN (D := D) (ci := 8) (v := .ref (ad 3)) (C := RX8) (T := TX8) (N := 5) hx hb hts u9_wsX1_tips_X8 hown hK hP 2 rfl rfl 0 (by decide) (hN.use (.fieldLinkNest "TurnedFloors$Judge" 54 "TurnedFloors$Tower" "rank" "[I" "TurnedFloors") nn9_12) (fun _ h9 => h9) rfl dX1_tips_61 ?_
    refine lv_iload_n hx hb dX1_tips_64 rfl (lv_at hl 2 rfl) ?_
    obtain ⟨g13, h⟩ := dG_some h
    refine va_iald hx hb hK hP 3 0 rfl rfl (dg_in g13) dX1_tips_65 ?_
    obtain ⟨v14, ev14, h⟩ := dL_some h
    refine kz_topi v14 ev14 ?_
    refine va_iast hx hb hK hP hD hS 21 0 rfl rfl (by simp only [vp_in]; decide) dX1_tips_66 (fun H locs hp hd hs => ?_)
    obtain ⟨q15, eq15, h⟩ := dL_some h
    refine kz_re (w2 := wF ty ad q15) hp hd hs (by rw [(by decide +kernel : Int32.toNatClampNeg 5 = 5), ← eq15]; exact wF_a21 ty ad q12 5 v14) ?_
    clear hp hd hs hP hD hS
    intro hP hD hS
    refine lv_aload_n hx hb dX1_tips_67 rfl (lv_at hl 0 rfl) ?_
    refine va_get (D := D) (ci := 1) (v := .ref (ad 21)) (C := RX1) (T := TX1) (N := 3) hx hb hts u9_wsX1_tips_X1 hown hK hP 20 rfl rfl 1 (by decide) (hts (.fieldLink RX1 11 "TurnedFloors$Judge" "words" "[I") f9_wsX1_tips_400) (fun _ h9 => h9) rfl dX1_tips_68 ?_
    refine lv_bipush (v := 6) hx hb dX1_tips_71 (by decide) ?_
    refine lv_iload_n hx hb dX1_tips_73 rfl (lv_at hl 2 rfl) ?_
    refine va_iast hx hb hK hP hD hS 21 0 rfl rfl (by simp only [vp_in]; decide) dX1_tips_74 (fun H locs hp hd hs => ?_)
    obtain ⟨q16, eq16, h⟩ := dL_some h
    refine kz_re (w2 := wF ty ad q16) hp hd hs (by rw [(by decide +kernel : Int32.toNatClampNeg 6 = 6), ← eq16]; exact wF_a21 ty ad q15 6 p2) ?_
    clear hp hd hs hP hD hS
    intro hP hD hS
    refine lv_aload_n hx hb dX1_tips_75 rfl (lv_at hl 0 rfl) ?_
    refine lv_iconst (v := 2) hx hb dX1_tips_76 (by decide) ?_
    obtain ⟨r17, q19, h18, h⟩ := dB_some h
    refine dw_ki (va_runV (As := [.int 2]) (rest := []) ⟨hx, hb, hml, hown, hts⟩ (qX1_anyHolds_s20 l D ty eo _ ad q16 2 r17 q19 h18) (cwV 1 hts gX1_tips_X1_anyHolds rfl rfl rfl hd_X1_anyHolds_v ⟨Nat.le_of_ble_eq_true rfl, Nat.le_of_ble_eq_true rfl⟩) (pvF_1_20 hK hN hE hP hD hS hA) rfl rfl hl.1 rfl (lv_room (Nat.le_of_ble_eq_true rfl)) dX1_tips_77 ⟨Nat.le_of_ble_eq_true rfl, Nat.le_of_ble_eq_true rfl⟩) hD hS hA (fun r9 u9 H locs hw hp hd hs => ?_)
    clear hP hD hS
    obtain ⟨rfl, rfl⟩ := hw
    have hP := hp; have hD := hd; have hS := hs; clear hp hd hs
    obtain ⟨g20, h⟩ := dG_some h
    cases h
    exact kz_zret hx hb hr hlocks (dbl_nar g20) hP hK hD hS dX1_tips_80 ⟨rfl, rfl⟩
  · rw [if_pos c9] at h
    refine lv_iconst (v := 0) hx hb dX1_tips_8 (by decide) ?_
    cases h
    exact kz_zret hx hb hr hlocks rfl hP hK hD hS dX1_tips_9 ⟨rfl, rfl⟩

set_option maxHeartbeats 4000000 in
set_option maxRecDepth 100000 in
theorem WX9_bit_9 {p : Program} {l : Launch} {e : Env} {s : State} {m : MethodId} {args : Array Value} {below : List Frame} {meth : Method} {c : Code} {D : va_G} {ty : Nat → ClassId} {eo : Nat → Nat} {A : Nat → Prop} {o1 : Int32} (C : dc_C p s m args meth c cX9_bit (some .int) 1 RX9 wsX9_bit D ty eo A)   (y0 : Int32) (H : Heap) (locs : List Loc) (ls : Array Slot) (h : zX9_bit_9  y0 = some o1) (hP : va_P D vwCl (([] : va_W)) H) (hD : va_D A (([] : va_W))) (hS : va_S A s.heap H locs) (hl : lv_has ls 1 []) : W p l e ({ frames := 0, cells := 0, slots := 0, locals := 0 } : Room) s m args below meth c H locs 0 0 (MQ below (va_Qi (fun (r : Int32) (u : va_W) => o1 = r ∧ ([] : va_W) = u) (kz_B D ty A) A) args s 0 0 A) (F0 m 9 ls [.int y0]) := by
  have C0 := C
  obtain ⟨hx, hb, hr, hts, hown, hlocks, hml, hK, hN, hE, hA⟩ := C
  unfold zX9_bit_9 at h
  cases h
  exact kz_iret hx hb hr hlocks hP hK hD hS dX9_bit_9 ⟨rfl, rfl⟩
set_option maxHeartbeats 4000000 in
set_option maxRecDepth 100000 in
theorem qX9_bit (l : Launch) (D : va_G) (ty : Nat → ClassId) (eo : Nat → Nat) (sz : Nat) (p1 : Int32) (o1 : Int32) (h : zX9_bit p1 = some o1) : Met l yX9_bit wsX9_bit ({ frames := 0, cells := 0, slots := 0, locals := 0 } : Room) (va_Pc [.int p1] (kz_pre D ty eo (([] : va_W)) sz)) (va_Qi (fun (r : Int32) (u : va_W) => o1 = r ∧ ([] : va_W) = u) (kz_B D ty (va_A (([] : va_W)) sz)) (va_A (([] : va_W)) sz)) 0 0 (va_A (([] : va_W)) sz) := by
  refine Met.ofW (cc := cX9_bit) (maxL := 1) (ret := (some .int)) (by decide) rfl ?_
  intro p e s m args below meth c s₁ B hml hv
  obtain ⟨rfl, hsz, hP, hK, hD0, hN, hE⟩ := hv
  have hx := B.exec
  have hb := B.bytes
  have hr := B.returns
  have hts := atoms_spec (ws := wsX9_bit) B.pre
  have hown : s.vm.findClass RX9 = some m.cls := findClass_of_methodNamed B.named
  have hlocks := B.notSynchronized
  subst hsz
  have hD := hD0.self (sz := s.heap.size)
  generalize hAe : va_A (([] : va_W)) s.heap.size = A at hD hE ⊢
  have hA : ∀ q : Nat, s.heap.size ≤ q → A q := fun q h => by rw [← hAe]; exact Or.inr h
  clear hAe
  have hS : va_S A s.heap s.heap [] := va_S.rf
  have hl := lv_entry ([.int p1]) (n := 1) (Nat.le_of_ble_eq_true rfl)
  rw [lg_entry_eq]
  generalize (lg_sl ([.int p1]) ++ List.replicate (1 - (lg_sl ([.int p1])).length) Slot.unset).toArray = ls at hl ⊢
  have hl : lv_has ls 1 [(0, .int p1)] := hl
  have C : dc_C p s m _ meth c cX9_bit (some .int) 1 RX9 wsX9_bit D ty eo A := ⟨hx, hb, hr, hts, hown, hlocks, hml, hK, hN, hE, hA⟩
  unfold zX9_bit at h
  refine lv_iload_n hx hb dX9_bit_0 rfl (lv_at hl 0 rfl) ?_
  refine lv_if_eq (tgt := 8) hx hb dX9_bit_1 (by decide) (fun c9 => ?_) (fun c9 => ?_)
  · rw [if_pos c9] at h
    refine lv_iconst (v := 0) hx hb dX9_bit_8 (by decide) ?_
    exact WX9_bit_9 C  _ _ _ _ h hP hD hS (lv_sub hl [] rfl)
  · rw [if_neg c9] at h
    refine lv_iconst (v := 1) hx hb dX9_bit_4 (by decide) ?_
    refine lv_goto (tgt := 9) hx hb dX9_bit_5 (by decide) ?_
    exact WX9_bit_9 C  _ _ _ _ h hP hD hS (lv_sub hl [] rfl)

set_option maxHeartbeats 4000000 in
set_option maxRecDepth 100000 in
theorem WX9_at_s0_41 {p : Program} {l : Launch} {e : Env} {s : State} {m : MethodId} {args : Array Value} {below : List Frame} {meth : Method} {c : Code} {D : va_G} {ty : Nat → ClassId} {eo : Nat → Nat} {A : Nat → Prop} {ad : Nat → Nat} {o1 : Int32} {o2 : dK} (C : dc_C p s m args meth c cX9_at (some .int) 3 RX9 wsX9_at D ty eo A)   (q : dK) (y0 : Int32) (H : Heap) (locs : List Loc) (ls : Array Slot) (h : zX9_at_s0_41  q y0 = some (o1, o2)) (hP : va_P D vwCl (wF ty ad q) H) (hD : va_D A (wF ty ad q)) (hS : va_S A s.heap H locs) (hl : lv_has ls 3 []) : W p l e ({ frames := 4, cells := 0, slots := 0, locals := 103 } : Room) s m args below meth c H locs 0 0 (MQ below (va_Qi (fun (r : Int32) (u : va_W) => o1 = r ∧ wF ty ad o2 = u) (kz_B D ty A) A) args s 0 0 A) (F0 m 41 ls [.int y0]) := by
  have C0 := C
  obtain ⟨hx, hb, hr, hts, hown, hlocks, hml, hK, hN, hE, hA⟩ := C
  unfold zX9_at_s0_41 at h
  cases h
  exact kz_iret hx hb hr hlocks hP hK hD hS dX9_at_41 ⟨rfl, rfl⟩
set_option maxHeartbeats 4000000 in
set_option maxRecDepth 100000 in
theorem qX9_at_s0 (l : Launch) (D : va_G) (ty : Nat → ClassId) (eo : Nat → Nat) (sz : Nat) (ad : Nat → Nat) (q : dK) (p1 : Int32) (p2 : Int32) (o1 : Int32) (o2 : dK) (h : zX9_at_s0 q p1 p2 = some (o1, o2)) : Met l yX9_at wsX9_at ({ frames := 4, cells := 0, slots := 0, locals := 103 } : Room) (va_Pc [.ref (ad 0), .int p1, .int p2] (kz_pre D ty eo (wF ty ad q) sz)) (va_Qi (fun (r : Int32) (u : va_W) => o1 = r ∧ wF ty ad o2 = u) (kz_B D ty (va_A (wF ty ad q) sz)) (va_A (wF ty ad q) sz)) 0 0 (va_A (wF ty ad q) sz) := by
  refine Met.ofW (cc := cX9_at) (maxL := 3) (ret := (some .int)) (by decide) rfl ?_
  intro p e s m args below meth c s₁ B hml hv
  obtain ⟨rfl, hsz, hP, hK, hD0, hN, hE⟩ := hv
  have hx := B.exec
  have hb := B.bytes
  have hr := B.returns
  have hts := atoms_spec (ws := wsX9_at) B.pre
  have hown : s.vm.findClass RX9 = some m.cls := findClass_of_methodNamed B.named
  have hlocks := B.notSynchronized
  subst hsz
  have hD := hD0.self (sz := s.heap.size)
  generalize hAe : va_A (wF ty ad q) s.heap.size = A at hD hE ⊢
  have hA : ∀ q : Nat, s.heap.size ≤ q → A q := fun q h => by rw [← hAe]; exact Or.inr h
  clear hAe
  have hS : va_S A s.heap s.heap [] := va_S.rf
  have hl := lv_entry ([.ref (ad 0), .int p1, .int p2]) (n := 3) (Nat.le_of_ble_eq_true rfl)
  rw [lg_entry_eq]
  generalize (lg_sl ([.ref (ad 0), .int p1, .int p2]) ++ List.replicate (3 - (lg_sl ([.ref (ad 0), .int p1, .int p2])).length) Slot.unset).toArray = ls at hl ⊢
  have hl : lv_has ls 3 [(0, .ref (ad 0)), (1, .int p1), (2, .int p2)] := hl
  have C : dc_C p s m _ meth c cX9_at (some .int) 3 RX9 wsX9_at D ty eo A := ⟨hx, hb, hr, hts, hown, hlocks, hml, hK, hN, hE, hA⟩
  unfold zX9_at_s0 at h
  refine lv_iload_n hx hb dX9_at_0 rfl (lv_at hl 2 rfl) ?_
  refine lv_iconst (v := 2) hx hb dX9_at_1 (by decide) ?_
  refine lv_icmp_ne (tgt := 42) hx hb dX9_at_2 (by decide) (fun c9 => ?_) (fun c9 => ?_)
  · rw [if_neg c9] at h
    refine lv_aload_n hx hb dX9_at_42 rfl (lv_at hl 0 rfl) ?_
    refine va_get (D := D) (ci := 9) (v := .ref (ad 1)) (C := RX9) (T := TX9) (N := 19) hx hb hts u9_wsX9_at_X9 hown hK hP 0 rfl rfl 0 (by decide) (hts (.fieldLink RX9 10 "TurnedFloors" "state" "LTurnedFloors$State;") f9_wsX9_at_403) (fun _ h9 => h9) rfl dX9_at_43 ?_
    refine va_getN (D := D) (ci := 6) (v := .ref (ad 2)) (C := RX6) (T := TX6) (N := 10) hx hb hts u9_wsX9_at_X6 hown hK hP 1 rfl rfl 0 (by decide) (hN.use (.fieldLinkNest "TurnedFloors" 122 "TurnedFloors$State" "tower" "LTurnedFloors$Tower;" "TurnedFloors") nn9_0) (fun _ h9 => h9) rfl dX9_at_46 ?_
    refine lv_iload_n hx hb dX9_at_49 rfl (lv_at hl 1 rfl) ?_
    refine lv_iload_n hx hb dX9_at_50 rfl (lv_at hl 2 rfl) ?_
    obtain ⟨r1, q3, h2, h⟩ := dB_some h
    refine dw_ki (va_runV (As := [.int p1, .int p2]) (rest := []) ⟨hx, hb, hml, hown, hts⟩ (qX8_tell_s2 l D ty eo _ ad q p1 p2 r1 q3 h2) (cwV 2 hts gX9_at_X8_tell rfl rfl rfl hd_X8_tell_v ⟨Nat.le_of_ble_eq_true rfl, Nat.le_of_ble_eq_true rfl⟩) (pvF_8_2 hK hN hE hP hD hS hA) rfl rfl hl.1 rfl (lv_room (Nat.le_of_ble_eq_true rfl)) dX9_at_51 ⟨Nat.le_of_ble_eq_true rfl, Nat.le_of_ble_eq_true rfl⟩) hD hS hA (fun r9 u9 H locs hw hp hd hs => ?_)
    clear hP hD hS
    obtain ⟨rfl, rfl⟩ := hw
    have hP := hp; have hD := hd; have hS := hs; clear hp hd hs
    cases h
    exact kz_iret hx hb hr hlocks hP hK hD hS dX9_at_54 ⟨rfl, rfl⟩
  · rw [if_pos c9] at h
    refine lv_aload_n hx hb dX9_at_5 rfl (lv_at hl 0 rfl) ?_
    refine va_get (D := D) (ci := 9) (v := .ref (ad 1)) (C := RX9) (T := TX9) (N := 19) hx hb hts u9_wsX9_at_X9 hown hK hP 0 rfl rfl 0 (by decide) (hts (.fieldLink RX9 10 "TurnedFloors" "state" "LTurnedFloors$State;") f9_wsX9_at_403) (fun _ h9 => h9) rfl dX9_at_6 ?_
    refine va_getN (D := D) (ci := 6) (v := .ref (ad 2)) (C := RX6) (T := TX6) (N := 10) hx hb hts u9_wsX9_at_X6 hown hK hP 1 rfl rfl 0 (by decide) (hN.use (.fieldLinkNest "TurnedFloors" 122 "TurnedFloors$State" "tower" "LTurnedFloors$Tower;" "TurnedFloors") nn9_0) (fun _ h9 => h9) rfl dX9_at_9 ?_
    refine lv_iload_n hx hb dX9_at_12 rfl (lv_at hl 1 rfl) ?_
    obtain ⟨r4, q6, h5, h⟩ := dB_some h
    refine dw_ki (va_runV (As := [.int p1]) (rest := []) ⟨hx, hb, hml, hown, hts⟩ (qX8_isFloor_s2 l D ty eo _ ad q p1 r4 q6 h5) (cwV 1 hts gX9_at_X8_isFloor rfl rfl rfl hd_X8_isFloor_v ⟨Nat.le_of_ble_eq_true rfl, Nat.le_of_ble_eq_true rfl⟩) (pvF_8_2 hK hN hE hP hD hS hA) rfl rfl hl.1 rfl (lv_room (Nat.le_of_ble_eq_true rfl)) dX9_at_13 ⟨Nat.le_of_ble_eq_true rfl, Nat.le_of_ble_eq_true rfl⟩) hD hS hA (fun r9 u9 H locs hw hp hd hs => ?_)
    clear hP hD hS
    obtain ⟨rfl, rfl⟩ := hw
    have hP := hp; have hD := hd; have hS := hs; clear hp hd hs
    refine lv_if_eq (tgt := 40) hx hb dX9_at_16 (by decide) (fun c9 => ?_) (fun c9 => ?_)
    · rw [if_pos c9] at h
      refine lv_iconst (v := (-1)) hx hb dX9_at_40 (by decide) ?_
      exact WX9_at_s0_41 C  _ _ _ _ _ h hP hD hS (lv_sub hl [] rfl)
    · rw [if_neg c9] at h
      refine lv_aload_n hx hb dX9_at_19 rfl (lv_at hl 0 rfl) ?_
      obtain ⟨q9, h8, h⟩ := dV_some h
      refine dw_kq (va_runV (As := []) (rest := []) ⟨hx, hb, hml, hown, hts⟩ (qX9_seated_s0 l D ty eo _ ad q6  q9 h8) (cwV 0 hts gX9_at_X9_seated rfl rfl rfl hd_X9_seated_v ⟨Nat.le_of_ble_eq_true rfl, Nat.le_of_ble_eq_true rfl⟩) (pvF_9_0 hK hN hE hP hD hS hA) rfl rfl hl.1 rfl (lv_room (Nat.le_of_ble_eq_true rfl)) dX9_at_20 ⟨Nat.le_of_ble_eq_true rfl, Nat.le_of_ble_eq_true rfl⟩) hP hD hS hA (fun r9 u9 H locs hw hp hd hs => ?_)
      clear hP hD hS
      obtain ⟨rfl, rfl⟩ := hw
      have hP := hp; have hD := hd; have hS := hs; clear hp hd hs
      refine lv_aload_n hx hb dX9_at_23 rfl (lv_at hl 0 rfl) ?_
      refine va_get (D := D) (ci := 9) (v := .ref (ad 1)) (C := RX9) (T := TX9) (N := 19) hx hb hts u9_wsX9_at_X9 hown hK hP 0 rfl rfl 0 (by decide) (hts (.fieldLink RX9 10 "TurnedFloors" "state" "LTurnedFloors$State;") f9_wsX9_at_403) (fun _ h9 => h9) rfl dX9_at_24 ?_
      refine va_getN (D := D) (ci := 6) (v := .ref (ad 2)) (C := RX6) (T := TX6) (N := 10) hx hb hts u9_wsX9_at_X6 hown hK hP 1 rfl rfl 0 (by decide) (hN.use (.fieldLinkNest "TurnedFloors" 122 "TurnedFloors$State" "tower" "LTurnedFloors$Tower;" "TurnedFloors") nn9_0) (fun _ h9 => h9) rfl dX9_at_27 ?_
      refine lv_iload_n hx hb dX9_at_30 rfl (lv_at hl 1 rfl) ?_
      obtain ⟨r10, q12, h11, h⟩ := dB_some h
      refine dw_ki (va_runV (As := [.ref (ad 2), .int p1]) (rest := []) ⟨hx, hb, hml, hown, hts⟩ (qX1_tips_s20_s2 l D ty eo _ ad q9 p1 r10 q12 h11) (cwV 2 hts gX9_at_X1_tips rfl rfl rfl hd_X1_tips_v ⟨Nat.le_of_ble_eq_true rfl, Nat.le_of_ble_eq_true rfl⟩) (pvF_1_20 hK hN hE hP hD hS hA) rfl rfl hl.1 rfl (lv_room (Nat.le_of_ble_eq_true rfl)) dX9_at_31 ⟨Nat.le_of_ble_eq_true rfl, Nat.le_of_ble_eq_true rfl⟩) hD hS hA (fun r9 u9 H locs hw hp hd hs => ?_)
      clear hP hD hS
      obtain ⟨rfl, rfl⟩ := hw
      have hP := hp; have hD := hd; have hS := hs; clear hp hd hs
      obtain ⟨r13, h14, h⟩ := dV_some h
      refine dw_ks (va_runS (As := [.int r10]) (rest := []) ⟨hx, hb, hml, hown, hts⟩ (qX9_bit l D ty eo _ r10 _ h14) (va_cwS 1 hts gX9_at_X9_bit rfl rfl rfl hd_X9_bit ⟨Nat.le_of_ble_eq_true rfl, Nat.le_of_ble_eq_true rfl⟩) (pvS_0 hK hN hE hP hD hS hA) rfl rfl hl.1 rfl (lv_room (Nat.le_of_ble_eq_true rfl)) dX9_at_34 ⟨Nat.le_of_ble_eq_true rfl, Nat.le_of_ble_eq_true rfl⟩) hP hD hS hA (fun _ _ h9 => h9.2.symm) (fun r9 u9 H locs hw hp hd hs => ?_)
      obtain ⟨rfl, -⟩ := hw
      clear hP hD hS
      have hP := hp; have hD := hd; have hS := hs; clear hp hd hs
      refine lv_goto (tgt := 41) hx hb dX9_at_37 (by decide) ?_
      exact WX9_at_s0_41 C  _ _ _ _ _ h hP hD hS (lv_sub hl [] rfl)

set_option maxHeartbeats 4000000 in
set_option maxRecDepth 100000 in
theorem qX1_setGrip_s20 (l : Launch) (D : va_G) (ty : Nat → ClassId) (eo : Nat → Nat) (sz : Nat) (ad : Nat → Nat) (q : dK) (p1 : Int32) (p2 : Int32) (p3 : Int32) (p4 : Int32) (o2 : dK) (h : zX1_setGrip_s20 q p1 p2 p3 p4 = some o2) : Met l yX1_setGrip wsX1_setGrip ({ frames := 0, cells := 0, slots := 0, locals := 0 } : Room) (va_Pc [.ref (ad 20), .int p1, .int p2, .int p3, .int p4] (kz_pre D ty eo (wF ty ad q) sz)) (va_Qv (fun (u : va_W) => wF ty ad o2 = u) (kz_B D ty (va_A (wF ty ad q) sz)) (va_A (wF ty ad q) sz)) 0 0 (va_A (wF ty ad q) sz) := by
  refine Met.ofW (cc := cX1_setGrip) (maxL := 5) (ret := none) (by decide) rfl ?_
  intro p e s m args below meth c s₁ B hml hv
  obtain ⟨rfl, hsz, hP, hK, hD0, hN, hE⟩ := hv
  have hx := B.exec
  have hb := B.bytes
  have hr := B.returns
  have hts := atoms_spec (ws := wsX1_setGrip) B.pre
  have hown : s.vm.findClass RX1 = some m.cls := findClass_of_methodNamed B.named
  have hlocks := B.notSynchronized
  subst hsz
  have hD := hD0.self (sz := s.heap.size)
  generalize hAe : va_A (wF ty ad q) s.heap.size = A at hD hE ⊢
  have hA : ∀ q : Nat, s.heap.size ≤ q → A q := fun q h => by rw [← hAe]; exact Or.inr h
  clear hAe
  have hS : va_S A s.heap s.heap [] := va_S.rf
  have hl := lv_entry ([.ref (ad 20), .int p1, .int p2, .int p3, .int p4]) (n := 5) (Nat.le_of_ble_eq_true rfl)
  rw [lg_entry_eq]
  generalize (lg_sl ([.ref (ad 20), .int p1, .int p2, .int p3, .int p4]) ++ List.replicate (5 - (lg_sl ([.ref (ad 20), .int p1, .int p2, .int p3, .int p4])).length) Slot.unset).toArray = ls at hl ⊢
  have hl : lv_has ls 5 [(0, .ref (ad 20)), (1, .int p1), (2, .int p2), (3, .int p3), (4, .int p4)] := hl
  have C : dc_C p s m _ meth c cX1_setGrip none 5 RX1 wsX1_setGrip D ty eo A := ⟨hx, hb, hr, hts, hown, hlocks, hml, hK, hN, hE, hA⟩
  unfold zX1_setGrip_s20 at h
  refine lv_aload_n hx hb dX1_setGrip_0 rfl (lv_at hl 0 rfl) ?_
  refine va_get (D := D) (ci := 1) (v := .ref (ad 21)) (C := RX1) (T := TX1) (N := 3) hx hb hts u9_wsX1_setGrip_X1 hown hK hP 20 rfl rfl 1 (by decide) (hts (.fieldLink RX1 11 "TurnedFloors$Judge" "words" "[I") f9_wsX1_setGrip_405) (fun _ h9 => h9) rfl dX1_setGrip_1 ?_
  refine lv_iconst (v := 0) hx hb dX1_setGrip_4 (by decide) ?_
  refine lv_iload_n hx hb dX1_setGrip_5 rfl (lv_at hl 1 rfl) ?_
  refine va_iast hx hb hK hP hD hS 21 0 rfl rfl (by simp only [vp_in]; decide) dX1_setGrip_6 (fun H locs hp hd hs => ?_)
  obtain ⟨q1, eq1, h⟩ := dL_some h
  refine kz_re (w2 := wF ty ad q1) hp hd hs (by rw [(by decide +kernel : Int32.toNatClampNeg 0 = 0), ← eq1]; exact wF_a21 ty ad q 0 p1) ?_
  clear hp hd hs hP hD hS
  intro hP hD hS
  refine lv_aload_n hx hb dX1_setGrip_7 rfl (lv_at hl 0 rfl) ?_
  refine va_get (D := D) (ci := 1) (v := .ref (ad 21)) (C := RX1) (T := TX1) (N := 3) hx hb hts u9_wsX1_setGrip_X1 hown hK hP 20 rfl rfl 1 (by decide) (hts (.fieldLink RX1 11 "TurnedFloors$Judge" "words" "[I") f9_wsX1_setGrip_405) (fun _ h9 => h9) rfl dX1_setGrip_8 ?_
  refine lv_iconst (v := 1) hx hb dX1_setGrip_11 (by decide) ?_
  refine lv_iload_n hx hb dX1_setGrip_12 rfl (lv_at hl 2 rfl) ?_
  refine va_iast hx hb hK hP hD hS 21 0 rfl rfl (by simp only [vp_in]; decide) dX1_setGrip_13 (fun H locs hp hd hs => ?_)
  obtain ⟨q2, eq2, h⟩ := dL_some h
  refine kz_re (w2 := wF ty ad q2) hp hd hs (by rw [(by decide +kernel : Int32.toNatClampNeg 1 = 1), ← eq2]; exact wF_a21 ty ad q1 1 p2) ?_
  clear hp hd hs hP hD hS
  intro hP hD hS
  refine lv_aload_n hx hb dX1_setGrip_14 rfl (lv_at hl 0 rfl) ?_
  refine va_get (D := D) (ci := 1) (v := .ref (ad 21)) (C := RX1) (T := TX1) (N := 3) hx hb hts u9_wsX1_setGrip_X1 hown hK hP 20 rfl rfl 1 (by decide) (hts (.fieldLink RX1 11 "TurnedFloors$Judge" "words" "[I") f9_wsX1_setGrip_405) (fun _ h9 => h9) rfl dX1_setGrip_15 ?_
  refine lv_iconst (v := 2) hx hb dX1_setGrip_18 (by decide) ?_
  refine lv_iload_n hx hb dX1_setGrip_19 rfl (lv_at hl 3 rfl) ?_
  refine va_iast hx hb hK hP hD hS 21 0 rfl rfl (by simp only [vp_in]; decide) dX1_setGrip_20 (fun H locs hp hd hs => ?_)
  obtain ⟨q3, eq3, h⟩ := dL_some h
  refine kz_re (w2 := wF ty ad q3) hp hd hs (by rw [(by decide +kernel : Int32.toNatClampNeg 2 = 2), ← eq3]; exact wF_a21 ty ad q2 2 p3) ?_
  clear hp hd hs hP hD hS
  intro hP hD hS
  refine lv_aload_n hx hb dX1_setGrip_21 rfl (lv_at hl 0 rfl) ?_
  refine va_get (D := D) (ci := 1) (v := .ref (ad 21)) (C := RX1) (T := TX1) (N := 3) hx hb hts u9_wsX1_setGrip_X1 hown hK hP 20 rfl rfl 1 (by decide) (hts (.fieldLink RX1 11 "TurnedFloors$Judge" "words" "[I") f9_wsX1_setGrip_405) (fun _ h9 => h9) rfl dX1_setGrip_22 ?_
  refine lv_iconst (v := 3) hx hb dX1_setGrip_25 (by decide) ?_
  refine lv_iload hx hb dX1_setGrip_26 (lv_at hl 4 rfl) ?_
  refine va_iast hx hb hK hP hD hS 21 0 rfl rfl (by simp only [vp_in]; decide) dX1_setGrip_28 (fun H locs hp hd hs => ?_)
  obtain ⟨q4, eq4, h⟩ := dL_some h
  refine kz_re (w2 := wF ty ad q4) hp hd hs (by rw [(by decide +kernel : Int32.toNatClampNeg 3 = 3), ← eq4]; exact wF_a21 ty ad q3 3 p4) ?_
  clear hp hd hs hP hD hS
  intro hP hD hS
  refine lv_aload_n hx hb dX1_setGrip_29 rfl (lv_at hl 0 rfl) ?_
  refine va_get (D := D) (ci := 1) (v := .ref (ad 21)) (C := RX1) (T := TX1) (N := 3) hx hb hts u9_wsX1_setGrip_X1 hown hK hP 20 rfl rfl 1 (by decide) (hts (.fieldLink RX1 11 "TurnedFloors$Judge" "words" "[I") f9_wsX1_setGrip_405) (fun _ h9 => h9) rfl dX1_setGrip_30 ?_
  refine lv_iconst (v := 5) hx hb dX1_setGrip_33 (by decide) ?_
  refine lv_iconst (v := (-1)) hx hb dX1_setGrip_34 (by decide) ?_
  refine va_iast hx hb hK hP hD hS 21 0 rfl rfl (by simp only [vp_in]; decide) dX1_setGrip_35 (fun H locs hp hd hs => ?_)
  obtain ⟨q5, eq5, h⟩ := dL_some h
  refine kz_re (w2 := wF ty ad q5) hp hd hs (by rw [(by decide +kernel : Int32.toNatClampNeg 5 = 5), ← eq5]; exact wF_a21 ty ad q4 5 (-1)) ?_
  clear hp hd hs hP hD hS
  intro hP hD hS
  refine lv_aload_n hx hb dX1_setGrip_36 rfl (lv_at hl 0 rfl) ?_
  refine va_get (D := D) (ci := 1) (v := .ref (ad 21)) (C := RX1) (T := TX1) (N := 3) hx hb hts u9_wsX1_setGrip_X1 hown hK hP 20 rfl rfl 1 (by decide) (hts (.fieldLink RX1 11 "TurnedFloors$Judge" "words" "[I") f9_wsX1_setGrip_405) (fun _ h9 => h9) rfl dX1_setGrip_37 ?_
  refine lv_bipush (v := 6) hx hb dX1_setGrip_40 (by decide) ?_
  refine lv_iconst (v := (-1)) hx hb dX1_setGrip_42 (by decide) ?_
  refine va_iast hx hb hK hP hD hS 21 0 rfl rfl (by simp only [vp_in]; decide) dX1_setGrip_43 (fun H locs hp hd hs => ?_)
  obtain ⟨q6, eq6, h⟩ := dL_some h
  refine kz_re (w2 := wF ty ad q6) hp hd hs (by rw [(by decide +kernel : Int32.toNatClampNeg 6 = 6), ← eq6]; exact wF_a21 ty ad q5 6 (-1)) ?_
  clear hp hd hs hP hD hS
  intro hP hD hS
  cases h
  exact kz_vret hx hb hr hlocks hP hK hD hS dX1_setGrip_44 rfl

set_option maxHeartbeats 4000000 in
set_option maxRecDepth 100000 in
theorem qX1_setTurn_s20_s2 (l : Launch) (D : va_G) (ty : Nat → ClassId) (eo : Nat → Nat) (sz : Nat) (ad : Nat → Nat) (q : dK) (p2 : Int32) (o2 : dK) (h : zX1_setTurn_s20_s2 q p2 = some o2) : Met l yX1_setTurn wsX1_setTurn ({ frames := 2, cells := 0, slots := 0, locals := 43 } : Room) (va_Pc [.ref (ad 20), .ref (ad 2), .int p2] (kz_pre D ty eo (wF ty ad q) sz)) (va_Qv (fun (u : va_W) => wF ty ad o2 = u) (kz_B D ty (va_A (wF ty ad q) sz)) (va_A (wF ty ad q) sz)) 0 0 (va_A (wF ty ad q) sz) := by
  refine Met.ofW (cc := cX1_setTurn) (maxL := 3) (ret := none) (by decide) rfl ?_
  intro p e s m args below meth c s₁ B hml hv
  obtain ⟨rfl, hsz, hP, hK, hD0, hN, hE⟩ := hv
  have hx := B.exec
  have hb := B.bytes
  have hr := B.returns
  have hts := atoms_spec (ws := wsX1_setTurn) B.pre
  have hown : s.vm.findClass RX1 = some m.cls := findClass_of_methodNamed B.named
  have hlocks := B.notSynchronized
  subst hsz
  have hD := hD0.self (sz := s.heap.size)
  generalize hAe : va_A (wF ty ad q) s.heap.size = A at hD hE ⊢
  have hA : ∀ q : Nat, s.heap.size ≤ q → A q := fun q h => by rw [← hAe]; exact Or.inr h
  clear hAe
  have hS : va_S A s.heap s.heap [] := va_S.rf
  have hl := lv_entry ([.ref (ad 20), .ref (ad 2), .int p2]) (n := 3) (Nat.le_of_ble_eq_true rfl)
  rw [lg_entry_eq]
  generalize (lg_sl ([.ref (ad 20), .ref (ad 2), .int p2]) ++ List.replicate (3 - (lg_sl ([.ref (ad 20), .ref (ad 2), .int p2])).length) Slot.unset).toArray = ls at hl ⊢
  have hl : lv_has ls 3 [(0, .ref (ad 20)), (1, .ref (ad 2)), (2, .int p2)] := hl
  have C : dc_C p s m _ meth c cX1_setTurn none 3 RX1 wsX1_setTurn D ty eo A := ⟨hx, hb, hr, hts, hown, hlocks, hml, hK, hN, hE, hA⟩
  unfold zX1_setTurn_s20_s2 at h
  refine lv_aload_n hx hb dX1_setTurn_0 rfl (lv_at hl 0 rfl) ?_
  refine lv_aload_n hx hb dX1_setTurn_1 rfl (lv_at hl 1 rfl) ?_
  refine va_getN (D := D) (ci := 8) (v := .int (q.1 2 2)) (C := RX8) (T := TX8) (N := 5) hx hb hts u9_wsX1_setTurn_X8 hown hK hP 2 rfl rfl 2 (by decide) (hN.use (.fieldLinkNest "TurnedFloors$Judge" 40 "TurnedFloors$Tower" "floors" "I" "TurnedFloors") nn9_9) (fun _ h9 => h9) rfl dX1_setTurn_2 ?_
  refine lv_aload_n hx hb dX1_setTurn_5 rfl (lv_at hl 1 rfl) ?_
  refine va_getN (D := D) (ci := 8) (v := .int (q.1 2 4)) (C := RX8) (T := TX8) (N := 5) hx hb hts u9_wsX1_setTurn_X8 hown hK hP 2 rfl rfl 4 (by decide) (hN.use (.fieldLinkNest "TurnedFloors$Judge" 44 "TurnedFloors$Tower" "year" "I" "TurnedFloors") nn9_10) (fun _ h9 => h9) rfl dX1_setTurn_6 ?_
  obtain ⟨q3, h2, h⟩ := dV_some h
  refine dw_kv (va_runV (As := [.int (q.1 2 2), .int (q.1 2 4)]) (rest := []) ⟨hx, hb, hml, hown, hts⟩ (qX1_setCommon_s20 l D ty eo _ ad q (q.1 2 2) (q.1 2 4) q3 h2) (cwV 2 hts gX1_setTurn_X1_setCommon rfl rfl rfl hd_X1_setCommon_v ⟨Nat.le_of_ble_eq_true rfl, Nat.le_of_ble_eq_true rfl⟩) (pvF_1_20 hK hN hE hP hD hS hA) rfl rfl hl.1 rfl (lv_room (Nat.le_of_ble_eq_true rfl)) dX1_setTurn_9 ⟨Nat.le_of_ble_eq_true rfl, Nat.le_of_ble_eq_true rfl⟩) hD hS hA (fun u9 H locs hw hp hd hs => ?_)
  clear hP hD hS
  obtain rfl := hw
  have hP := hp; have hD := hd; have hS := hs; clear hp hd hs
  refine lv_aload_n hx hb dX1_setTurn_12 rfl (lv_at hl 0 rfl) ?_
  refine lv_iload_n hx hb dX1_setTurn_13 rfl (lv_at hl 2 rfl) ?_
  refine lv_aload_n hx hb dX1_setTurn_14 rfl (lv_at hl 1 rfl) ?_
  refine lv_iconst (v := 0) hx hb dX1_setTurn_15 (by decide) ?_
  refine lv_iconst (v := 0) hx hb dX1_setTurn_16 (by decide) ?_
  obtain ⟨r4, q6, h5, h⟩ := dB_some h
  refine dw_ki (va_runV (As := [.int 0, .int 0]) (rest := [.int p2, .ref (ad 20)]) ⟨hx, hb, hml, hown, hts⟩ (qX8_tell_s2 l D ty eo _ ad q3 0 0 r4 q6 h5) (cwV 2 hts gX1_setTurn_X8_tell rfl rfl rfl hd_X8_tell_v ⟨Nat.le_of_ble_eq_true rfl, Nat.le_of_ble_eq_true rfl⟩) (pvF_8_2 hK hN hE hP hD hS hA) rfl rfl hl.1 rfl (lv_room (Nat.le_of_ble_eq_true rfl)) dX1_setTurn_17 ⟨Nat.le_of_ble_eq_true rfl, Nat.le_of_ble_eq_true rfl⟩) hD hS hA (fun r9 u9 H locs hw hp hd hs => ?_)
  clear hP hD hS
  obtain ⟨rfl, rfl⟩ := hw
  have hP := hp; have hD := hd; have hS := hs; clear hp hd hs
  refine lv_aload_n hx hb dX1_setTurn_20 rfl (lv_at hl 1 rfl) ?_
  refine lv_iload_n hx hb dX1_setTurn_21 rfl (lv_at hl 2 rfl) ?_
  refine lv_iconst (v := 0) hx hb dX1_setTurn_22 (by decide) ?_
  obtain ⟨r7, q9, h8, h⟩ := dB_some h
  refine dw_ki (va_runV (As := [.int p2, .int 0]) (rest := [.int r4, .int p2, .ref (ad 20)]) ⟨hx, hb, hml, hown, hts⟩ (qX8_tell_s2 l D ty eo _ ad q6 p2 0 r7 q9 h8) (cwV 2 hts gX1_setTurn_X8_tell rfl rfl rfl hd_X8_tell_v ⟨Nat.le_of_ble_eq_true rfl, Nat.le_of_ble_eq_true rfl⟩) (pvF_8_2 hK hN hE hP hD hS hA) rfl rfl hl.1 rfl (lv_room (Nat.le_of_ble_eq_true rfl)) dX1_setTurn_23 ⟨Nat.le_of_ble_eq_true rfl, Nat.le_of_ble_eq_true rfl⟩) hD hS hA (fun r9 u9 H locs hw hp hd hs => ?_)
  clear hP hD hS
  obtain ⟨rfl, rfl⟩ := hw
  have hP := hp; have hD := hd; have hS := hs; clear hp hd hs
  refine lv_aload_n hx hb dX1_setTurn_26 rfl (lv_at hl 1 rfl) ?_
  refine lv_iconst (v := 0) hx hb dX1_setTurn_27 (by decide) ?_
  refine lv_iconst (v := 1) hx hb dX1_setTurn_28 (by decide) ?_
  obtain ⟨r10, q12, h11, h⟩ := dB_some h
  refine dw_ki (va_runV (As := [.int 0, .int 1]) (rest := [.int r7, .int r4, .int p2, .ref (ad 20)]) ⟨hx, hb, hml, hown, hts⟩ (qX8_tell_s2 l D ty eo _ ad q9 0 1 r10 q12 h11) (cwV 2 hts gX1_setTurn_X8_tell rfl rfl rfl hd_X8_tell_v ⟨Nat.le_of_ble_eq_true rfl, Nat.le_of_ble_eq_true rfl⟩) (pvF_8_2 hK hN hE hP hD hS hA) rfl rfl hl.1 rfl (lv_room (Nat.le_of_ble_eq_true rfl)) dX1_setTurn_29 ⟨Nat.le_of_ble_eq_true rfl, Nat.le_of_ble_eq_true rfl⟩) hD hS hA (fun r9 u9 H locs hw hp hd hs => ?_)
  clear hP hD hS
  obtain ⟨rfl, rfl⟩ := hw
  have hP := hp; have hD := hd; have hS := hs; clear hp hd hs
  obtain ⟨q15, h14, h⟩ := dV_some h
  refine dw_kv (va_runV (As := [.int p2, .int r4, .int r7, .int r10]) (rest := []) ⟨hx, hb, hml, hown, hts⟩ (qX1_setGrip_s20 l D ty eo _ ad q12 p2 r4 r7 r10 q15 h14) (cwV 4 hts gX1_setTurn_X1_setGrip rfl rfl rfl hd_X1_setGrip_v ⟨Nat.le_of_ble_eq_true rfl, Nat.le_of_ble_eq_true rfl⟩) (pvF_1_20 hK hN hE hP hD hS hA) rfl rfl hl.1 rfl (lv_room (Nat.le_of_ble_eq_true rfl)) dX1_setTurn_32 ⟨Nat.le_of_ble_eq_true rfl, Nat.le_of_ble_eq_true rfl⟩) hD hS hA (fun u9 H locs hw hp hd hs => ?_)
  clear hP hD hS
  obtain rfl := hw
  have hP := hp; have hD := hd; have hS := hs; clear hp hd hs
  cases h
  exact kz_vret hx hb hr hlocks hP hK hD hS dX1_setTurn_35 rfl

set_option maxHeartbeats 4000000 in
set_option maxRecDepth 100000 in
theorem qX1_bars_s20_s2 (l : Launch) (D : va_G) (ty : Nat → ClassId) (eo : Nat → Nat) (sz : Nat) (ad : Nat → Nat) (q : dK) (p2 : Int32) (o1 : Int32) (o2 : dK) (h : zX1_bars_s20_s2 q p2 = some (o1, o2)) : Met l yX1_bars wsX1_bars ({ frames := 3, cells := 0, slots := 0, locals := 81 } : Room) (va_Pc [.ref (ad 20), .ref (ad 2), .int p2] (kz_pre D ty eo (wF ty ad q) sz)) (va_Qi (fun (r : Int32) (u : va_W) => o1 = r ∧ wF ty ad o2 = u) (kz_B D ty (va_A (wF ty ad q) sz)) (va_A (wF ty ad q) sz)) 0 0 (va_A (wF ty ad q) sz) := by
  refine Met.ofW (cc := cX1_bars) (maxL := 3) (ret := (some .boolean)) (by decide) rfl ?_
  intro p e s m args below meth c s₁ B hml hv
  obtain ⟨rfl, hsz, hP, hK, hD0, hN, hE⟩ := hv
  have hx := B.exec
  have hb := B.bytes
  have hr := B.returns
  have hts := atoms_spec (ws := wsX1_bars) B.pre
  have hown : s.vm.findClass RX1 = some m.cls := findClass_of_methodNamed B.named
  have hlocks := B.notSynchronized
  subst hsz
  have hD := hD0.self (sz := s.heap.size)
  generalize hAe : va_A (wF ty ad q) s.heap.size = A at hD hE ⊢
  have hA : ∀ q : Nat, s.heap.size ≤ q → A q := fun q h => by rw [← hAe]; exact Or.inr h
  clear hAe
  have hS : va_S A s.heap s.heap [] := va_S.rf
  have hl := lv_entry ([.ref (ad 20), .ref (ad 2), .int p2]) (n := 3) (Nat.le_of_ble_eq_true rfl)
  rw [lg_entry_eq]
  generalize (lg_sl ([.ref (ad 20), .ref (ad 2), .int p2]) ++ List.replicate (3 - (lg_sl ([.ref (ad 20), .ref (ad 2), .int p2])).length) Slot.unset).toArray = ls at hl ⊢
  have hl : lv_has ls 3 [(0, .ref (ad 20)), (1, .ref (ad 2)), (2, .int p2)] := hl
  have C : dc_C p s m _ meth c cX1_bars (some .boolean) 3 RX1 wsX1_bars D ty eo A := ⟨hx, hb, hr, hts, hown, hlocks, hml, hK, hN, hE, hA⟩
  unfold zX1_bars_s20_s2 at h
  refine lv_aload_n hx hb dX1_bars_0 rfl (lv_at hl 0 rfl) ?_
  refine lv_aload_n hx hb dX1_bars_1 rfl (lv_at hl 1 rfl) ?_
  refine lv_iload_n hx hb dX1_bars_2 rfl (lv_at hl 2 rfl) ?_
  obtain ⟨q3, h2, h⟩ := dV_some h
  refine dw_kv (va_runV (As := [.ref (ad 2), .int p2]) (rest := []) ⟨hx, hb, hml, hown, hts⟩ (qX1_setTurn_s20_s2 l D ty eo _ ad q p2 q3 h2) (cwV 2 hts gX1_bars_X1_setTurn rfl rfl rfl hd_X1_setTurn_v ⟨Nat.le_of_ble_eq_true rfl, Nat.le_of_ble_eq_true rfl⟩) (pvF_1_20 hK hN hE hP hD hS hA) rfl rfl hl.1 rfl (lv_room (Nat.le_of_ble_eq_true rfl)) dX1_bars_3 ⟨Nat.le_of_ble_eq_true rfl, Nat.le_of_ble_eq_true rfl⟩) hD hS hA (fun u9 H locs hw hp hd hs => ?_)
  clear hP hD hS
  obtain rfl := hw
  have hP := hp; have hD := hd; have hS := hs; clear hp hd hs
  refine lv_aload_n hx hb dX1_bars_6 rfl (lv_at hl 0 rfl) ?_
  refine lv_iconst (v := 1) hx hb dX1_bars_7 (by decide) ?_
  obtain ⟨r4, q6, h5, h⟩ := dB_some h
  refine dw_ki (va_runV (As := [.int 1]) (rest := []) ⟨hx, hb, hml, hown, hts⟩ (qX1_anyHolds_s20 l D ty eo _ ad q3 1 r4 q6 h5) (cwV 1 hts gX1_bars_X1_anyHolds rfl rfl rfl hd_X1_anyHolds_v ⟨Nat.le_of_ble_eq_true rfl, Nat.le_of_ble_eq_true rfl⟩) (pvF_1_20 hK hN hE hP hD hS hA) rfl rfl hl.1 rfl (lv_room (Nat.le_of_ble_eq_true rfl)) dX1_bars_8 ⟨Nat.le_of_ble_eq_true rfl, Nat.le_of_ble_eq_true rfl⟩) hD hS hA (fun r9 u9 H locs hw hp hd hs => ?_)
  clear hP hD hS
  obtain ⟨rfl, rfl⟩ := hw
  have hP := hp; have hD := hd; have hS := hs; clear hp hd hs
  obtain ⟨g7, h⟩ := dG_some h
  cases h
  exact kz_zret hx hb hr hlocks (dbl_nar g7) hP hK hD hS dX1_bars_11 ⟨rfl, rfl⟩

set_option maxHeartbeats 4000000 in
set_option maxRecDepth 100000 in
theorem WX1_pay_s20_132 {p : Program} {l : Launch} {e : Env} {s : State} {m : MethodId} {args : Array Value} {below : List Frame} {meth : Method} {c : Code} {D : va_G} {ty : Nat → ClassId} {eo : Nat → Nat} {A : Nat → Prop} {ad : Nat → Nat} {o1 : Int32} {o2 : dK} (C : dc_C p s m args meth c cX1_pay (some .int) 3 RX1 wsX1_pay D ty eo A) {k24 : dK → Int32 → Option (Int32 × dK)} (hk24 : ∀ (q : dK) (x1 : Int32) (H : Heap) (locs : List Loc) (ls : Array Slot), k24 q x1 = some (o1, o2) → va_P D vwCl (wF ty ad q) H → va_D A (wF ty ad q) → va_S A s.heap H locs → lv_has ls 3 [(0, .ref (ad 20)), (1, .int x1)] → W p l e ({ frames := 2, cells := 0, slots := 0, locals := 59 } : Room) s m args below meth c H locs 0 0 (MQ below (va_Qi (fun (r : Int32) (u : va_W) => o1 = r ∧ wF ty ad o2 = u) (kz_B D ty A) A) args s 0 0 A) (F0 m 24 ls [])) (q : dK) (x1 : Int32) (H : Heap) (locs : List Loc) (ls : Array Slot) (h : zX1_pay_s20_132 k24 q x1 = some (o1, o2)) (hP : va_P D vwCl (wF ty ad q) H) (hD : va_D A (wF ty ad q)) (hS : va_S A s.heap H locs) (hl : lv_has ls 3 [(0, .ref (ad 20)), (1, .int x1)]) : W p l e ({ frames := 2, cells := 0, slots := 0, locals := 59 } : Room) s m args below meth c H locs 0 0 (MQ below (va_Qi (fun (r : Int32) (u : va_W) => o1 = r ∧ wF ty ad o2 = u) (kz_B D ty A) A) args s 0 0 A) (F0 m 132 ls []) := by
  have C0 := C
  obtain ⟨hx, hb, hr, hts, hown, hlocks, hml, hK, hN, hE, hA⟩ := C
  unfold zX1_pay_s20_132 at h
  refine lv_iinc (v := x1 + (-1)) (lv' := [(1, .int (x1 + (-1))), (0, .ref (ad 20))]) hx hb dX1_pay_132 hl (k := 1) rfl rfl (by decide) rfl (fun ls hl => ?_)
  refine lv_goto (tgt := 24) hx hb dX1_pay_135 (by decide) ?_
  exact hk24 _ _ _ _ _ h hP hD hS (lv_sub hl [1, 0] rfl)
set_option maxHeartbeats 4000000 in
set_option maxRecDepth 100000 in
theorem WX1_pay_s20_24b {p : Program} {l : Launch} {e : Env} {s : State} {m : MethodId} {args : Array Value} {below : List Frame} {meth : Method} {c : Code} {D : va_G} {ty : Nat → ClassId} {eo : Nat → Nat} {A : Nat → Prop} {ad : Nat → Nat} {o1 : Int32} {o2 : dK} (C : dc_C p s m args meth c cX1_pay (some .int) 3 RX1 wsX1_pay D ty eo A) {k24 : dK → Int32 → Option (Int32 × dK)} (hk24 : ∀ (q : dK) (x1 : Int32) (H : Heap) (locs : List Loc) (ls : Array Slot), k24 q x1 = some (o1, o2) → va_P D vwCl (wF ty ad q) H → va_D A (wF ty ad q) → va_S A s.heap H locs → lv_has ls 3 [(0, .ref (ad 20)), (1, .int x1)] → W p l e ({ frames := 2, cells := 0, slots := 0, locals := 59 } : Room) s m args below meth c H locs 0 0 (MQ below (va_Qi (fun (r : Int32) (u : va_W) => o1 = r ∧ wF ty ad o2 = u) (kz_B D ty A) A) args s 0 0 A) (F0 m 24 ls [])) (q : dK) (x1 : Int32) (H : Heap) (locs : List Loc) (ls : Array Slot) (h : zX1_pay_s20_24b k24 q x1 = some (o1, o2)) (hP : va_P D vwCl (wF ty ad q) H) (hD : va_D A (wF ty ad q)) (hS : va_S A s.heap H locs) (hl : lv_has ls 3 [(0, .ref (ad 20)), (1, .int x1)]) : W p l e ({ frames := 2, cells := 0, slots := 0, locals := 59 } : Room) s m args below meth c H locs 0 0 (MQ below (va_Qi (fun (r : Int32) (u : va_W) => o1 = r ∧ wF ty ad o2 = u) (kz_B D ty A) A) args s 0 0 A) (F0 m 24 ls []) := by
  have C0 := C
  obtain ⟨hx, hb, hr, hts, hown, hlocks, hml, hK, hN, hE, hA⟩ := C
  unfold zX1_pay_s20_24b at h
  refine lv_iload_n hx hb dX1_pay_24 rfl (lv_at hl 1 rfl) ?_
  refine lv_if_lt (tgt := 138) hx hb dX1_pay_25 (by decide) (fun c9 => ?_) (fun c9 => ?_)
  · rw [if_pos c9] at h
    refine lv_aload_n hx hb dX1_pay_138 rfl (lv_at hl 0 rfl) ?_
    refine va_get (D := D) (ci := 1) (v := .ref (ad 21)) (C := RX1) (T := TX1) (N := 3) hx hb hts u9_wsX1_pay_X1 hown hK hP 20 rfl rfl 1 (by decide) (hts (.fieldLink RX1 11 "TurnedFloors$Judge" "words" "[I") f9_wsX1_pay_410) (fun _ h9 => h9) rfl dX1_pay_139 ?_
    refine lv_iconst (v := 0) hx hb dX1_pay_142 (by decide) ?_
    refine va_iald hx hb hK hP 21 0 rfl rfl (by simp only [vp_in]; decide) dX1_pay_143 ?_
    refine kz_topi (q.1 21 0) (congrArg (q.1 21) (by decide +kernel : Int32.toNatClampNeg 0 = 0)) ?_
    cases h
    exact kz_iret hx hb hr hlocks hP hK hD hS dX1_pay_144 ⟨rfl, rfl⟩
  · rw [if_neg c9] at h
    refine lv_aload_n hx hb dX1_pay_28 rfl (lv_at hl 0 rfl) ?_
    refine va_get (D := D) (ci := 1) (v := dLw ad (q.1 20 2)) (C := RX1) (T := TX1) (N := 3) hx hb hts u9_wsX1_pay_X1 hown hK hP 20 rfl rfl 2 (by decide) (hts (.fieldLink RX1 15 "TurnedFloors$Judge" "law" "LTurnedFloors$Text;") f9_wsX1_pay_411) (fun _ h9 => h9) rfl dX1_pay_29 ?_
    obtain ⟨g1, h⟩ := dG_some h
    refine kz_topv (if_neg (dlg_ne g1)) ?_
    obtain ⟨g2, h⟩ := dG_some h
    refine va_getN (D := D) (ci := 7) (v := .ref (ad (63 + 7 * dLi (q.1 20 2) + 1))) (C := RX7) (T := TX7) (N := 8) hx hb hts u9_wsX1_pay_X7 hown hK hP _ (lw_o g2) rfl 0 (by decide) (hN.use (.fieldLinkNest "TurnedFloors$Judge" 70 "TurnedFloors$Text" "kind" "[I" "TurnedFloors") nn9_6) (fun _ h9 => h9) rfl dX1_pay_32 ?_
    refine lv_iload_n hx hb dX1_pay_35 rfl (lv_at hl 1 rfl) ?_
    obtain ⟨g3, h⟩ := dG_some h
    obtain ⟨g4, h⟩ := dG_some h
    refine va_iald hx hb hK hP _ 0 (lw_a1 g3) rfl (dg_in g4) dX1_pay_36 ?_
    obtain ⟨v5, ev5, h⟩ := dL_some h
    refine kz_topi v5 ev5 ?_
    refine lv_if_ne (tgt := 132) hx hb dX1_pay_37 (by decide) (fun c9 => ?_) (fun c9 => ?_)
    · rw [if_neg c9] at h
      exact WX1_pay_s20_132 C0 hk24 _ _ _ _ _ h hP hD hS (lv_sub hl [0, 1] rfl)
    · rw [if_pos c9] at h
      refine lv_aload_n hx hb dX1_pay_40 rfl (lv_at hl 0 rfl) ?_
      refine va_get (D := D) (ci := 1) (v := .ref (ad 18)) (C := RX1) (T := TX1) (N := 3) hx hb hts u9_wsX1_pay_X1 hown hK hP 20 rfl rfl 0 (by decide) (hts (.fieldLink RX1 19 "TurnedFloors$Judge" "machine" "LTurnedFloors$Machine;") f9_wsX1_pay_412) (fun _ h9 => h9) rfl dX1_pay_41 ?_
      refine lv_aload_n hx hb dX1_pay_44 rfl (lv_at hl 0 rfl) ?_
      refine va_get (D := D) (ci := 1) (v := dLw ad (q.1 20 2)) (C := RX1) (T := TX1) (N := 3) hx hb hts u9_wsX1_pay_X1 hown hK hP 20 rfl rfl 2 (by decide) (hts (.fieldLink RX1 15 "TurnedFloors$Judge" "law" "LTurnedFloors$Text;") f9_wsX1_pay_411) (fun _ h9 => h9) rfl dX1_pay_45 ?_
      obtain ⟨g6, h⟩ := dG_some h
      refine kz_topv (if_neg (dlg_ne g6)) ?_
      refine lv_aload_n hx hb dX1_pay_48 rfl (lv_at hl 0 rfl) ?_
      refine va_get (D := D) (ci := 1) (v := dLw ad (q.1 20 2)) (C := RX1) (T := TX1) (N := 3) hx hb hts u9_wsX1_pay_X1 hown hK hP 20 rfl rfl 2 (by decide) (hts (.fieldLink RX1 15 "TurnedFloors$Judge" "law" "LTurnedFloors$Text;") f9_wsX1_pay_411) (fun _ h9 => h9) rfl dX1_pay_49 ?_
      obtain ⟨g7, h⟩ := dG_some h
      refine kz_topv (if_neg (dlg_ne g7)) ?_
      obtain ⟨g8, h⟩ := dG_some h
      refine va_getN (D := D) (ci := 7) (v := .ref (ad (63 + 7 * dLi (q.1 20 2) + 4))) (C := RX7) (T := TX7) (N := 8) hx hb hts u9_wsX1_pay_X7 hown hK hP _ (lw_o g8) rfl 3 (by decide) (hN.use (.fieldLinkNest "TurnedFloors$Judge" 73 "TurnedFloors$Text" "testFrom" "[I" "TurnedFloors") nn9_7) (fun _ h9 => h9) rfl dX1_pay_52 ?_
      refine lv_iload_n hx hb dX1_pay_55 rfl (lv_at hl 1 rfl) ?_
      obtain ⟨g9, h⟩ := dG_some h
      obtain ⟨g10, h⟩ := dG_some h
      refine va_iald hx hb hK hP _ 0 (lw_a4 g9) rfl (dg_in g10) dX1_pay_56 ?_
      obtain ⟨v11, ev11, h⟩ := dL_some h
      refine kz_topi v11 ev11 ?_
      refine lv_aload_n hx hb dX1_pay_57 rfl (lv_at hl 0 rfl) ?_
      refine va_get (D := D) (ci := 1) (v := dLw ad (q.1 20 2)) (C := RX1) (T := TX1) (N := 3) hx hb hts u9_wsX1_pay_X1 hown hK hP 20 rfl rfl 2 (by decide) (hts (.fieldLink RX1 15 "TurnedFloors$Judge" "law" "LTurnedFloors$Text;") f9_wsX1_pay_411) (fun _ h9 => h9) rfl dX1_pay_58 ?_
      obtain ⟨g12, h⟩ := dG_some h
      refine kz_topv (if_neg (dlg_ne g12)) ?_
      obtain ⟨g13, h⟩ := dG_some h
      refine va_getN (D := D) (ci := 7) (v := .ref (ad (63 + 7 * dLi (q.1 20 2) + 5))) (C := RX7) (T := TX7) (N := 8) hx hb hts u9_wsX1_pay_X7 hown hK hP _ (lw_o g13) rfl 4 (by decide) (hN.use (.fieldLinkNest "TurnedFloors$Judge" 76 "TurnedFloors$Text" "testTo" "[I" "TurnedFloors") nn9_8) (fun _ h9 => h9) rfl dX1_pay_61 ?_
      refine lv_iload_n hx hb dX1_pay_64 rfl (lv_at hl 1 rfl) ?_
      obtain ⟨g14, h⟩ := dG_some h
      obtain ⟨g15, h⟩ := dG_some h
      refine va_iald hx hb hK hP _ 0 (lw_a5 g14) rfl (dg_in g15) dX1_pay_65 ?_
      obtain ⟨v16, ev16, h⟩ := dL_some h
      refine kz_topi v16 ev16 ?_
      refine lv_aload_n hx hb dX1_pay_66 rfl (lv_at hl 0 rfl) ?_
      refine va_get (D := D) (ci := 1) (v := .ref (ad 21)) (C := RX1) (T := TX1) (N := 3) hx hb hts u9_wsX1_pay_X1 hown hK hP 20 rfl rfl 1 (by decide) (hts (.fieldLink RX1 11 "TurnedFloors$Judge" "words" "[I") f9_wsX1_pay_410) (fun _ h9 => h9) rfl dX1_pay_67 ?_
      obtain ⟨r17, q19, h18, h⟩ := dB_some h
      refine dw_ki (va_runV (As := [.ref (ad (63 + 7 * dLi (q.1 20 2))), .int v11, .int v16, .ref (ad 21)]) (rest := []) ⟨hx, hb, hml, hown, hts⟩ (qX2_valueOf_s18_l_s21 l D ty eo _ ad q (q.1 20 2) v11 v16 r17 q19 h18) (cwV 4 hts gX1_pay_X2_valueOf rfl rfl rfl hd_X2_valueOf_v ⟨Nat.le_of_ble_eq_true rfl, Nat.le_of_ble_eq_true rfl⟩) (pvF_2_18 hK hN hE hP hD hS hA) rfl rfl hl.1 rfl (lv_room (Nat.le_of_ble_eq_true rfl)) dX1_pay_70 ⟨Nat.le_of_ble_eq_true rfl, Nat.le_of_ble_eq_true rfl⟩) hD hS hA (fun r9 u9 H locs hw hp hd hs => ?_)
      clear hP hD hS
      obtain ⟨rfl, rfl⟩ := hw
      have hP := hp; have hD := hd; have hS := hs; clear hp hd hs
      refine lv_iconst (v := 1) hx hb dX1_pay_73 (by decide) ?_
      refine lv_icmp_ne (tgt := 132) hx hb dX1_pay_74 (by decide) (fun c9 => ?_) (fun c9 => ?_)
      · rw [if_neg c9] at h
        exact WX1_pay_s20_132 C0 hk24 _ _ _ _ _ h hP hD hS (lv_sub hl [0, 1] rfl)
      · rw [if_pos c9] at h
        refine lv_aload_n hx hb dX1_pay_77 rfl (lv_at hl 0 rfl) ?_
        refine va_get (D := D) (ci := 1) (v := .ref (ad 18)) (C := RX1) (T := TX1) (N := 3) hx hb hts u9_wsX1_pay_X1 hown hK hP 20 rfl rfl 0 (by decide) (hts (.fieldLink RX1 19 "TurnedFloors$Judge" "machine" "LTurnedFloors$Machine;") f9_wsX1_pay_412) (fun _ h9 => h9) rfl dX1_pay_78 ?_
        refine lv_aload_n hx hb dX1_pay_81 rfl (lv_at hl 0 rfl) ?_
        refine va_get (D := D) (ci := 1) (v := dLw ad (q19.1 20 2)) (C := RX1) (T := TX1) (N := 3) hx hb hts u9_wsX1_pay_X1 hown hK hP 20 rfl rfl 2 (by decide) (hts (.fieldLink RX1 15 "TurnedFloors$Judge" "law" "LTurnedFloors$Text;") f9_wsX1_pay_411) (fun _ h9 => h9) rfl dX1_pay_82 ?_
        obtain ⟨g20, h⟩ := dG_some h
        refine kz_topv (if_neg (dlg_ne g20)) ?_
        refine lv_aload_n hx hb dX1_pay_85 rfl (lv_at hl 0 rfl) ?_
        refine va_get (D := D) (ci := 1) (v := dLw ad (q19.1 20 2)) (C := RX1) (T := TX1) (N := 3) hx hb hts u9_wsX1_pay_X1 hown hK hP 20 rfl rfl 2 (by decide) (hts (.fieldLink RX1 15 "TurnedFloors$Judge" "law" "LTurnedFloors$Text;") f9_wsX1_pay_411) (fun _ h9 => h9) rfl dX1_pay_86 ?_
        obtain ⟨g21, h⟩ := dG_some h
        refine kz_topv (if_neg (dlg_ne g21)) ?_
        obtain ⟨g22, h⟩ := dG_some h
        refine va_getN (D := D) (ci := 7) (v := .ref (ad (63 + 7 * dLi (q19.1 20 2) + 3))) (C := RX7) (T := TX7) (N := 8) hx hb hts u9_wsX1_pay_X7 hown hK hP _ (lw_o g22) rfl 2 (by decide) (hN.use (.fieldLinkNest "TurnedFloors$Judge" 85 "TurnedFloors$Text" "sumFrom" "[I" "TurnedFloors") nn9_13) (fun _ h9 => h9) rfl dX1_pay_89 ?_
        refine lv_iload_n hx hb dX1_pay_92 rfl (lv_at hl 1 rfl) ?_
        obtain ⟨g23, h⟩ := dG_some h
        obtain ⟨g24, h⟩ := dG_some h
        refine va_iald hx hb hK hP _ 0 (lw_a3 g23) rfl (dg_in g24) dX1_pay_93 ?_
        obtain ⟨v25, ev25, h⟩ := dL_some h
        refine kz_topi v25 ev25 ?_
        refine lv_aload_n hx hb dX1_pay_94 rfl (lv_at hl 0 rfl) ?_
        refine va_get (D := D) (ci := 1) (v := dLw ad (q19.1 20 2)) (C := RX1) (T := TX1) (N := 3) hx hb hts u9_wsX1_pay_X1 hown hK hP 20 rfl rfl 2 (by decide) (hts (.fieldLink RX1 15 "TurnedFloors$Judge" "law" "LTurnedFloors$Text;") f9_wsX1_pay_411) (fun _ h9 => h9) rfl dX1_pay_95 ?_
        obtain ⟨g26, h⟩ := dG_some h
        refine kz_topv (if_neg (dlg_ne g26)) ?_
        obtain ⟨g27, h⟩ := dG_some h
        refine va_getN (D := D) (ci := 7) (v := .ref (ad (63 + 7 * dLi (q19.1 20 2) + 4))) (C := RX7) (T := TX7) (N := 8) hx hb hts u9_wsX1_pay_X7 hown hK hP _ (lw_o g27) rfl 3 (by decide) (hN.use (.fieldLinkNest "TurnedFloors$Judge" 73 "TurnedFloors$Text" "testFrom" "[I" "TurnedFloors") nn9_7) (fun _ h9 => h9) rfl dX1_pay_98 ?_
        refine lv_iload_n hx hb dX1_pay_101 rfl (lv_at hl 1 rfl) ?_
        obtain ⟨g28, h⟩ := dG_some h
        obtain ⟨g29, h⟩ := dG_some h
        refine va_iald hx hb hK hP _ 0 (lw_a4 g28) rfl (dg_in g29) dX1_pay_102 ?_
        obtain ⟨v30, ev30, h⟩ := dL_some h
        refine kz_topi v30 ev30 ?_
        refine lv_aload_n hx hb dX1_pay_103 rfl (lv_at hl 0 rfl) ?_
        refine va_get (D := D) (ci := 1) (v := .ref (ad 21)) (C := RX1) (T := TX1) (N := 3) hx hb hts u9_wsX1_pay_X1 hown hK hP 20 rfl rfl 1 (by decide) (hts (.fieldLink RX1 11 "TurnedFloors$Judge" "words" "[I") f9_wsX1_pay_410) (fun _ h9 => h9) rfl dX1_pay_104 ?_
        obtain ⟨r31, q33, h32, h⟩ := dB_some h
        refine dw_ki (va_runV (As := [.ref (ad (63 + 7 * dLi (q19.1 20 2))), .int v25, .int v30, .ref (ad 21)]) (rest := []) ⟨hx, hb, hml, hown, hts⟩ (qX2_valueOf_s18_l_s21 l D ty eo _ ad q19 (q19.1 20 2) v25 v30 r31 q33 h32) (cwV 4 hts gX1_pay_X2_valueOf rfl rfl rfl hd_X2_valueOf_v ⟨Nat.le_of_ble_eq_true rfl, Nat.le_of_ble_eq_true rfl⟩) (pvF_2_18 hK hN hE hP hD hS hA) rfl rfl hl.1 rfl (lv_room (Nat.le_of_ble_eq_true rfl)) dX1_pay_107 ⟨Nat.le_of_ble_eq_true rfl, Nat.le_of_ble_eq_true rfl⟩) hD hS hA (fun r9 u9 H locs hw hp hd hs => ?_)
        clear hP hD hS
        obtain ⟨rfl, rfl⟩ := hw
        have hP := hp; have hD := hd; have hS := hs; clear hp hd hs
        refine lv_istore_n (lv' := [(2, .int r31), (0, .ref (ad 20)), (1, .int x1)]) hx hb dX1_pay_110 rfl hl (by decide) rfl (fun ls hl => ?_)
        refine lv_aload_n hx hb dX1_pay_111 rfl (lv_at hl 1 rfl) ?_
        refine va_get (D := D) (ci := 1) (v := .ref (ad 18)) (C := RX1) (T := TX1) (N := 3) hx hb hts u9_wsX1_pay_X1 hown hK hP 20 rfl rfl 0 (by decide) (hts (.fieldLink RX1 19 "TurnedFloors$Judge" "machine" "LTurnedFloors$Machine;") f9_wsX1_pay_412) (fun _ h9 => h9) rfl dX1_pay_112 ?_
        refine va_getN (D := D) (ci := 2) (v := .int (q33.1 18 1)) (C := RX2) (T := TX2) (N := 2) hx hb hts u9_wsX1_pay_X2 hown hK hP 18 rfl rfl 1 (by decide) (hN.use (.fieldLinkNest "TurnedFloors$Judge" 88 "TurnedFloors$Machine" "broken" "Z" "TurnedFloors") nn9_14) (fun _ h9 => h9) rfl dX1_pay_115 ?_
        refine lv_if_ne (tgt := 132) hx hb dX1_pay_118 (by decide) (fun c9 => ?_) (fun c9 => ?_)
        · rw [if_neg c9] at h
          exact WX1_pay_s20_132 C0 hk24 _ _ _ _ _ h hP hD hS (lv_sub hl [1, 2] rfl)
        · rw [if_pos c9] at h
          refine lv_iconst (v := 0) hx hb dX1_pay_121 (by decide) ?_
          refine lv_bipush (v := 99) hx hb dX1_pay_122 (by decide) ?_
          refine lv_iload_n hx hb dX1_pay_124 rfl (lv_at hl 0 rfl) ?_
          refine va_mmin hx hb (hml.trans hl.1.symm) hown (hts (.methodLink RX1 92 Lib.Math.min.name) f9_wsX1_pay_413) (hts (.static Lib.Math.min.name) f9_wsX1_pay_414) (hts (.initialized "java/lang/Math") f9_wsX1_pay_415) (hts (.code Lib.Math.min.name Lib.Math.min.code 2 (some .int)) f9_wsX1_pay_416) (Nat.le_of_ble_eq_true rfl) (Nat.le_of_ble_eq_true rfl) (Nat.le_of_ble_eq_true rfl) (Nat.le_of_ble_eq_true rfl) dX1_pay_125 ?_
          refine kz_topi (mnI 99 r31) rfl ?_
          refine va_mmax hx hb (hml.trans hl.1.symm) hown (hts (.methodLink RX1 97 Lib.Math.max.name) f9_wsX1_pay_417) (hts (.static Lib.Math.max.name) f9_wsX1_pay_418) (hts (.initialized "java/lang/Math") f9_wsX1_pay_415) (hts (.code Lib.Math.max.name Lib.Math.max.code 2 (some .int)) f9_wsX1_pay_419) (Nat.le_of_ble_eq_true rfl) (Nat.le_of_ble_eq_true rfl) (Nat.le_of_ble_eq_true rfl) (Nat.le_of_ble_eq_true rfl) dX1_pay_128 ?_
          refine kz_topi (mxI 0 (mnI 99 r31)) rfl ?_
          cases h
          exact kz_iret hx hb hr hlocks hP hK hD hS dX1_pay_131 ⟨rfl, rfl⟩
set_option maxHeartbeats 4000000 in
set_option maxRecDepth 100000 in
theorem WX1_pay_s20_24 {p : Program} {l : Launch} {e : Env} {s : State} {m : MethodId} {args : Array Value} {below : List Frame} {meth : Method} {c : Code} {D : va_G} {ty : Nat → ClassId} {eo : Nat → Nat} {A : Nat → Prop} {ad : Nat → Nat} {o1 : Int32} {o2 : dK} (C : dc_C p s m args meth c cX1_pay (some .int) 3 RX1 wsX1_pay D ty eo A)   (n : Nat) (q : dK) (x1 : Int32) (H : Heap) (locs : List Loc) (ls : Array Slot) (h : zX1_pay_s20_24  n q x1 = some (o1, o2)) (hP : va_P D vwCl (wF ty ad q) H) (hD : va_D A (wF ty ad q)) (hS : va_S A s.heap H locs) (hl : lv_has ls 3 [(0, .ref (ad 20)), (1, .int x1)]) : W p l e ({ frames := 2, cells := 0, slots := 0, locals := 59 } : Room) s m args below meth c H locs 0 0 (MQ below (va_Qi (fun (r : Int32) (u : va_W) => o1 = r ∧ wF ty ad o2 = u) (kz_B D ty A) A) args s 0 0 A) (F0 m 24 ls []) := by
  exact dFix_W (F := fun k (a : dK × Int32) => zX1_pay_s20_24b  (fun q x1 => k (q, x1)) a.1 a.2) (o := (o1, o2)) (P := fun (a : dK × Int32) H locs ls => va_P D vwCl (wF ty ad a.1) H ∧ va_D A (wF ty ad a.1) ∧ va_S A s.heap H locs ∧ lv_has ls 3 [(0, .ref (ad 20)), (1, .int a.2)]) (G := fun H locs ls => W p l e ({ frames := 2, cells := 0, slots := 0, locals := 59 } : Room) s m args below meth c H locs 0 0 (MQ below (va_Qi (fun (r : Int32) (u : va_W) => o1 = r ∧ wF ty ad o2 = u) (kz_B D ty A) A) args s 0 0 A) (F0 m 24 ls []))
    (fun k hk a H locs ls h hp => WX1_pay_s20_24b C  (fun q x1 H locs ls h h1 h2 h3 h4 => hk (q, x1) H locs ls h ⟨h1, h2, h3, h4⟩) a.1 a.2 H locs ls h hp.1 hp.2.1 hp.2.2.1 hp.2.2.2) n (q, x1) H locs ls h ⟨hP, hD, hS, hl⟩
set_option maxHeartbeats 4000000 in
set_option maxRecDepth 100000 in
theorem qX1_pay_s20 (l : Launch) (D : va_G) (ty : Nat → ClassId) (eo : Nat → Nat) (sz : Nat) (ad : Nat → Nat) (q : dK)  (o1 : Int32) (o2 : dK) (h : zX1_pay_s20 q = some (o1, o2)) : Met l yX1_pay wsX1_pay ({ frames := 2, cells := 0, slots := 0, locals := 59 } : Room) (va_Pc [.ref (ad 20)] (kz_pre D ty eo (wF ty ad q) sz)) (va_Qi (fun (r : Int32) (u : va_W) => o1 = r ∧ wF ty ad o2 = u) (kz_B D ty (va_A (wF ty ad q) sz)) (va_A (wF ty ad q) sz)) 0 0 (va_A (wF ty ad q) sz) := by
  refine Met.ofW (cc := cX1_pay) (maxL := 3) (ret := (some .int)) (by decide) rfl ?_
  intro p e s m args below meth c s₁ B hml hv
  obtain ⟨rfl, hsz, hP, hK, hD0, hN, hE⟩ := hv
  have hx := B.exec
  have hb := B.bytes
  have hr := B.returns
  have hts := atoms_spec (ws := wsX1_pay) B.pre
  have hown : s.vm.findClass RX1 = some m.cls := findClass_of_methodNamed B.named
  have hlocks := B.notSynchronized
  subst hsz
  have hD := hD0.self (sz := s.heap.size)
  generalize hAe : va_A (wF ty ad q) s.heap.size = A at hD hE ⊢
  have hA : ∀ q : Nat, s.heap.size ≤ q → A q := fun q h => by rw [← hAe]; exact Or.inr h
  clear hAe
  have hS : va_S A s.heap s.heap [] := va_S.rf
  have hl := lv_entry ([.ref (ad 20)]) (n := 3) (Nat.le_of_ble_eq_true rfl)
  rw [lg_entry_eq]
  generalize (lg_sl ([.ref (ad 20)]) ++ List.replicate (3 - (lg_sl ([.ref (ad 20)])).length) Slot.unset).toArray = ls at hl ⊢
  have hl : lv_has ls 3 [(0, .ref (ad 20))] := hl
  have C : dc_C p s m _ meth c cX1_pay (some .int) 3 RX1 wsX1_pay D ty eo A := ⟨hx, hb, hr, hts, hown, hlocks, hml, hK, hN, hE, hA⟩
  unfold zX1_pay_s20 at h
  refine lv_aload_n hx hb dX1_pay_0 rfl (lv_at hl 0 rfl) ?_
  refine va_get (D := D) (ci := 1) (v := dLw ad (q.1 20 2)) (C := RX1) (T := TX1) (N := 3) hx hb hts u9_wsX1_pay_X1 hown hK hP 20 rfl rfl 2 (by decide) (hts (.fieldLink RX1 15 "TurnedFloors$Judge" "law" "LTurnedFloors$Text;") f9_wsX1_pay_411) (fun _ h9 => h9) rfl dX1_pay_1 ?_
  by_cases c1 : (q.1 20 2) = 0
  · rw [if_pos c1] at h
    refine kz_topv (if_pos c1) ?_
    refine lv_ifnonnullN hx hb dX1_pay_4 ?_
    refine lv_aload_n hx hb dX1_pay_7 rfl (lv_at hl 0 rfl) ?_
    refine va_get (D := D) (ci := 1) (v := .ref (ad 21)) (C := RX1) (T := TX1) (N := 3) hx hb hts u9_wsX1_pay_X1 hown hK hP 20 rfl rfl 1 (by decide) (hts (.fieldLink RX1 11 "TurnedFloors$Judge" "words" "[I") f9_wsX1_pay_410) (fun _ h9 => h9) rfl dX1_pay_8 ?_
    refine lv_iconst (v := 0) hx hb dX1_pay_11 (by decide) ?_
    refine va_iald hx hb hK hP 21 0 rfl rfl (by simp only [vp_in]; decide) dX1_pay_12 ?_
    refine kz_topi (q.1 21 0) (congrArg (q.1 21) (by decide +kernel : Int32.toNatClampNeg 0 = 0)) ?_
    cases h
    exact kz_iret hx hb hr hlocks hP hK hD hS dX1_pay_13 ⟨rfl, rfl⟩
  · rw [if_neg c1] at h
    refine kz_topv (if_neg c1) ?_
    refine lv_ifnonnull (tgt := 14) hx hb dX1_pay_4 (by decide) ?_
    refine lv_aload_n hx hb dX1_pay_14 rfl (lv_at hl 0 rfl) ?_
    refine va_get (D := D) (ci := 1) (v := dLw ad (q.1 20 2)) (C := RX1) (T := TX1) (N := 3) hx hb hts u9_wsX1_pay_X1 hown hK hP 20 rfl rfl 2 (by decide) (hts (.fieldLink RX1 15 "TurnedFloors$Judge" "law" "LTurnedFloors$Text;") f9_wsX1_pay_411) (fun _ h9 => h9) rfl dX1_pay_15 ?_
    obtain ⟨g2, h⟩ := dG_some h
    refine kz_topv (if_neg (dlg_ne g2)) ?_
    obtain ⟨g3, h⟩ := dG_some h
    refine va_getN (D := D) (ci := 7) (v := .int ((dTx q (q.1 20 2)).1)) (C := RX7) (T := TX7) (N := 8) hx hb hts u9_wsX1_pay_X7 hown hK hP _ (lw_o g3) rfl 6 (by decide) (hN.use (.fieldLinkNest "TurnedFloors$Judge" 65 "TurnedFloors$Text" "clauses" "I" "TurnedFloors") nn9_5) (fun _ h9 => h9) rfl dX1_pay_18 ?_
    refine lv_iconst (v := 1) hx hb dX1_pay_21 (by decide) ?_
    refine lv_isub hx hb dX1_pay_22 ?_
    refine lv_istore_n (lv' := [(1, .int (((dTx q (q.1 20 2)).1) - 1 : Int32)), (0, .ref (ad 20))]) hx hb dX1_pay_23 rfl hl (by decide) rfl (fun ls hl => ?_)
    exact WX1_pay_s20_24 C  _ _ _ _ _ _ h hP hD hS (lv_sub hl [1, 0] rfl)

set_option maxHeartbeats 4000000 in
set_option maxRecDepth 100000 in
theorem qX1_payOf_s20_s2 (l : Launch) (D : va_G) (ty : Nat → ClassId) (eo : Nat → Nat) (sz : Nat) (ad : Nat → Nat) (q : dK) (p2 : Int32) (o1 : Int32) (o2 : dK) (h : zX1_payOf_s20_s2 q p2 = some (o1, o2)) : Met l yX1_payOf wsX1_payOf ({ frames := 3, cells := 0, slots := 0, locals := 81 } : Room) (va_Pc [.ref (ad 20), .ref (ad 2), .int p2] (kz_pre D ty eo (wF ty ad q) sz)) (va_Qi (fun (r : Int32) (u : va_W) => o1 = r ∧ wF ty ad o2 = u) (kz_B D ty (va_A (wF ty ad q) sz)) (va_A (wF ty ad q) sz)) 0 0 (va_A (wF ty ad q) sz) := by
  refine Met.ofW (cc := cX1_payOf) (maxL := 3) (ret := (some .int)) (by decide) rfl ?_
  intro p e s m args below meth c s₁ B hml hv
  obtain ⟨rfl, hsz, hP, hK, hD0, hN, hE⟩ := hv
  have hx := B.exec
  have hb := B.bytes
  have hr := B.returns
  have hts := atoms_spec (ws := wsX1_payOf) B.pre
  have hown : s.vm.findClass RX1 = some m.cls := findClass_of_methodNamed B.named
  have hlocks := B.notSynchronized
  subst hsz
  have hD := hD0.self (sz := s.heap.size)
  generalize hAe : va_A (wF ty ad q) s.heap.size = A at hD hE ⊢
  have hA : ∀ q : Nat, s.heap.size ≤ q → A q := fun q h => by rw [← hAe]; exact Or.inr h
  clear hAe
  have hS : va_S A s.heap s.heap [] := va_S.rf
  have hl := lv_entry ([.ref (ad 20), .ref (ad 2), .int p2]) (n := 3) (Nat.le_of_ble_eq_true rfl)
  rw [lg_entry_eq]
  generalize (lg_sl ([.ref (ad 20), .ref (ad 2), .int p2]) ++ List.replicate (3 - (lg_sl ([.ref (ad 20), .ref (ad 2), .int p2])).length) Slot.unset).toArray = ls at hl ⊢
  have hl : lv_has ls 3 [(0, .ref (ad 20)), (1, .ref (ad 2)), (2, .int p2)] := hl
  have C : dc_C p s m _ meth c cX1_payOf (some .int) 3 RX1 wsX1_payOf D ty eo A := ⟨hx, hb, hr, hts, hown, hlocks, hml, hK, hN, hE, hA⟩
  unfold zX1_payOf_s20_s2 at h
  refine lv_aload_n hx hb dX1_payOf_0 rfl (lv_at hl 0 rfl) ?_
  refine lv_aload_n hx hb dX1_payOf_1 rfl (lv_at hl 1 rfl) ?_
  refine lv_iload_n hx hb dX1_payOf_2 rfl (lv_at hl 2 rfl) ?_
  obtain ⟨q3, h2, h⟩ := dV_some h
  refine dw_kv (va_runV (As := [.ref (ad 2), .int p2]) (rest := []) ⟨hx, hb, hml, hown, hts⟩ (qX1_setTurn_s20_s2 l D ty eo _ ad q p2 q3 h2) (cwV 2 hts gX1_payOf_X1_setTurn rfl rfl rfl hd_X1_setTurn_v ⟨Nat.le_of_ble_eq_true rfl, Nat.le_of_ble_eq_true rfl⟩) (pvF_1_20 hK hN hE hP hD hS hA) rfl rfl hl.1 rfl (lv_room (Nat.le_of_ble_eq_true rfl)) dX1_payOf_3 ⟨Nat.le_of_ble_eq_true rfl, Nat.le_of_ble_eq_true rfl⟩) hD hS hA (fun u9 H locs hw hp hd hs => ?_)
  clear hP hD hS
  obtain rfl := hw
  have hP := hp; have hD := hd; have hS := hs; clear hp hd hs
  refine lv_aload_n hx hb dX1_payOf_6 rfl (lv_at hl 0 rfl) ?_
  obtain ⟨r4, q6, h5, h⟩ := dB_some h
  refine dw_ki (va_runV (As := []) (rest := []) ⟨hx, hb, hml, hown, hts⟩ (qX1_pay_s20 l D ty eo _ ad q3  r4 q6 h5) (cwV 0 hts gX1_payOf_X1_pay rfl rfl rfl hd_X1_pay_v ⟨Nat.le_of_ble_eq_true rfl, Nat.le_of_ble_eq_true rfl⟩) (pvF_1_20 hK hN hE hP hD hS hA) rfl rfl hl.1 rfl (lv_room (Nat.le_of_ble_eq_true rfl)) dX1_payOf_7 ⟨Nat.le_of_ble_eq_true rfl, Nat.le_of_ble_eq_true rfl⟩) hD hS hA (fun r9 u9 H locs hw hp hd hs => ?_)
  clear hP hD hS
  obtain ⟨rfl, rfl⟩ := hw
  have hP := hp; have hD := hd; have hS := hs; clear hp hd hs
  cases h
  exact kz_iret hx hb hr hlocks hP hK hD hS dX1_payOf_10 ⟨rfl, rfl⟩
end
section
theorem da9_dX6_term_0 : (decode cX6_term 0 = .ok (.iload_n 1, 1)) ∧ (decode cX6_term 1 = .ok (.tableswitch 54 0 3 #[31, 39, 44, 49], 31)) ∧ (decode cX6_term 32 = .ok (.aload_n 0, 1)) ∧ (decode cX6_term 33 = .ok (.getfield 12, 3)) ∧ (decode cX6_term 36 = .ok (.getfield 58, 3)) ∧ (decode cX6_term 39 = .ok (.ireturn, 1)) ∧ (decode cX6_term 40 = .ok (.aload_n 0, 1)) ∧ (decode cX6_term 41 = .ok (.getfield 18, 3)) ∧ (decode cX6_term 44 = .ok (.ireturn, 1)) ∧ (decode cX6_term 45 = .ok (.aload_n 0, 1)) ∧ (decode cX6_term 46 = .ok (.getfield 22, 3)) ∧ (decode cX6_term 49 = .ok (.ireturn, 1)) ∧ (decode cX6_term 50 = .ok (.aload_n 0, 1)) ∧ (decode cX6_term 51 = .ok (.getfield 25, 3)) ∧ (decode cX6_term 54 = .ok (.ireturn, 1)) ∧ (decode cX6_term 55 = .ok (.iconst (-1), 1)) := by decide +kernel
theorem dX6_term_0 : decode cX6_term 0 = .ok (.iload_n 1, 1) := da9_dX6_term_0.1
theorem dX6_term_1 : decode cX6_term 1 = .ok (.tableswitch 54 0 3 #[31, 39, 44, 49], 31) := da9_dX6_term_0.2.1
theorem dX6_term_32 : decode cX6_term 32 = .ok (.aload_n 0, 1) := da9_dX6_term_0.2.2.1
theorem dX6_term_33 : decode cX6_term 33 = .ok (.getfield 12, 3) := da9_dX6_term_0.2.2.2.1
theorem dX6_term_36 : decode cX6_term 36 = .ok (.getfield 58, 3) := da9_dX6_term_0.2.2.2.2.1
theorem dX6_term_39 : decode cX6_term 39 = .ok (.ireturn, 1) := da9_dX6_term_0.2.2.2.2.2.1
theorem dX6_term_40 : decode cX6_term 40 = .ok (.aload_n 0, 1) := da9_dX6_term_0.2.2.2.2.2.2.1
theorem dX6_term_41 : decode cX6_term 41 = .ok (.getfield 18, 3) := da9_dX6_term_0.2.2.2.2.2.2.2.1
theorem dX6_term_44 : decode cX6_term 44 = .ok (.ireturn, 1) := da9_dX6_term_0.2.2.2.2.2.2.2.2.1
theorem dX6_term_45 : decode cX6_term 45 = .ok (.aload_n 0, 1) := da9_dX6_term_0.2.2.2.2.2.2.2.2.2.1
theorem dX6_term_46 : decode cX6_term 46 = .ok (.getfield 22, 3) := da9_dX6_term_0.2.2.2.2.2.2.2.2.2.2.1
theorem dX6_term_49 : decode cX6_term 49 = .ok (.ireturn, 1) := da9_dX6_term_0.2.2.2.2.2.2.2.2.2.2.2.1
theorem dX6_term_50 : decode cX6_term 50 = .ok (.aload_n 0, 1) := da9_dX6_term_0.2.2.2.2.2.2.2.2.2.2.2.2.1
theorem dX6_term_51 : decode cX6_term 51 = .ok (.getfield 25, 3) := da9_dX6_term_0.2.2.2.2.2.2.2.2.2.2.2.2.2.1
theorem dX6_term_54 : decode cX6_term 54 = .ok (.ireturn, 1) := da9_dX6_term_0.2.2.2.2.2.2.2.2.2.2.2.2.2.2.1
theorem dX6_term_55 : decode cX6_term 55 = .ok (.iconst (-1), 1) := da9_dX6_term_0.2.2.2.2.2.2.2.2.2.2.2.2.2.2.2
theorem dX6_term_56 : decode cX6_term 56 = .ok (.ireturn, 1) := by decide +kernel
theorem da9_dX6_setTerm_0 : (decode cX6_setTerm 0 = .ok (.iload_n 1, 1)) ∧ (decode cX6_setTerm 1 = .ok (.tableswitch 66 0 3 #[31, 42, 50, 58], 31)) ∧ (decode cX6_setTerm 32 = .ok (.aload_n 0, 1)) ∧ (decode cX6_setTerm 33 = .ok (.getfield 12, 3)) ∧ (decode cX6_setTerm 36 = .ok (.iload_n 2, 1)) ∧ (decode cX6_setTerm 37 = .ok (.putfield 58, 3)) ∧ (decode cX6_setTerm 40 = .ok (.goto 27, 3)) ∧ (decode cX6_setTerm 43 = .ok (.aload_n 0, 1)) ∧ (decode cX6_setTerm 44 = .ok (.iload_n 2, 1)) ∧ (decode cX6_setTerm 45 = .ok (.putfield 18, 3)) ∧ (decode cX6_setTerm 48 = .ok (.goto 19, 3)) ∧ (decode cX6_setTerm 51 = .ok (.aload_n 0, 1)) ∧ (decode cX6_setTerm 52 = .ok (.iload_n 2, 1)) ∧ (decode cX6_setTerm 53 = .ok (.putfield 22, 3)) ∧ (decode cX6_setTerm 56 = .ok (.goto 11, 3)) ∧ (decode cX6_setTerm 59 = .ok (.aload_n 0, 1)) := by decide +kernel
theorem dX6_setTerm_0 : decode cX6_setTerm 0 = .ok (.iload_n 1, 1) := da9_dX6_setTerm_0.1
theorem dX6_setTerm_1 : decode cX6_setTerm 1 = .ok (.tableswitch 66 0 3 #[31, 42, 50, 58], 31) := da9_dX6_setTerm_0.2.1
theorem dX6_setTerm_32 : decode cX6_setTerm 32 = .ok (.aload_n 0, 1) := da9_dX6_setTerm_0.2.2.1
theorem dX6_setTerm_33 : decode cX6_setTerm 33 = .ok (.getfield 12, 3) := da9_dX6_setTerm_0.2.2.2.1
theorem dX6_setTerm_36 : decode cX6_setTerm 36 = .ok (.iload_n 2, 1) := da9_dX6_setTerm_0.2.2.2.2.1
theorem dX6_setTerm_37 : decode cX6_setTerm 37 = .ok (.putfield 58, 3) := da9_dX6_setTerm_0.2.2.2.2.2.1
theorem dX6_setTerm_40 : decode cX6_setTerm 40 = .ok (.goto 27, 3) := da9_dX6_setTerm_0.2.2.2.2.2.2.1
theorem dX6_setTerm_43 : decode cX6_setTerm 43 = .ok (.aload_n 0, 1) := da9_dX6_setTerm_0.2.2.2.2.2.2.2.1
theorem dX6_setTerm_44 : decode cX6_setTerm 44 = .ok (.iload_n 2, 1) := da9_dX6_setTerm_0.2.2.2.2.2.2.2.2.1
theorem dX6_setTerm_45 : decode cX6_setTerm 45 = .ok (.putfield 18, 3) := da9_dX6_setTerm_0.2.2.2.2.2.2.2.2.2.1
theorem dX6_setTerm_48 : decode cX6_setTerm 48 = .ok (.goto 19, 3) := da9_dX6_setTerm_0.2.2.2.2.2.2.2.2.2.2.1
theorem dX6_setTerm_51 : decode cX6_setTerm 51 = .ok (.aload_n 0, 1) := da9_dX6_setTerm_0.2.2.2.2.2.2.2.2.2.2.2.1
theorem dX6_setTerm_52 : decode cX6_setTerm 52 = .ok (.iload_n 2, 1) := da9_dX6_setTerm_0.2.2.2.2.2.2.2.2.2.2.2.2.1
theorem dX6_setTerm_53 : decode cX6_setTerm 53 = .ok (.putfield 22, 3) := da9_dX6_setTerm_0.2.2.2.2.2.2.2.2.2.2.2.2.2.1
theorem dX6_setTerm_56 : decode cX6_setTerm 56 = .ok (.goto 11, 3) := da9_dX6_setTerm_0.2.2.2.2.2.2.2.2.2.2.2.2.2.2.1
theorem dX6_setTerm_59 : decode cX6_setTerm 59 = .ok (.aload_n 0, 1) := da9_dX6_setTerm_0.2.2.2.2.2.2.2.2.2.2.2.2.2.2.2
theorem da9_dX6_setTerm_60 : (decode cX6_setTerm 60 = .ok (.iload_n 2, 1)) ∧ (decode cX6_setTerm 61 = .ok (.putfield 25, 3)) ∧ (decode cX6_setTerm 64 = .ok (.goto 3, 3)) ∧ (decode cX6_setTerm 67 = .ok (.return_, 1)) := by decide +kernel
theorem dX6_setTerm_60 : decode cX6_setTerm 60 = .ok (.iload_n 2, 1) := da9_dX6_setTerm_60.1
theorem dX6_setTerm_61 : decode cX6_setTerm 61 = .ok (.putfield 25, 3) := da9_dX6_setTerm_60.2.1
theorem dX6_setTerm_64 : decode cX6_setTerm 64 = .ok (.goto 3, 3) := da9_dX6_setTerm_60.2.2.1
theorem dX6_setTerm_67 : decode cX6_setTerm 67 = .ok (.return_, 1) := da9_dX6_setTerm_60.2.2.2
set_option maxRecDepth 20000 in
theorem ggX9_asks_X9_seated : GoodIn wsX9_asks wsX9_seated := wd_c vW9_ok mvW9_44
set_option maxRecDepth 20000 in
theorem gX9_asks_X9_seated : GoodIn wsX9_asks (wsV RX9 144 RX9 yX9_seated wsX9_seated) := goodIn_app (wd_l vW9_ok _ pvW9_97) ggX9_asks_X9_seated
set_option maxRecDepth 20000 in
theorem ggX9_asks_X1_payOf : GoodIn wsX9_asks wsX1_payOf := wd_c vW9_ok mvW9_106
set_option maxRecDepth 20000 in
theorem gX9_asks_X1_payOf : GoodIn wsX9_asks (wsV RX9 160 RX1 yX1_payOf wsX1_payOf) := goodIn_app (wd_l vW9_ok _ pvW9_101) ggX9_asks_X1_payOf
set_option maxRecDepth 20000 in
theorem ggX9_asks_X1_bars : GoodIn wsX9_asks wsX1_bars := wd_c vW9_ok mvW9_127
set_option maxRecDepth 20000 in
theorem gX9_asks_X1_bars : GoodIn wsX9_asks (wsV RX9 164 RX1 yX1_bars wsX1_bars) := goodIn_app (wd_l vW9_ok _ pvW9_102) ggX9_asks_X1_bars
set_option maxRecDepth 20000 in
theorem ggX9_asks_X9_bit : GoodIn wsX9_asks wsX9_bit := wd_c vW9_ok mvW9_97
set_option maxRecDepth 20000 in
theorem gX9_asks_X9_bit : GoodIn wsX9_asks (va_wsS RX9 152 yX9_bit wsX9_bit) := goodIn_app (wd_l vW9_ok _ pvW9_99) ggX9_asks_X9_bit
theorem da9_dX9_asks_0 : (decode cX9_asks 0 = .ok (.iload_n 1, 1)) ∧ (decode cX9_asks 1 = .ok (.iconst 1, 1)) ∧ (decode cX9_asks 2 = .ok (.if_icmp .lt 17, 3)) ∧ (decode cX9_asks 5 = .ok (.iload_n 1, 1)) ∧ (decode cX9_asks 6 = .ok (.aload_n 0, 1)) ∧ (decode cX9_asks 7 = .ok (.getfield 10, 3)) ∧ (decode cX9_asks 10 = .ok (.getfield 122, 3)) ∧ (decode cX9_asks 13 = .ok (.getfield 135, 3)) ∧ (decode cX9_asks 16 = .ok (.if_icmp .le 5, 3)) ∧ (decode cX9_asks 19 = .ok (.iconst (-1), 1)) ∧ (decode cX9_asks 20 = .ok (.ireturn, 1)) ∧ (decode cX9_asks 21 = .ok (.iload_n 2, 1)) ∧ (decode cX9_asks 22 = .ok (.ifCond .ne 19, 3)) ∧ (decode cX9_asks 25 = .ok (.aload_n 0, 1)) ∧ (decode cX9_asks 26 = .ok (.invokevirtual 144, 3)) ∧ (decode cX9_asks 29 = .ok (.aload_n 0, 1)) := by decide +kernel
theorem dX9_asks_0 : decode cX9_asks 0 = .ok (.iload_n 1, 1) := da9_dX9_asks_0.1
theorem dX9_asks_1 : decode cX9_asks 1 = .ok (.iconst 1, 1) := da9_dX9_asks_0.2.1
theorem dX9_asks_2 : decode cX9_asks 2 = .ok (.if_icmp .lt 17, 3) := da9_dX9_asks_0.2.2.1
theorem dX9_asks_5 : decode cX9_asks 5 = .ok (.iload_n 1, 1) := da9_dX9_asks_0.2.2.2.1
theorem dX9_asks_6 : decode cX9_asks 6 = .ok (.aload_n 0, 1) := da9_dX9_asks_0.2.2.2.2.1
theorem dX9_asks_7 : decode cX9_asks 7 = .ok (.getfield 10, 3) := da9_dX9_asks_0.2.2.2.2.2.1
theorem dX9_asks_10 : decode cX9_asks 10 = .ok (.getfield 122, 3) := da9_dX9_asks_0.2.2.2.2.2.2.1
theorem dX9_asks_13 : decode cX9_asks 13 = .ok (.getfield 135, 3) := da9_dX9_asks_0.2.2.2.2.2.2.2.1
theorem dX9_asks_16 : decode cX9_asks 16 = .ok (.if_icmp .le 5, 3) := da9_dX9_asks_0.2.2.2.2.2.2.2.2.1
theorem dX9_asks_19 : decode cX9_asks 19 = .ok (.iconst (-1), 1) := da9_dX9_asks_0.2.2.2.2.2.2.2.2.2.1
theorem dX9_asks_20 : decode cX9_asks 20 = .ok (.ireturn, 1) := da9_dX9_asks_0.2.2.2.2.2.2.2.2.2.2.1
theorem dX9_asks_21 : decode cX9_asks 21 = .ok (.iload_n 2, 1) := da9_dX9_asks_0.2.2.2.2.2.2.2.2.2.2.2.1
theorem dX9_asks_22 : decode cX9_asks 22 = .ok (.ifCond .ne 19, 3) := da9_dX9_asks_0.2.2.2.2.2.2.2.2.2.2.2.2.1
theorem dX9_asks_25 : decode cX9_asks 25 = .ok (.aload_n 0, 1) := da9_dX9_asks_0.2.2.2.2.2.2.2.2.2.2.2.2.2.1
theorem dX9_asks_26 : decode cX9_asks 26 = .ok (.invokevirtual 144, 3) := da9_dX9_asks_0.2.2.2.2.2.2.2.2.2.2.2.2.2.2.1
theorem dX9_asks_29 : decode cX9_asks 29 = .ok (.aload_n 0, 1) := da9_dX9_asks_0.2.2.2.2.2.2.2.2.2.2.2.2.2.2.2
theorem da9_dX9_asks_30 : (decode cX9_asks 30 = .ok (.getfield 10, 3)) ∧ (decode cX9_asks 33 = .ok (.getfield 122, 3)) ∧ (decode cX9_asks 36 = .ok (.iload_n 1, 1)) ∧ (decode cX9_asks 37 = .ok (.invokevirtual 160, 3)) ∧ (decode cX9_asks 40 = .ok (.ireturn, 1)) ∧ (decode cX9_asks 41 = .ok (.iload_n 2, 1)) ∧ (decode cX9_asks 42 = .ok (.iconst 1, 1)) ∧ (decode cX9_asks 43 = .ok (.if_icmp .ne 24, 3)) ∧ (decode cX9_asks 46 = .ok (.aload_n 0, 1)) ∧ (decode cX9_asks 47 = .ok (.invokevirtual 144, 3)) ∧ (decode cX9_asks 50 = .ok (.aload_n 0, 1)) ∧ (decode cX9_asks 51 = .ok (.getfield 10, 3)) ∧ (decode cX9_asks 54 = .ok (.getfield 122, 3)) ∧ (decode cX9_asks 57 = .ok (.iload_n 1, 1)) ∧ (decode cX9_asks 58 = .ok (.invokevirtual 164, 3)) ∧ (decode cX9_asks 61 = .ok (.invokestatic 152, 3)) := by decide +kernel
theorem dX9_asks_30 : decode cX9_asks 30 = .ok (.getfield 10, 3) := da9_dX9_asks_30.1
theorem dX9_asks_33 : decode cX9_asks 33 = .ok (.getfield 122, 3) := da9_dX9_asks_30.2.1
theorem dX9_asks_36 : decode cX9_asks 36 = .ok (.iload_n 1, 1) := da9_dX9_asks_30.2.2.1
theorem dX9_asks_37 : decode cX9_asks 37 = .ok (.invokevirtual 160, 3) := da9_dX9_asks_30.2.2.2.1
theorem dX9_asks_40 : decode cX9_asks 40 = .ok (.ireturn, 1) := da9_dX9_asks_30.2.2.2.2.1
theorem dX9_asks_41 : decode cX9_asks 41 = .ok (.iload_n 2, 1) := da9_dX9_asks_30.2.2.2.2.2.1
theorem dX9_asks_42 : decode cX9_asks 42 = .ok (.iconst 1, 1) := da9_dX9_asks_30.2.2.2.2.2.2.1
theorem dX9_asks_43 : decode cX9_asks 43 = .ok (.if_icmp .ne 24, 3) := da9_dX9_asks_30.2.2.2.2.2.2.2.1
theorem dX9_asks_46 : decode cX9_asks 46 = .ok (.aload_n 0, 1) := da9_dX9_asks_30.2.2.2.2.2.2.2.2.1
theorem dX9_asks_47 : decode cX9_asks 47 = .ok (.invokevirtual 144, 3) := da9_dX9_asks_30.2.2.2.2.2.2.2.2.2.1
theorem dX9_asks_50 : decode cX9_asks 50 = .ok (.aload_n 0, 1) := da9_dX9_asks_30.2.2.2.2.2.2.2.2.2.2.1
theorem dX9_asks_51 : decode cX9_asks 51 = .ok (.getfield 10, 3) := da9_dX9_asks_30.2.2.2.2.2.2.2.2.2.2.2.1
theorem dX9_asks_54 : decode cX9_asks 54 = .ok (.getfield 122, 3) := da9_dX9_asks_30.2.2.2.2.2.2.2.2.2.2.2.2.1
theorem dX9_asks_57 : decode cX9_asks 57 = .ok (.iload_n 1, 1) := da9_dX9_asks_30.2.2.2.2.2.2.2.2.2.2.2.2.2.1
theorem dX9_asks_58 : decode cX9_asks 58 = .ok (.invokevirtual 164, 3) := da9_dX9_asks_30.2.2.2.2.2.2.2.2.2.2.2.2.2.2.1
theorem dX9_asks_61 : decode cX9_asks 61 = .ok (.invokestatic 152, 3) := da9_dX9_asks_30.2.2.2.2.2.2.2.2.2.2.2.2.2.2.2
theorem da9_dX9_asks_64 : (decode cX9_asks 64 = .ok (.goto 4, 3)) ∧ (decode cX9_asks 67 = .ok (.iconst (-1), 1)) ∧ (decode cX9_asks 68 = .ok (.ireturn, 1)) := by decide +kernel
theorem dX9_asks_64 : decode cX9_asks 64 = .ok (.goto 4, 3) := da9_dX9_asks_64.1
theorem dX9_asks_67 : decode cX9_asks 67 = .ok (.iconst (-1), 1) := da9_dX9_asks_64.2.1
theorem dX9_asks_68 : decode cX9_asks 68 = .ok (.ireturn, 1) := da9_dX9_asks_64.2.2
set_option maxRecDepth 20000 in
theorem ggX9_terms_X9_mostOfTerm : GoodIn wsX9_terms wsX9_mostOfTerm := wd_c vW9_ok mvW9_130
set_option maxRecDepth 20000 in
theorem gX9_terms_X9_mostOfTerm : GoodIn wsX9_terms (va_wsS RX9 167 yX9_mostOfTerm wsX9_mostOfTerm) := goodIn_app (wd_l vW9_ok _ pvW9_103) ggX9_terms_X9_mostOfTerm
set_option maxRecDepth 20000 in
theorem ggX9_terms_X9_refuse : GoodIn wsX9_terms wsX9_refuse := wd_c vW9_ok mvW9_12
set_option maxRecDepth 20000 in
theorem gX9_terms_X9_refuse : GoodIn wsX9_terms (wsV RX9 118 RX9 yX9_refuse wsX9_refuse) := goodIn_app (wd_l vW9_ok _ pvW9_91) ggX9_terms_X9_refuse
set_option maxRecDepth 20000 in
theorem ggX9_terms_X6_term : GoodIn wsX9_terms wsX6_term := wd_c vW9_ok mvW9_134
set_option maxRecDepth 20000 in
theorem gX9_terms_X6_term : GoodIn wsX9_terms (wsV RX9 170 RX6 yX6_term wsX6_term) := goodIn_app (wd_l vW9_ok _ pvW9_104) ggX9_terms_X6_term
set_option maxRecDepth 20000 in
theorem ggX9_terms_X6_setTerm : GoodIn wsX9_terms wsX6_setTerm := wd_c vW9_ok mvW9_142
set_option maxRecDepth 20000 in
theorem gX9_terms_X6_setTerm : GoodIn wsX9_terms (wsV RX9 173 RX6 yX6_setTerm wsX6_setTerm) := goodIn_app (wd_l vW9_ok _ pvW9_105) ggX9_terms_X6_setTerm
set_option maxRecDepth 20000 in
theorem ggX9_terms_X0_clear : GoodIn wsX9_terms wsX0_clear := wd_c vW9_ok mvW9_31
set_option maxRecDepth 20000 in
theorem gX9_terms_X0_clear : GoodIn wsX9_terms (wsV RX9 132 RX0 yX0_clear wsX0_clear) := goodIn_app (wd_l vW9_ok _ pvW9_94) ggX9_terms_X0_clear
set_option maxRecDepth 20000 in
theorem ggX9_terms_X9_accept : GoodIn wsX9_terms wsX9_accept := wd_c vW9_ok mvW9_36
set_option maxRecDepth 20000 in
theorem gX9_terms_X9_accept : GoodIn wsX9_terms (wsV RX9 138 RX9 yX9_accept wsX9_accept) := goodIn_app (wd_l vW9_ok _ pvW9_95) ggX9_terms_X9_accept
theorem da9_dX9_terms_0 : (decode cX9_terms 0 = .ok (.iload_n 2, 1)) ∧ (decode cX9_terms 1 = .ok (.ifCond .lt 11, 3)) ∧ (decode cX9_terms 4 = .ok (.iload_n 2, 1)) ∧ (decode cX9_terms 5 = .ok (.iload_n 1, 1)) ∧ (decode cX9_terms 6 = .ok (.invokestatic 167, 3)) ∧ (decode cX9_terms 9 = .ok (.if_icmp .le 9, 3)) ∧ (decode cX9_terms 12 = .ok (.aload_n 0, 1)) ∧ (decode cX9_terms 13 = .ok (.iconst (-1), 1)) ∧ (decode cX9_terms 14 = .ok (.invokevirtual 118, 3)) ∧ (decode cX9_terms 17 = .ok (.ireturn, 1)) ∧ (decode cX9_terms 18 = .ok (.aload_n 0, 1)) ∧ (decode cX9_terms 19 = .ok (.getfield 10, 3)) ∧ (decode cX9_terms 22 = .ok (.iload_n 1, 1)) ∧ (decode cX9_terms 23 = .ok (.invokevirtual 170, 3)) ∧ (decode cX9_terms 26 = .ok (.istore_n 3, 1)) ∧ (decode cX9_terms 27 = .ok (.aload_n 0, 1)) := by decide +kernel
theorem dX9_terms_0 : decode cX9_terms 0 = .ok (.iload_n 2, 1) := da9_dX9_terms_0.1
theorem dX9_terms_1 : decode cX9_terms 1 = .ok (.ifCond .lt 11, 3) := da9_dX9_terms_0.2.1
theorem dX9_terms_4 : decode cX9_terms 4 = .ok (.iload_n 2, 1) := da9_dX9_terms_0.2.2.1
theorem dX9_terms_5 : decode cX9_terms 5 = .ok (.iload_n 1, 1) := da9_dX9_terms_0.2.2.2.1
theorem dX9_terms_6 : decode cX9_terms 6 = .ok (.invokestatic 167, 3) := da9_dX9_terms_0.2.2.2.2.1
theorem dX9_terms_9 : decode cX9_terms 9 = .ok (.if_icmp .le 9, 3) := da9_dX9_terms_0.2.2.2.2.2.1
theorem dX9_terms_12 : decode cX9_terms 12 = .ok (.aload_n 0, 1) := da9_dX9_terms_0.2.2.2.2.2.2.1
theorem dX9_terms_13 : decode cX9_terms 13 = .ok (.iconst (-1), 1) := da9_dX9_terms_0.2.2.2.2.2.2.2.1
theorem dX9_terms_14 : decode cX9_terms 14 = .ok (.invokevirtual 118, 3) := da9_dX9_terms_0.2.2.2.2.2.2.2.2.1
theorem dX9_terms_17 : decode cX9_terms 17 = .ok (.ireturn, 1) := da9_dX9_terms_0.2.2.2.2.2.2.2.2.2.1
theorem dX9_terms_18 : decode cX9_terms 18 = .ok (.aload_n 0, 1) := da9_dX9_terms_0.2.2.2.2.2.2.2.2.2.2.1
theorem dX9_terms_19 : decode cX9_terms 19 = .ok (.getfield 10, 3) := da9_dX9_terms_0.2.2.2.2.2.2.2.2.2.2.2.1
theorem dX9_terms_22 : decode cX9_terms 22 = .ok (.iload_n 1, 1) := da9_dX9_terms_0.2.2.2.2.2.2.2.2.2.2.2.2.1
theorem dX9_terms_23 : decode cX9_terms 23 = .ok (.invokevirtual 170, 3) := da9_dX9_terms_0.2.2.2.2.2.2.2.2.2.2.2.2.2.1
theorem dX9_terms_26 : decode cX9_terms 26 = .ok (.istore_n 3, 1) := da9_dX9_terms_0.2.2.2.2.2.2.2.2.2.2.2.2.2.2.1
theorem dX9_terms_27 : decode cX9_terms 27 = .ok (.aload_n 0, 1) := da9_dX9_terms_0.2.2.2.2.2.2.2.2.2.2.2.2.2.2.2
theorem da9_dX9_terms_28 : (decode cX9_terms 28 = .ok (.getfield 10, 3)) ∧ (decode cX9_terms 31 = .ok (.iload_n 1, 1)) ∧ (decode cX9_terms 32 = .ok (.iload_n 2, 1)) ∧ (decode cX9_terms 33 = .ok (.invokevirtual 173, 3)) ∧ (decode cX9_terms 36 = .ok (.aload_n 0, 1)) ∧ (decode cX9_terms 37 = .ok (.getfield 27, 3)) ∧ (decode cX9_terms 40 = .ok (.invokevirtual 132, 3)) ∧ (decode cX9_terms 43 = .ok (.aload_n 0, 1)) ∧ (decode cX9_terms 44 = .ok (.iload_n 3, 1)) ∧ (decode cX9_terms 45 = .ok (.invokevirtual 138, 3)) ∧ (decode cX9_terms 48 = .ok (.ireturn, 1)) := by decide +kernel
theorem dX9_terms_28 : decode cX9_terms 28 = .ok (.getfield 10, 3) := da9_dX9_terms_28.1
theorem dX9_terms_31 : decode cX9_terms 31 = .ok (.iload_n 1, 1) := da9_dX9_terms_28.2.1
theorem dX9_terms_32 : decode cX9_terms 32 = .ok (.iload_n 2, 1) := da9_dX9_terms_28.2.2.1
theorem dX9_terms_33 : decode cX9_terms 33 = .ok (.invokevirtual 173, 3) := da9_dX9_terms_28.2.2.2.1
theorem dX9_terms_36 : decode cX9_terms 36 = .ok (.aload_n 0, 1) := da9_dX9_terms_28.2.2.2.2.1
theorem dX9_terms_37 : decode cX9_terms 37 = .ok (.getfield 27, 3) := da9_dX9_terms_28.2.2.2.2.2.1
theorem dX9_terms_40 : decode cX9_terms 40 = .ok (.invokevirtual 132, 3) := da9_dX9_terms_28.2.2.2.2.2.2.1
theorem dX9_terms_43 : decode cX9_terms 43 = .ok (.aload_n 0, 1) := da9_dX9_terms_28.2.2.2.2.2.2.2.1
theorem dX9_terms_44 : decode cX9_terms 44 = .ok (.iload_n 3, 1) := da9_dX9_terms_28.2.2.2.2.2.2.2.2.1
theorem dX9_terms_45 : decode cX9_terms 45 = .ok (.invokevirtual 138, 3) := da9_dX9_terms_28.2.2.2.2.2.2.2.2.2.1
theorem dX9_terms_48 : decode cX9_terms 48 = .ok (.ireturn, 1) := da9_dX9_terms_28.2.2.2.2.2.2.2.2.2.2
set_option maxRecDepth 20000 in
theorem ggX9_feed_X9_feedFour : GoodIn wsX9_feed wsX9_feedFour := wd_c vW9_ok mvW9_147
set_option maxRecDepth 20000 in
theorem gX9_feed_X9_feedFour : GoodIn wsX9_feed (wsV RX9 176 RX9 yX9_feedFour wsX9_feedFour) := goodIn_app (wd_l vW9_ok _ pvW9_106) ggX9_feed_X9_feedFour
theorem da9_dX9_feed_0 : (decode cX9_feed 0 = .ok (.aload_n 0, 1)) ∧ (decode cX9_feed 1 = .ok (.getfield 88, 3)) ∧ (decode cX9_feed 4 = .ok (.bipush 20, 2)) ∧ (decode cX9_feed 6 = .ok (.iadd, 1)) ∧ (decode cX9_feed 7 = .ok (.sipush 400, 3)) ∧ (decode cX9_feed 10 = .ok (.if_icmp .le 5, 3)) ∧ (decode cX9_feed 13 = .ok (.iconst (-1), 1)) ∧ (decode cX9_feed 14 = .ok (.ireturn, 1)) ∧ (decode cX9_feed 15 = .ok (.aload_n 0, 1)) ∧ (decode cX9_feed 16 = .ok (.iload_n 1, 1)) ∧ (decode cX9_feed 17 = .ok (.invokevirtual 176, 3)) ∧ (decode cX9_feed 20 = .ok (.aload_n 0, 1)) ∧ (decode cX9_feed 21 = .ok (.iload_n 2, 1)) ∧ (decode cX9_feed 22 = .ok (.invokevirtual 176, 3)) ∧ (decode cX9_feed 25 = .ok (.aload_n 0, 1)) ∧ (decode cX9_feed 26 = .ok (.iload_n 3, 1)) := by decide +kernel
theorem dX9_feed_0 : decode cX9_feed 0 = .ok (.aload_n 0, 1) := da9_dX9_feed_0.1
theorem dX9_feed_1 : decode cX9_feed 1 = .ok (.getfield 88, 3) := da9_dX9_feed_0.2.1
theorem dX9_feed_4 : decode cX9_feed 4 = .ok (.bipush 20, 2) := da9_dX9_feed_0.2.2.1
theorem dX9_feed_6 : decode cX9_feed 6 = .ok (.iadd, 1) := da9_dX9_feed_0.2.2.2.1
theorem dX9_feed_7 : decode cX9_feed 7 = .ok (.sipush 400, 3) := da9_dX9_feed_0.2.2.2.2.1
theorem dX9_feed_10 : decode cX9_feed 10 = .ok (.if_icmp .le 5, 3) := da9_dX9_feed_0.2.2.2.2.2.1
theorem dX9_feed_13 : decode cX9_feed 13 = .ok (.iconst (-1), 1) := da9_dX9_feed_0.2.2.2.2.2.2.1
theorem dX9_feed_14 : decode cX9_feed 14 = .ok (.ireturn, 1) := da9_dX9_feed_0.2.2.2.2.2.2.2.1
theorem dX9_feed_15 : decode cX9_feed 15 = .ok (.aload_n 0, 1) := da9_dX9_feed_0.2.2.2.2.2.2.2.2.1
theorem dX9_feed_16 : decode cX9_feed 16 = .ok (.iload_n 1, 1) := da9_dX9_feed_0.2.2.2.2.2.2.2.2.2.1
theorem dX9_feed_17 : decode cX9_feed 17 = .ok (.invokevirtual 176, 3) := da9_dX9_feed_0.2.2.2.2.2.2.2.2.2.2.1
theorem dX9_feed_20 : decode cX9_feed 20 = .ok (.aload_n 0, 1) := da9_dX9_feed_0.2.2.2.2.2.2.2.2.2.2.2.1
theorem dX9_feed_21 : decode cX9_feed 21 = .ok (.iload_n 2, 1) := da9_dX9_feed_0.2.2.2.2.2.2.2.2.2.2.2.2.1
theorem dX9_feed_22 : decode cX9_feed 22 = .ok (.invokevirtual 176, 3) := da9_dX9_feed_0.2.2.2.2.2.2.2.2.2.2.2.2.2.1
theorem dX9_feed_25 : decode cX9_feed 25 = .ok (.aload_n 0, 1) := da9_dX9_feed_0.2.2.2.2.2.2.2.2.2.2.2.2.2.2.1
theorem dX9_feed_26 : decode cX9_feed 26 = .ok (.iload_n 3, 1) := da9_dX9_feed_0.2.2.2.2.2.2.2.2.2.2.2.2.2.2.2
theorem da9_dX9_feed_27 : (decode cX9_feed 27 = .ok (.invokevirtual 176, 3)) ∧ (decode cX9_feed 30 = .ok (.aload_n 0, 1)) ∧ (decode cX9_feed 31 = .ok (.iload 4, 2)) ∧ (decode cX9_feed 33 = .ok (.invokevirtual 176, 3)) ∧ (decode cX9_feed 36 = .ok (.aload_n 0, 1)) ∧ (decode cX9_feed 37 = .ok (.iload 5, 2)) ∧ (decode cX9_feed 39 = .ok (.invokevirtual 176, 3)) ∧ (decode cX9_feed 42 = .ok (.aload_n 0, 1)) ∧ (decode cX9_feed 43 = .ok (.getfield 88, 3)) ∧ (decode cX9_feed 46 = .ok (.ireturn, 1)) := by decide +kernel
theorem dX9_feed_27 : decode cX9_feed 27 = .ok (.invokevirtual 176, 3) := da9_dX9_feed_27.1
theorem dX9_feed_30 : decode cX9_feed 30 = .ok (.aload_n 0, 1) := da9_dX9_feed_27.2.1
theorem dX9_feed_31 : decode cX9_feed 31 = .ok (.iload 4, 2) := da9_dX9_feed_27.2.2.1
theorem dX9_feed_33 : decode cX9_feed 33 = .ok (.invokevirtual 176, 3) := da9_dX9_feed_27.2.2.2.1
theorem dX9_feed_36 : decode cX9_feed 36 = .ok (.aload_n 0, 1) := da9_dX9_feed_27.2.2.2.2.1
theorem dX9_feed_37 : decode cX9_feed 37 = .ok (.iload 5, 2) := da9_dX9_feed_27.2.2.2.2.2.1
theorem dX9_feed_39 : decode cX9_feed 39 = .ok (.invokevirtual 176, 3) := da9_dX9_feed_27.2.2.2.2.2.2.1
theorem dX9_feed_42 : decode cX9_feed 42 = .ok (.aload_n 0, 1) := da9_dX9_feed_27.2.2.2.2.2.2.2.1
theorem dX9_feed_43 : decode cX9_feed 43 = .ok (.getfield 88, 3) := da9_dX9_feed_27.2.2.2.2.2.2.2.2.1
theorem dX9_feed_46 : decode cX9_feed 46 = .ok (.ireturn, 1) := da9_dX9_feed_27.2.2.2.2.2.2.2.2.2
theorem da9_dX9_end_0 : (decode cX9_end 0 = .ok (.iload_n 1, 1)) ∧ (decode cX9_end 1 = .ok (.ifCond .lt 11, 3)) ∧ (decode cX9_end 4 = .ok (.iload_n 1, 1)) ∧ (decode cX9_end 5 = .ok (.aload_n 0, 1)) ∧ (decode cX9_end 6 = .ok (.getfield 88, 3)) ∧ (decode cX9_end 9 = .ok (.if_icmp .le 5, 3)) ∧ (decode cX9_end 12 = .ok (.iconst (-1), 1)) ∧ (decode cX9_end 13 = .ok (.ireturn, 1)) ∧ (decode cX9_end 14 = .ok (.aload_n 0, 1)) ∧ (decode cX9_end 15 = .ok (.iload_n 1, 1)) ∧ (decode cX9_end 16 = .ok (.putfield 88, 3)) ∧ (decode cX9_end 19 = .ok (.iload_n 1, 1)) ∧ (decode cX9_end 20 = .ok (.ireturn, 1)) := by decide +kernel
theorem dX9_end_0 : decode cX9_end 0 = .ok (.iload_n 1, 1) := da9_dX9_end_0.1
theorem dX9_end_1 : decode cX9_end 1 = .ok (.ifCond .lt 11, 3) := da9_dX9_end_0.2.1
theorem dX9_end_4 : decode cX9_end 4 = .ok (.iload_n 1, 1) := da9_dX9_end_0.2.2.1
theorem dX9_end_5 : decode cX9_end 5 = .ok (.aload_n 0, 1) := da9_dX9_end_0.2.2.2.1
theorem dX9_end_6 : decode cX9_end 6 = .ok (.getfield 88, 3) := da9_dX9_end_0.2.2.2.2.1
theorem dX9_end_9 : decode cX9_end 9 = .ok (.if_icmp .le 5, 3) := da9_dX9_end_0.2.2.2.2.2.1
theorem dX9_end_12 : decode cX9_end 12 = .ok (.iconst (-1), 1) := da9_dX9_end_0.2.2.2.2.2.2.1
theorem dX9_end_13 : decode cX9_end 13 = .ok (.ireturn, 1) := da9_dX9_end_0.2.2.2.2.2.2.2.1
theorem dX9_end_14 : decode cX9_end 14 = .ok (.aload_n 0, 1) := da9_dX9_end_0.2.2.2.2.2.2.2.2.1
theorem dX9_end_15 : decode cX9_end 15 = .ok (.iload_n 1, 1) := da9_dX9_end_0.2.2.2.2.2.2.2.2.2.1
theorem dX9_end_16 : decode cX9_end 16 = .ok (.putfield 88, 3) := da9_dX9_end_0.2.2.2.2.2.2.2.2.2.2.1
theorem dX9_end_19 : decode cX9_end 19 = .ok (.iload_n 1, 1) := da9_dX9_end_0.2.2.2.2.2.2.2.2.2.2.2.1
theorem dX9_end_20 : decode cX9_end 20 = .ok (.ireturn, 1) := da9_dX9_end_0.2.2.2.2.2.2.2.2.2.2.2.2
set_option maxRecDepth 20000 in
theorem ggX9_row_X9_refuse : GoodIn wsX9_row wsX9_refuse := wd_c vW9_ok mvW9_12
set_option maxRecDepth 20000 in
theorem gX9_row_X9_refuse : GoodIn wsX9_row (wsV RX9 118 RX9 yX9_refuse wsX9_refuse) := goodIn_app (wd_l vW9_ok _ pvW9_91) ggX9_row_X9_refuse
set_option maxRecDepth 20000 in
theorem ggX9_row_X9_isNewFloor : GoodIn wsX9_row wsX9_isNewFloor := wd_c vW9_ok mvW9_153
set_option maxRecDepth 20000 in
theorem gX9_row_X9_isNewFloor : GoodIn wsX9_row (wsV RX9 180 RX9 yX9_isNewFloor wsX9_isNewFloor) := goodIn_app (wd_l vW9_ok _ pvW9_107) ggX9_row_X9_isNewFloor
set_option maxRecDepth 20000 in
theorem ggX9_row_X8_add : GoodIn wsX9_row wsX8_add := wd_c vW9_ok mvW9_25
set_option maxRecDepth 20000 in
theorem gX9_row_X8_add : GoodIn wsX9_row (wsV RX9 128 RX8 yX8_add wsX8_add) := goodIn_app (wd_l vW9_ok _ pvW9_93) ggX9_row_X8_add
set_option maxRecDepth 20000 in
theorem ggX9_row_X0_clear : GoodIn wsX9_row wsX0_clear := wd_c vW9_ok mvW9_31
set_option maxRecDepth 20000 in
theorem gX9_row_X0_clear : GoodIn wsX9_row (wsV RX9 132 RX0 yX0_clear wsX0_clear) := goodIn_app (wd_l vW9_ok _ pvW9_94) ggX9_row_X0_clear
set_option maxRecDepth 20000 in
theorem ggX9_row_X9_accept : GoodIn wsX9_row wsX9_accept := wd_c vW9_ok mvW9_36
set_option maxRecDepth 20000 in
theorem gX9_row_X9_accept : GoodIn wsX9_row (wsV RX9 138 RX9 yX9_accept wsX9_accept) := goodIn_app (wd_l vW9_ok _ pvW9_95) ggX9_row_X9_accept
theorem da9_dX9_row_0 : (decode cX9_row 0 = .ok (.aload_n 0, 1)) ∧ (decode cX9_row 1 = .ok (.getfield 88, 3)) ∧ (decode cX9_row 4 = .ok (.ifCond .ne 10, 3)) ∧ (decode cX9_row 7 = .ok (.aload_n 0, 1)) ∧ (decode cX9_row 8 = .ok (.bipush (-6), 2)) ∧ (decode cX9_row 10 = .ok (.invokevirtual 118, 3)) ∧ (decode cX9_row 13 = .ok (.ireturn, 1)) ∧ (decode cX9_row 14 = .ok (.iconst 0, 1)) ∧ (decode cX9_row 15 = .ok (.istore_n 1, 1)) ∧ (decode cX9_row 16 = .ok (.iconst 0, 1)) ∧ (decode cX9_row 17 = .ok (.istore_n 2, 1)) ∧ (decode cX9_row 18 = .ok (.iconst 0, 1)) ∧ (decode cX9_row 19 = .ok (.istore_n 3, 1)) ∧ (decode cX9_row 20 = .ok (.iload_n 3, 1)) ∧ (decode cX9_row 21 = .ok (.aload_n 0, 1)) ∧ (decode cX9_row 22 = .ok (.getfield 88, 3)) := by decide +kernel
theorem dX9_row_0 : decode cX9_row 0 = .ok (.aload_n 0, 1) := da9_dX9_row_0.1
theorem dX9_row_1 : decode cX9_row 1 = .ok (.getfield 88, 3) := da9_dX9_row_0.2.1
theorem dX9_row_4 : decode cX9_row 4 = .ok (.ifCond .ne 10, 3) := da9_dX9_row_0.2.2.1
theorem dX9_row_7 : decode cX9_row 7 = .ok (.aload_n 0, 1) := da9_dX9_row_0.2.2.2.1
theorem dX9_row_8 : decode cX9_row 8 = .ok (.bipush (-6), 2) := da9_dX9_row_0.2.2.2.2.1
theorem dX9_row_10 : decode cX9_row 10 = .ok (.invokevirtual 118, 3) := da9_dX9_row_0.2.2.2.2.2.1
theorem dX9_row_13 : decode cX9_row 13 = .ok (.ireturn, 1) := da9_dX9_row_0.2.2.2.2.2.2.1
theorem dX9_row_14 : decode cX9_row 14 = .ok (.iconst 0, 1) := da9_dX9_row_0.2.2.2.2.2.2.2.1
theorem dX9_row_15 : decode cX9_row 15 = .ok (.istore_n 1, 1) := da9_dX9_row_0.2.2.2.2.2.2.2.2.1
theorem dX9_row_16 : decode cX9_row 16 = .ok (.iconst 0, 1) := da9_dX9_row_0.2.2.2.2.2.2.2.2.2.1
theorem dX9_row_17 : decode cX9_row 17 = .ok (.istore_n 2, 1) := da9_dX9_row_0.2.2.2.2.2.2.2.2.2.2.1
theorem dX9_row_18 : decode cX9_row 18 = .ok (.iconst 0, 1) := da9_dX9_row_0.2.2.2.2.2.2.2.2.2.2.2.1
theorem dX9_row_19 : decode cX9_row 19 = .ok (.istore_n 3, 1) := da9_dX9_row_0.2.2.2.2.2.2.2.2.2.2.2.2.1
theorem dX9_row_20 : decode cX9_row 20 = .ok (.iload_n 3, 1) := da9_dX9_row_0.2.2.2.2.2.2.2.2.2.2.2.2.2.1
theorem dX9_row_21 : decode cX9_row 21 = .ok (.aload_n 0, 1) := da9_dX9_row_0.2.2.2.2.2.2.2.2.2.2.2.2.2.2.1
theorem dX9_row_22 : decode cX9_row 22 = .ok (.getfield 88, 3) := da9_dX9_row_0.2.2.2.2.2.2.2.2.2.2.2.2.2.2.2
theorem da9_dX9_row_25 : (decode cX9_row 25 = .ok (.if_icmp .ge 76, 3)) ∧ (decode cX9_row 28 = .ok (.iload_n 3, 1)) ∧ (decode cX9_row 29 = .ok (.iconst 1, 1)) ∧ (decode cX9_row 30 = .ok (.iadd, 1)) ∧ (decode cX9_row 31 = .ok (.aload_n 0, 1)) ∧ (decode cX9_row 32 = .ok (.getfield 88, 3)) ∧ (decode cX9_row 35 = .ok (.if_icmp .ge 57, 3)) ∧ (decode cX9_row 38 = .ok (.aload_n 0, 1)) ∧ (decode cX9_row 39 = .ok (.aload_n 0, 1)) ∧ (decode cX9_row 40 = .ok (.getfield 84, 3)) ∧ (decode cX9_row 43 = .ok (.iload_n 3, 1)) ∧ (decode cX9_row 44 = .ok (.iaload, 1)) ∧ (decode cX9_row 45 = .ok (.aload_n 0, 1)) ∧ (decode cX9_row 46 = .ok (.getfield 84, 3)) ∧ (decode cX9_row 49 = .ok (.iload_n 3, 1)) ∧ (decode cX9_row 50 = .ok (.iconst 1, 1)) := by decide +kernel
theorem dX9_row_25 : decode cX9_row 25 = .ok (.if_icmp .ge 76, 3) := da9_dX9_row_25.1
theorem dX9_row_28 : decode cX9_row 28 = .ok (.iload_n 3, 1) := da9_dX9_row_25.2.1
theorem dX9_row_29 : decode cX9_row 29 = .ok (.iconst 1, 1) := da9_dX9_row_25.2.2.1
theorem dX9_row_30 : decode cX9_row 30 = .ok (.iadd, 1) := da9_dX9_row_25.2.2.2.1
theorem dX9_row_31 : decode cX9_row 31 = .ok (.aload_n 0, 1) := da9_dX9_row_25.2.2.2.2.1
theorem dX9_row_32 : decode cX9_row 32 = .ok (.getfield 88, 3) := da9_dX9_row_25.2.2.2.2.2.1
theorem dX9_row_35 : decode cX9_row 35 = .ok (.if_icmp .ge 57, 3) := da9_dX9_row_25.2.2.2.2.2.2.1
theorem dX9_row_38 : decode cX9_row 38 = .ok (.aload_n 0, 1) := da9_dX9_row_25.2.2.2.2.2.2.2.1
theorem dX9_row_39 : decode cX9_row 39 = .ok (.aload_n 0, 1) := da9_dX9_row_25.2.2.2.2.2.2.2.2.1
theorem dX9_row_40 : decode cX9_row 40 = .ok (.getfield 84, 3) := da9_dX9_row_25.2.2.2.2.2.2.2.2.2.1
theorem dX9_row_43 : decode cX9_row 43 = .ok (.iload_n 3, 1) := da9_dX9_row_25.2.2.2.2.2.2.2.2.2.2.1
theorem dX9_row_44 : decode cX9_row 44 = .ok (.iaload, 1) := da9_dX9_row_25.2.2.2.2.2.2.2.2.2.2.2.1
theorem dX9_row_45 : decode cX9_row 45 = .ok (.aload_n 0, 1) := da9_dX9_row_25.2.2.2.2.2.2.2.2.2.2.2.2.1
theorem dX9_row_46 : decode cX9_row 46 = .ok (.getfield 84, 3) := da9_dX9_row_25.2.2.2.2.2.2.2.2.2.2.2.2.2.1
theorem dX9_row_49 : decode cX9_row 49 = .ok (.iload_n 3, 1) := da9_dX9_row_25.2.2.2.2.2.2.2.2.2.2.2.2.2.2.1
theorem dX9_row_50 : decode cX9_row 50 = .ok (.iconst 1, 1) := da9_dX9_row_25.2.2.2.2.2.2.2.2.2.2.2.2.2.2.2
theorem da9_dX9_row_51 : (decode cX9_row 51 = .ok (.iadd, 1)) ∧ (decode cX9_row 52 = .ok (.iaload, 1)) ∧ (decode cX9_row 53 = .ok (.invokevirtual 180, 3)) ∧ (decode cX9_row 56 = .ok (.ifCond .eq 36, 3)) ∧ (decode cX9_row 59 = .ok (.aload_n 0, 1)) ∧ (decode cX9_row 60 = .ok (.getfield 10, 3)) ∧ (decode cX9_row 63 = .ok (.getfield 122, 3)) ∧ (decode cX9_row 66 = .ok (.aload_n 0, 1)) ∧ (decode cX9_row 67 = .ok (.getfield 84, 3)) ∧ (decode cX9_row 70 = .ok (.iload_n 3, 1)) ∧ (decode cX9_row 71 = .ok (.iaload, 1)) ∧ (decode cX9_row 72 = .ok (.aload_n 0, 1)) ∧ (decode cX9_row 73 = .ok (.getfield 84, 3)) ∧ (decode cX9_row 76 = .ok (.iload_n 3, 1)) ∧ (decode cX9_row 77 = .ok (.iconst 1, 1)) ∧ (decode cX9_row 78 = .ok (.iadd, 1)) := by decide +kernel
theorem dX9_row_51 : decode cX9_row 51 = .ok (.iadd, 1) := da9_dX9_row_51.1
theorem dX9_row_52 : decode cX9_row 52 = .ok (.iaload, 1) := da9_dX9_row_51.2.1
theorem dX9_row_53 : decode cX9_row 53 = .ok (.invokevirtual 180, 3) := da9_dX9_row_51.2.2.1
theorem dX9_row_56 : decode cX9_row 56 = .ok (.ifCond .eq 36, 3) := da9_dX9_row_51.2.2.2.1
theorem dX9_row_59 : decode cX9_row 59 = .ok (.aload_n 0, 1) := da9_dX9_row_51.2.2.2.2.1
theorem dX9_row_60 : decode cX9_row 60 = .ok (.getfield 10, 3) := da9_dX9_row_51.2.2.2.2.2.1
theorem dX9_row_63 : decode cX9_row 63 = .ok (.getfield 122, 3) := da9_dX9_row_51.2.2.2.2.2.2.1
theorem dX9_row_66 : decode cX9_row 66 = .ok (.aload_n 0, 1) := da9_dX9_row_51.2.2.2.2.2.2.2.1
theorem dX9_row_67 : decode cX9_row 67 = .ok (.getfield 84, 3) := da9_dX9_row_51.2.2.2.2.2.2.2.2.1
theorem dX9_row_70 : decode cX9_row 70 = .ok (.iload_n 3, 1) := da9_dX9_row_51.2.2.2.2.2.2.2.2.2.1
theorem dX9_row_71 : decode cX9_row 71 = .ok (.iaload, 1) := da9_dX9_row_51.2.2.2.2.2.2.2.2.2.2.1
theorem dX9_row_72 : decode cX9_row 72 = .ok (.aload_n 0, 1) := da9_dX9_row_51.2.2.2.2.2.2.2.2.2.2.2.1
theorem dX9_row_73 : decode cX9_row 73 = .ok (.getfield 84, 3) := da9_dX9_row_51.2.2.2.2.2.2.2.2.2.2.2.2.1
theorem dX9_row_76 : decode cX9_row 76 = .ok (.iload_n 3, 1) := da9_dX9_row_51.2.2.2.2.2.2.2.2.2.2.2.2.2.1
theorem dX9_row_77 : decode cX9_row 77 = .ok (.iconst 1, 1) := da9_dX9_row_51.2.2.2.2.2.2.2.2.2.2.2.2.2.2.1
theorem dX9_row_78 : decode cX9_row 78 = .ok (.iadd, 1) := da9_dX9_row_51.2.2.2.2.2.2.2.2.2.2.2.2.2.2.2
theorem da9_dX9_row_79 : (decode cX9_row 79 = .ok (.iaload, 1)) ∧ (decode cX9_row 80 = .ok (.invokevirtual 128, 3)) ∧ (decode cX9_row 83 = .ok (.ifCond .eq 9, 3)) ∧ (decode cX9_row 86 = .ok (.iinc 1 1, 3)) ∧ (decode cX9_row 89 = .ok (.goto 6, 3)) ∧ (decode cX9_row 92 = .ok (.iinc 2 1, 3)) ∧ (decode cX9_row 95 = .ok (.iinc 3 2, 3)) ∧ (decode cX9_row 98 = .ok (.goto (-78), 3)) ∧ (decode cX9_row 101 = .ok (.aload_n 0, 1)) ∧ (decode cX9_row 102 = .ok (.iconst 0, 1)) ∧ (decode cX9_row 103 = .ok (.putfield 88, 3)) ∧ (decode cX9_row 106 = .ok (.aload_n 0, 1)) ∧ (decode cX9_row 107 = .ok (.iload_n 2, 1)) ∧ (decode cX9_row 108 = .ok (.putfield 95, 3)) ∧ (decode cX9_row 111 = .ok (.aload_n 0, 1)) ∧ (decode cX9_row 112 = .ok (.getfield 27, 3)) := by decide +kernel
theorem dX9_row_79 : decode cX9_row 79 = .ok (.iaload, 1) := da9_dX9_row_79.1
theorem dX9_row_80 : decode cX9_row 80 = .ok (.invokevirtual 128, 3) := da9_dX9_row_79.2.1
theorem dX9_row_83 : decode cX9_row 83 = .ok (.ifCond .eq 9, 3) := da9_dX9_row_79.2.2.1
theorem dX9_row_86 : decode cX9_row 86 = .ok (.iinc 1 1, 3) := da9_dX9_row_79.2.2.2.1
theorem dX9_row_89 : decode cX9_row 89 = .ok (.goto 6, 3) := da9_dX9_row_79.2.2.2.2.1
theorem dX9_row_92 : decode cX9_row 92 = .ok (.iinc 2 1, 3) := da9_dX9_row_79.2.2.2.2.2.1
theorem dX9_row_95 : decode cX9_row 95 = .ok (.iinc 3 2, 3) := da9_dX9_row_79.2.2.2.2.2.2.1
theorem dX9_row_98 : decode cX9_row 98 = .ok (.goto (-78), 3) := da9_dX9_row_79.2.2.2.2.2.2.2.1
theorem dX9_row_101 : decode cX9_row 101 = .ok (.aload_n 0, 1) := da9_dX9_row_79.2.2.2.2.2.2.2.2.1
theorem dX9_row_102 : decode cX9_row 102 = .ok (.iconst 0, 1) := da9_dX9_row_79.2.2.2.2.2.2.2.2.2.1
theorem dX9_row_103 : decode cX9_row 103 = .ok (.putfield 88, 3) := da9_dX9_row_79.2.2.2.2.2.2.2.2.2.2.1
theorem dX9_row_106 : decode cX9_row 106 = .ok (.aload_n 0, 1) := da9_dX9_row_79.2.2.2.2.2.2.2.2.2.2.2.1
theorem dX9_row_107 : decode cX9_row 107 = .ok (.iload_n 2, 1) := da9_dX9_row_79.2.2.2.2.2.2.2.2.2.2.2.2.1
theorem dX9_row_108 : decode cX9_row 108 = .ok (.putfield 95, 3) := da9_dX9_row_79.2.2.2.2.2.2.2.2.2.2.2.2.2.1
theorem dX9_row_111 : decode cX9_row 111 = .ok (.aload_n 0, 1) := da9_dX9_row_79.2.2.2.2.2.2.2.2.2.2.2.2.2.2.1
theorem dX9_row_112 : decode cX9_row 112 = .ok (.getfield 27, 3) := da9_dX9_row_79.2.2.2.2.2.2.2.2.2.2.2.2.2.2.2
theorem da9_dX9_row_115 : (decode cX9_row 115 = .ok (.invokevirtual 132, 3)) ∧ (decode cX9_row 118 = .ok (.aload_n 0, 1)) ∧ (decode cX9_row 119 = .ok (.iload_n 1, 1)) ∧ (decode cX9_row 120 = .ok (.invokevirtual 138, 3)) ∧ (decode cX9_row 123 = .ok (.ireturn, 1)) := by decide +kernel
theorem dX9_row_115 : decode cX9_row 115 = .ok (.invokevirtual 132, 3) := da9_dX9_row_115.1
theorem dX9_row_118 : decode cX9_row 118 = .ok (.aload_n 0, 1) := da9_dX9_row_115.2.1
theorem dX9_row_119 : decode cX9_row 119 = .ok (.iload_n 1, 1) := da9_dX9_row_115.2.2.1
theorem dX9_row_120 : decode cX9_row 120 = .ok (.invokevirtual 138, 3) := da9_dX9_row_115.2.2.2.1
theorem dX9_row_123 : decode cX9_row 123 = .ok (.ireturn, 1) := da9_dX9_row_115.2.2.2.2
theorem da9_dX9_bricks_0 : (decode cX9_bricks 0 = .ok (.aload_n 0, 1)) ∧ (decode cX9_bricks 1 = .ok (.getfield 95, 3)) ∧ (decode cX9_bricks 4 = .ok (.ireturn, 1)) := by decide +kernel
theorem dX9_bricks_0 : decode cX9_bricks 0 = .ok (.aload_n 0, 1) := da9_dX9_bricks_0.1
theorem dX9_bricks_1 : decode cX9_bricks 1 = .ok (.getfield 95, 3) := da9_dX9_bricks_0.2.1
theorem dX9_bricks_4 : decode cX9_bricks 4 = .ok (.ireturn, 1) := da9_dX9_bricks_0.2.2
theorem da9_dX9_feedFour_0 : (decode cX9_feedFour 0 = .ok (.bipush 24, 2)) ∧ (decode cX9_feedFour 2 = .ok (.istore_n 2, 1)) ∧ (decode cX9_feedFour 3 = .ok (.iload_n 2, 1)) ∧ (decode cX9_feedFour 4 = .ok (.ifCond .lt 45, 3)) ∧ (decode cX9_feedFour 7 = .ok (.aload_n 0, 1)) ∧ (decode cX9_feedFour 8 = .ok (.getfield 88, 3)) ∧ (decode cX9_feedFour 11 = .ok (.sipush 400, 3)) ∧ (decode cX9_feedFour 14 = .ok (.if_icmp .ge 29, 3)) ∧ (decode cX9_feedFour 17 = .ok (.aload_n 0, 1)) ∧ (decode cX9_feedFour 18 = .ok (.getfield 84, 3)) ∧ (decode cX9_feedFour 21 = .ok (.aload_n 0, 1)) ∧ (decode cX9_feedFour 22 = .ok (.getfield 88, 3)) ∧ (decode cX9_feedFour 25 = .ok (.iload_n 1, 1)) ∧ (decode cX9_feedFour 26 = .ok (.iload_n 2, 1)) ∧ (decode cX9_feedFour 27 = .ok (.iushr, 1)) ∧ (decode cX9_feedFour 28 = .ok (.sipush 255, 3)) := by decide +kernel
theorem dX9_feedFour_0 : decode cX9_feedFour 0 = .ok (.bipush 24, 2) := da9_dX9_feedFour_0.1
theorem dX9_feedFour_2 : decode cX9_feedFour 2 = .ok (.istore_n 2, 1) := da9_dX9_feedFour_0.2.1
theorem dX9_feedFour_3 : decode cX9_feedFour 3 = .ok (.iload_n 2, 1) := da9_dX9_feedFour_0.2.2.1
theorem dX9_feedFour_4 : decode cX9_feedFour 4 = .ok (.ifCond .lt 45, 3) := da9_dX9_feedFour_0.2.2.2.1
theorem dX9_feedFour_7 : decode cX9_feedFour 7 = .ok (.aload_n 0, 1) := da9_dX9_feedFour_0.2.2.2.2.1
theorem dX9_feedFour_8 : decode cX9_feedFour 8 = .ok (.getfield 88, 3) := da9_dX9_feedFour_0.2.2.2.2.2.1
theorem dX9_feedFour_11 : decode cX9_feedFour 11 = .ok (.sipush 400, 3) := da9_dX9_feedFour_0.2.2.2.2.2.2.1
theorem dX9_feedFour_14 : decode cX9_feedFour 14 = .ok (.if_icmp .ge 29, 3) := da9_dX9_feedFour_0.2.2.2.2.2.2.2.1
theorem dX9_feedFour_17 : decode cX9_feedFour 17 = .ok (.aload_n 0, 1) := da9_dX9_feedFour_0.2.2.2.2.2.2.2.2.1
theorem dX9_feedFour_18 : decode cX9_feedFour 18 = .ok (.getfield 84, 3) := da9_dX9_feedFour_0.2.2.2.2.2.2.2.2.2.1
theorem dX9_feedFour_21 : decode cX9_feedFour 21 = .ok (.aload_n 0, 1) := da9_dX9_feedFour_0.2.2.2.2.2.2.2.2.2.2.1
theorem dX9_feedFour_22 : decode cX9_feedFour 22 = .ok (.getfield 88, 3) := da9_dX9_feedFour_0.2.2.2.2.2.2.2.2.2.2.2.1
theorem dX9_feedFour_25 : decode cX9_feedFour 25 = .ok (.iload_n 1, 1) := da9_dX9_feedFour_0.2.2.2.2.2.2.2.2.2.2.2.2.1
theorem dX9_feedFour_26 : decode cX9_feedFour 26 = .ok (.iload_n 2, 1) := da9_dX9_feedFour_0.2.2.2.2.2.2.2.2.2.2.2.2.2.1
theorem dX9_feedFour_27 : decode cX9_feedFour 27 = .ok (.iushr, 1) := da9_dX9_feedFour_0.2.2.2.2.2.2.2.2.2.2.2.2.2.2.1
theorem dX9_feedFour_28 : decode cX9_feedFour 28 = .ok (.sipush 255, 3) := da9_dX9_feedFour_0.2.2.2.2.2.2.2.2.2.2.2.2.2.2.2
theorem da9_dX9_feedFour_31 : (decode cX9_feedFour 31 = .ok (.iand, 1)) ∧ (decode cX9_feedFour 32 = .ok (.iastore, 1)) ∧ (decode cX9_feedFour 33 = .ok (.aload_n 0, 1)) ∧ (decode cX9_feedFour 34 = .ok (.dup, 1)) ∧ (decode cX9_feedFour 35 = .ok (.getfield 88, 3)) ∧ (decode cX9_feedFour 38 = .ok (.iconst 1, 1)) ∧ (decode cX9_feedFour 39 = .ok (.iadd, 1)) ∧ (decode cX9_feedFour 40 = .ok (.putfield 88, 3)) ∧ (decode cX9_feedFour 43 = .ok (.iinc 2 (-8), 3)) ∧ (decode cX9_feedFour 46 = .ok (.goto (-43), 3)) ∧ (decode cX9_feedFour 49 = .ok (.return_, 1)) := by decide +kernel
theorem dX9_feedFour_31 : decode cX9_feedFour 31 = .ok (.iand, 1) := da9_dX9_feedFour_31.1
theorem dX9_feedFour_32 : decode cX9_feedFour 32 = .ok (.iastore, 1) := da9_dX9_feedFour_31.2.1
theorem dX9_feedFour_33 : decode cX9_feedFour 33 = .ok (.aload_n 0, 1) := da9_dX9_feedFour_31.2.2.1
theorem dX9_feedFour_34 : decode cX9_feedFour 34 = .ok (.dup, 1) := da9_dX9_feedFour_31.2.2.2.1
theorem dX9_feedFour_35 : decode cX9_feedFour 35 = .ok (.getfield 88, 3) := da9_dX9_feedFour_31.2.2.2.2.1
theorem dX9_feedFour_38 : decode cX9_feedFour 38 = .ok (.iconst 1, 1) := da9_dX9_feedFour_31.2.2.2.2.2.1
theorem dX9_feedFour_39 : decode cX9_feedFour 39 = .ok (.iadd, 1) := da9_dX9_feedFour_31.2.2.2.2.2.2.1
theorem dX9_feedFour_40 : decode cX9_feedFour 40 = .ok (.putfield 88, 3) := da9_dX9_feedFour_31.2.2.2.2.2.2.2.1
theorem dX9_feedFour_43 : decode cX9_feedFour 43 = .ok (.iinc 2 (-8), 3) := da9_dX9_feedFour_31.2.2.2.2.2.2.2.2.1
theorem dX9_feedFour_46 : decode cX9_feedFour 46 = .ok (.goto (-43), 3) := da9_dX9_feedFour_31.2.2.2.2.2.2.2.2.2.1
theorem dX9_feedFour_49 : decode cX9_feedFour 49 = .ok (.return_, 1) := da9_dX9_feedFour_31.2.2.2.2.2.2.2.2.2.2
set_option maxRecDepth 20000 in
theorem ggX9_isNewFloor_X9_isRank : GoodIn wsX9_isNewFloor wsX9_isRank := wd_c vW9_ok mvW9_5
set_option maxRecDepth 20000 in
theorem gX9_isNewFloor_X9_isRank : GoodIn wsX9_isNewFloor (va_wsS RX9 111 yX9_isRank wsX9_isRank) := goodIn_app (wd_l vW9_ok _ pvW9_89) ggX9_isNewFloor_X9_isRank
set_option maxRecDepth 20000 in
theorem ggX9_isNewFloor_X9_isBit : GoodIn wsX9_isNewFloor wsX9_isBit := wd_c vW9_ok mvW9_8
set_option maxRecDepth 20000 in
theorem gX9_isNewFloor_X9_isBit : GoodIn wsX9_isNewFloor (va_wsS RX9 115 yX9_isBit wsX9_isBit) := goodIn_app (wd_l vW9_ok _ pvW9_90) ggX9_isNewFloor_X9_isBit
set_option maxRecDepth 20000 in
theorem ggX9_isNewFloor_X8_has : GoodIn wsX9_isNewFloor wsX8_has := wd_c vW9_ok mvW9_19
set_option maxRecDepth 20000 in
theorem gX9_isNewFloor_X8_has : GoodIn wsX9_isNewFloor (wsV RX9 125 RX8 yX8_has wsX8_has) := goodIn_app (wd_l vW9_ok _ pvW9_92) ggX9_isNewFloor_X8_has
theorem da9_dX9_isNewFloor_0 : (decode cX9_isNewFloor 0 = .ok (.iload_n 1, 1)) ∧ (decode cX9_isNewFloor 1 = .ok (.invokestatic 111, 3)) ∧ (decode cX9_isNewFloor 4 = .ok (.ifCond .eq 28, 3)) ∧ (decode cX9_isNewFloor 7 = .ok (.iload_n 2, 1)) ∧ (decode cX9_isNewFloor 8 = .ok (.invokestatic 115, 3)) ∧ (decode cX9_isNewFloor 11 = .ok (.ifCond .eq 21, 3)) ∧ (decode cX9_isNewFloor 14 = .ok (.aload_n 0, 1)) ∧ (decode cX9_isNewFloor 15 = .ok (.getfield 10, 3)) ∧ (decode cX9_isNewFloor 18 = .ok (.getfield 122, 3)) ∧ (decode cX9_isNewFloor 21 = .ok (.iload_n 1, 1)) ∧ (decode cX9_isNewFloor 22 = .ok (.invokevirtual 125, 3)) ∧ (decode cX9_isNewFloor 25 = .ok (.ifCond .ne 7, 3)) ∧ (decode cX9_isNewFloor 28 = .ok (.iconst 1, 1)) ∧ (decode cX9_isNewFloor 29 = .ok (.goto 4, 3)) ∧ (decode cX9_isNewFloor 32 = .ok (.iconst 0, 1)) ∧ (decode cX9_isNewFloor 33 = .ok (.ireturn, 1)) := by decide +kernel
theorem dX9_isNewFloor_0 : decode cX9_isNewFloor 0 = .ok (.iload_n 1, 1) := da9_dX9_isNewFloor_0.1
theorem dX9_isNewFloor_1 : decode cX9_isNewFloor 1 = .ok (.invokestatic 111, 3) := da9_dX9_isNewFloor_0.2.1
theorem dX9_isNewFloor_4 : decode cX9_isNewFloor 4 = .ok (.ifCond .eq 28, 3) := da9_dX9_isNewFloor_0.2.2.1
theorem dX9_isNewFloor_7 : decode cX9_isNewFloor 7 = .ok (.iload_n 2, 1) := da9_dX9_isNewFloor_0.2.2.2.1
theorem dX9_isNewFloor_8 : decode cX9_isNewFloor 8 = .ok (.invokestatic 115, 3) := da9_dX9_isNewFloor_0.2.2.2.2.1
theorem dX9_isNewFloor_11 : decode cX9_isNewFloor 11 = .ok (.ifCond .eq 21, 3) := da9_dX9_isNewFloor_0.2.2.2.2.2.1
theorem dX9_isNewFloor_14 : decode cX9_isNewFloor 14 = .ok (.aload_n 0, 1) := da9_dX9_isNewFloor_0.2.2.2.2.2.2.1
theorem dX9_isNewFloor_15 : decode cX9_isNewFloor 15 = .ok (.getfield 10, 3) := da9_dX9_isNewFloor_0.2.2.2.2.2.2.2.1
theorem dX9_isNewFloor_18 : decode cX9_isNewFloor 18 = .ok (.getfield 122, 3) := da9_dX9_isNewFloor_0.2.2.2.2.2.2.2.2.1
theorem dX9_isNewFloor_21 : decode cX9_isNewFloor 21 = .ok (.iload_n 1, 1) := da9_dX9_isNewFloor_0.2.2.2.2.2.2.2.2.2.1
theorem dX9_isNewFloor_22 : decode cX9_isNewFloor 22 = .ok (.invokevirtual 125, 3) := da9_dX9_isNewFloor_0.2.2.2.2.2.2.2.2.2.2.1
theorem dX9_isNewFloor_25 : decode cX9_isNewFloor 25 = .ok (.ifCond .ne 7, 3) := da9_dX9_isNewFloor_0.2.2.2.2.2.2.2.2.2.2.2.1
theorem dX9_isNewFloor_28 : decode cX9_isNewFloor 28 = .ok (.iconst 1, 1) := da9_dX9_isNewFloor_0.2.2.2.2.2.2.2.2.2.2.2.2.1
theorem dX9_isNewFloor_29 : decode cX9_isNewFloor 29 = .ok (.goto 4, 3) := da9_dX9_isNewFloor_0.2.2.2.2.2.2.2.2.2.2.2.2.2.1
theorem dX9_isNewFloor_32 : decode cX9_isNewFloor 32 = .ok (.iconst 0, 1) := da9_dX9_isNewFloor_0.2.2.2.2.2.2.2.2.2.2.2.2.2.2.1
theorem dX9_isNewFloor_33 : decode cX9_isNewFloor 33 = .ok (.ireturn, 1) := da9_dX9_isNewFloor_0.2.2.2.2.2.2.2.2.2.2.2.2.2.2.2
theorem da9_dX9_mostOfTerm_0 : (decode cX9_mostOfTerm 0 = .ok (.iload_n 0, 1)) ∧ (decode cX9_mostOfTerm 1 = .ok (.tableswitch 43 0 3 #[31, 35, 38, 41], 31)) ∧ (decode cX9_mostOfTerm 32 = .ok (.sipush 999, 3)) ∧ (decode cX9_mostOfTerm 35 = .ok (.ireturn, 1)) ∧ (decode cX9_mostOfTerm 36 = .ok (.bipush 10, 2)) ∧ (decode cX9_mostOfTerm 38 = .ok (.ireturn, 1)) ∧ (decode cX9_mostOfTerm 39 = .ok (.bipush 9, 2)) ∧ (decode cX9_mostOfTerm 41 = .ok (.ireturn, 1)) ∧ (decode cX9_mostOfTerm 42 = .ok (.iconst 1, 1)) ∧ (decode cX9_mostOfTerm 43 = .ok (.ireturn, 1)) ∧ (decode cX9_mostOfTerm 44 = .ok (.iconst (-1), 1)) ∧ (decode cX9_mostOfTerm 45 = .ok (.ireturn, 1)) := by decide +kernel
theorem dX9_mostOfTerm_0 : decode cX9_mostOfTerm 0 = .ok (.iload_n 0, 1) := da9_dX9_mostOfTerm_0.1
theorem dX9_mostOfTerm_1 : decode cX9_mostOfTerm 1 = .ok (.tableswitch 43 0 3 #[31, 35, 38, 41], 31) := da9_dX9_mostOfTerm_0.2.1
theorem dX9_mostOfTerm_32 : decode cX9_mostOfTerm 32 = .ok (.sipush 999, 3) := da9_dX9_mostOfTerm_0.2.2.1
theorem dX9_mostOfTerm_35 : decode cX9_mostOfTerm 35 = .ok (.ireturn, 1) := da9_dX9_mostOfTerm_0.2.2.2.1
theorem dX9_mostOfTerm_36 : decode cX9_mostOfTerm 36 = .ok (.bipush 10, 2) := da9_dX9_mostOfTerm_0.2.2.2.2.1
theorem dX9_mostOfTerm_38 : decode cX9_mostOfTerm 38 = .ok (.ireturn, 1) := da9_dX9_mostOfTerm_0.2.2.2.2.2.1
theorem dX9_mostOfTerm_39 : decode cX9_mostOfTerm 39 = .ok (.bipush 9, 2) := da9_dX9_mostOfTerm_0.2.2.2.2.2.2.1
theorem dX9_mostOfTerm_41 : decode cX9_mostOfTerm 41 = .ok (.ireturn, 1) := da9_dX9_mostOfTerm_0.2.2.2.2.2.2.2.1
theorem dX9_mostOfTerm_42 : decode cX9_mostOfTerm 42 = .ok (.iconst 1, 1) := da9_dX9_mostOfTerm_0.2.2.2.2.2.2.2.2.1
theorem dX9_mostOfTerm_43 : decode cX9_mostOfTerm 43 = .ok (.ireturn, 1) := da9_dX9_mostOfTerm_0.2.2.2.2.2.2.2.2.2.1
theorem dX9_mostOfTerm_44 : decode cX9_mostOfTerm 44 = .ok (.iconst (-1), 1) := da9_dX9_mostOfTerm_0.2.2.2.2.2.2.2.2.2.2.1
theorem dX9_mostOfTerm_45 : decode cX9_mostOfTerm 45 = .ok (.ireturn, 1) := da9_dX9_mostOfTerm_0.2.2.2.2.2.2.2.2.2.2.2
end
