theorem da9_dX10_init_0 : (decode cX10_init 0 = .ok (.aload_n 0, 1)) ∧ (decode cX10_init 1 = .ok (.invokespecial 22, 3)) ∧ (decode cX10_init 4 = .ok (.aload_n 0, 1)) ∧ (decode cX10_init 5 = .ok (.bipush 7, 2)) ∧ (decode cX10_init 7 = .ok (.newarray .int, 2)) ∧ (decode cX10_init 9 = .ok (.putfield 7, 3)) ∧ (decode cX10_init 12 = .ok (.aload_n 0, 1)) ∧ (decode cX10_init 13 = .ok (.sipush 5640, 3)) ∧ (decode cX10_init 16 = .ok (.newarray .int, 2)) ∧ (decode cX10_init 18 = .ok (.putfield 28, 3)) ∧ (decode cX10_init 21 = .ok (.aload_n 0, 1)) ∧ (decode cX10_init 22 = .ok (.sipush 11280, 3)) ∧ (decode cX10_init 25 = .ok (.newarray .int, 2)) ∧ (decode cX10_init 27 = .ok (.putfield 31, 3)) ∧ (decode cX10_init 30 = .ok (.aload_n 0, 1)) ∧ (decode cX10_init 31 = .ok (.iconst 2, 1)) := by decide +kernel
theorem dX10_init_0 : decode cX10_init 0 = .ok (.aload_n 0, 1) := da9_dX10_init_0.1
theorem dX10_init_1 : decode cX10_init 1 = .ok (.invokespecial 22, 3) := da9_dX10_init_0.2.1
theorem dX10_init_4 : decode cX10_init 4 = .ok (.aload_n 0, 1) := da9_dX10_init_0.2.2.1
theorem dX10_init_5 : decode cX10_init 5 = .ok (.bipush 7, 2) := da9_dX10_init_0.2.2.2.1
theorem dX10_init_7 : decode cX10_init 7 = .ok (.newarray .int, 2) := da9_dX10_init_0.2.2.2.2.1
theorem dX10_init_9 : decode cX10_init 9 = .ok (.putfield 7, 3) := da9_dX10_init_0.2.2.2.2.2.1
theorem dX10_init_12 : decode cX10_init 12 = .ok (.aload_n 0, 1) := da9_dX10_init_0.2.2.2.2.2.2.1
theorem dX10_init_13 : decode cX10_init 13 = .ok (.sipush 5640, 3) := da9_dX10_init_0.2.2.2.2.2.2.2.1
theorem dX10_init_16 : decode cX10_init 16 = .ok (.newarray .int, 2) := da9_dX10_init_0.2.2.2.2.2.2.2.2.1
theorem dX10_init_18 : decode cX10_init 18 = .ok (.putfield 28, 3) := da9_dX10_init_0.2.2.2.2.2.2.2.2.2.1
theorem dX10_init_21 : decode cX10_init 21 = .ok (.aload_n 0, 1) := da9_dX10_init_0.2.2.2.2.2.2.2.2.2.2.1
theorem dX10_init_22 : decode cX10_init 22 = .ok (.sipush 11280, 3) := da9_dX10_init_0.2.2.2.2.2.2.2.2.2.2.2.1
theorem dX10_init_25 : decode cX10_init 25 = .ok (.newarray .int, 2) := da9_dX10_init_0.2.2.2.2.2.2.2.2.2.2.2.2.1
theorem dX10_init_27 : decode cX10_init 27 = .ok (.putfield 31, 3) := da9_dX10_init_0.2.2.2.2.2.2.2.2.2.2.2.2.2.1
theorem dX10_init_30 : decode cX10_init 30 = .ok (.aload_n 0, 1) := da9_dX10_init_0.2.2.2.2.2.2.2.2.2.2.2.2.2.2.1
theorem dX10_init_31 : decode cX10_init 31 = .ok (.iconst 2, 1) := da9_dX10_init_0.2.2.2.2.2.2.2.2.2.2.2.2.2.2.2
theorem da9_dX10_init_32 : (decode cX10_init 32 = .ok (.newarray .boolean, 2)) ∧ (decode cX10_init 34 = .ok (.putfield 34, 3)) ∧ (decode cX10_init 37 = .ok (.aload_n 0, 1)) ∧ (decode cX10_init 38 = .ok (.bipush 28, 2)) ∧ (decode cX10_init 40 = .ok (.newarray .int, 2)) ∧ (decode cX10_init 42 = .ok (.putfield 38, 3)) ∧ (decode cX10_init 45 = .ok (.aload_n 0, 1)) ∧ (decode cX10_init 46 = .ok (.sipush 128, 3)) ∧ (decode cX10_init 49 = .ok (.newarray .byte, 2)) ∧ (decode cX10_init 51 = .ok (.dup, 1)) ∧ (decode cX10_init 52 = .ok (.iconst 0, 1)) ∧ (decode cX10_init 53 = .ok (.bipush 112, 2)) ∧ (decode cX10_init 55 = .ok (.bastore, 1)) ∧ (decode cX10_init 56 = .ok (.dup, 1)) ∧ (decode cX10_init 57 = .ok (.iconst 1, 1)) ∧ (decode cX10_init 58 = .ok (.bipush 97, 2)) := by decide +kernel
theorem dX10_init_32 : decode cX10_init 32 = .ok (.newarray .boolean, 2) := da9_dX10_init_32.1
theorem dX10_init_34 : decode cX10_init 34 = .ok (.putfield 34, 3) := da9_dX10_init_32.2.1
theorem dX10_init_37 : decode cX10_init 37 = .ok (.aload_n 0, 1) := da9_dX10_init_32.2.2.1
theorem dX10_init_38 : decode cX10_init 38 = .ok (.bipush 28, 2) := da9_dX10_init_32.2.2.2.1
theorem dX10_init_40 : decode cX10_init 40 = .ok (.newarray .int, 2) := da9_dX10_init_32.2.2.2.2.1
theorem dX10_init_42 : decode cX10_init 42 = .ok (.putfield 38, 3) := da9_dX10_init_32.2.2.2.2.2.1
theorem dX10_init_45 : decode cX10_init 45 = .ok (.aload_n 0, 1) := da9_dX10_init_32.2.2.2.2.2.2.1
theorem dX10_init_46 : decode cX10_init 46 = .ok (.sipush 128, 3) := da9_dX10_init_32.2.2.2.2.2.2.2.1
theorem dX10_init_49 : decode cX10_init 49 = .ok (.newarray .byte, 2) := da9_dX10_init_32.2.2.2.2.2.2.2.2.1
theorem dX10_init_51 : decode cX10_init 51 = .ok (.dup, 1) := da9_dX10_init_32.2.2.2.2.2.2.2.2.2.1
theorem dX10_init_52 : decode cX10_init 52 = .ok (.iconst 0, 1) := da9_dX10_init_32.2.2.2.2.2.2.2.2.2.2.1
theorem dX10_init_53 : decode cX10_init 53 = .ok (.bipush 112, 2) := da9_dX10_init_32.2.2.2.2.2.2.2.2.2.2.2.1
theorem dX10_init_55 : decode cX10_init 55 = .ok (.bastore, 1) := da9_dX10_init_32.2.2.2.2.2.2.2.2.2.2.2.2.1
theorem dX10_init_56 : decode cX10_init 56 = .ok (.dup, 1) := da9_dX10_init_32.2.2.2.2.2.2.2.2.2.2.2.2.2.1
theorem dX10_init_57 : decode cX10_init 57 = .ok (.iconst 1, 1) := da9_dX10_init_32.2.2.2.2.2.2.2.2.2.2.2.2.2.2.1
theorem dX10_init_58 : decode cX10_init 58 = .ok (.bipush 97, 2) := da9_dX10_init_32.2.2.2.2.2.2.2.2.2.2.2.2.2.2.2
theorem da9_dX10_init_60 : (decode cX10_init 60 = .ok (.bastore, 1)) ∧ (decode cX10_init 61 = .ok (.dup, 1)) ∧ (decode cX10_init 62 = .ok (.iconst 2, 1)) ∧ (decode cX10_init 63 = .ok (.bipush 121, 2)) ∧ (decode cX10_init 65 = .ok (.bastore, 1)) ∧ (decode cX10_init 66 = .ok (.dup, 1)) ∧ (decode cX10_init 67 = .ok (.iconst 3, 1)) ∧ (decode cX10_init 68 = .ok (.bipush 115, 2)) ∧ (decode cX10_init 70 = .ok (.bastore, 1)) ∧ (decode cX10_init 71 = .ok (.dup, 1)) ∧ (decode cX10_init 72 = .ok (.iconst 4, 1)) ∧ (decode cX10_init 73 = .ok (.bipush 32, 2)) ∧ (decode cX10_init 75 = .ok (.bastore, 1)) ∧ (decode cX10_init 76 = .ok (.dup, 1)) ∧ (decode cX10_init 77 = .ok (.iconst 5, 1)) ∧ (decode cX10_init 78 = .ok (.bipush 98, 2)) := by decide +kernel
theorem dX10_init_60 : decode cX10_init 60 = .ok (.bastore, 1) := da9_dX10_init_60.1
theorem dX10_init_61 : decode cX10_init 61 = .ok (.dup, 1) := da9_dX10_init_60.2.1
theorem dX10_init_62 : decode cX10_init 62 = .ok (.iconst 2, 1) := da9_dX10_init_60.2.2.1
theorem dX10_init_63 : decode cX10_init 63 = .ok (.bipush 121, 2) := da9_dX10_init_60.2.2.2.1
theorem dX10_init_65 : decode cX10_init 65 = .ok (.bastore, 1) := da9_dX10_init_60.2.2.2.2.1
theorem dX10_init_66 : decode cX10_init 66 = .ok (.dup, 1) := da9_dX10_init_60.2.2.2.2.2.1
theorem dX10_init_67 : decode cX10_init 67 = .ok (.iconst 3, 1) := da9_dX10_init_60.2.2.2.2.2.2.1
theorem dX10_init_68 : decode cX10_init 68 = .ok (.bipush 115, 2) := da9_dX10_init_60.2.2.2.2.2.2.2.1
theorem dX10_init_70 : decode cX10_init 70 = .ok (.bastore, 1) := da9_dX10_init_60.2.2.2.2.2.2.2.2.1
theorem dX10_init_71 : decode cX10_init 71 = .ok (.dup, 1) := da9_dX10_init_60.2.2.2.2.2.2.2.2.2.1
theorem dX10_init_72 : decode cX10_init 72 = .ok (.iconst 4, 1) := da9_dX10_init_60.2.2.2.2.2.2.2.2.2.2.1
theorem dX10_init_73 : decode cX10_init 73 = .ok (.bipush 32, 2) := da9_dX10_init_60.2.2.2.2.2.2.2.2.2.2.2.1
theorem dX10_init_75 : decode cX10_init 75 = .ok (.bastore, 1) := da9_dX10_init_60.2.2.2.2.2.2.2.2.2.2.2.2.1
theorem dX10_init_76 : decode cX10_init 76 = .ok (.dup, 1) := da9_dX10_init_60.2.2.2.2.2.2.2.2.2.2.2.2.2.1
theorem dX10_init_77 : decode cX10_init 77 = .ok (.iconst 5, 1) := da9_dX10_init_60.2.2.2.2.2.2.2.2.2.2.2.2.2.2.1
theorem dX10_init_78 : decode cX10_init 78 = .ok (.bipush 98, 2) := da9_dX10_init_60.2.2.2.2.2.2.2.2.2.2.2.2.2.2.2
theorem da9_dX10_init_80 : (decode cX10_init 80 = .ok (.bastore, 1)) ∧ (decode cX10_init 81 = .ok (.dup, 1)) ∧ (decode cX10_init 82 = .ok (.bipush 6, 2)) ∧ (decode cX10_init 84 = .ok (.bipush 97, 2)) ∧ (decode cX10_init 86 = .ok (.bastore, 1)) ∧ (decode cX10_init 87 = .ok (.dup, 1)) ∧ (decode cX10_init 88 = .ok (.bipush 7, 2)) ∧ (decode cX10_init 90 = .ok (.bipush 114, 2)) ∧ (decode cX10_init 92 = .ok (.bastore, 1)) ∧ (decode cX10_init 93 = .ok (.dup, 1)) ∧ (decode cX10_init 94 = .ok (.bipush 8, 2)) ∧ (decode cX10_init 96 = .ok (.bipush 115, 2)) ∧ (decode cX10_init 98 = .ok (.bastore, 1)) ∧ (decode cX10_init 99 = .ok (.dup, 1)) ∧ (decode cX10_init 100 = .ok (.bipush 9, 2)) ∧ (decode cX10_init 102 = .ok (.bipush 32, 2)) := by decide +kernel
theorem dX10_init_80 : decode cX10_init 80 = .ok (.bastore, 1) := da9_dX10_init_80.1
theorem dX10_init_81 : decode cX10_init 81 = .ok (.dup, 1) := da9_dX10_init_80.2.1
theorem dX10_init_82 : decode cX10_init 82 = .ok (.bipush 6, 2) := da9_dX10_init_80.2.2.1
theorem dX10_init_84 : decode cX10_init 84 = .ok (.bipush 97, 2) := da9_dX10_init_80.2.2.2.1
theorem dX10_init_86 : decode cX10_init 86 = .ok (.bastore, 1) := da9_dX10_init_80.2.2.2.2.1
theorem dX10_init_87 : decode cX10_init 87 = .ok (.dup, 1) := da9_dX10_init_80.2.2.2.2.2.1
theorem dX10_init_88 : decode cX10_init 88 = .ok (.bipush 7, 2) := da9_dX10_init_80.2.2.2.2.2.2.1
theorem dX10_init_90 : decode cX10_init 90 = .ok (.bipush 114, 2) := da9_dX10_init_80.2.2.2.2.2.2.2.1
theorem dX10_init_92 : decode cX10_init 92 = .ok (.bastore, 1) := da9_dX10_init_80.2.2.2.2.2.2.2.2.1
theorem dX10_init_93 : decode cX10_init 93 = .ok (.dup, 1) := da9_dX10_init_80.2.2.2.2.2.2.2.2.2.1
theorem dX10_init_94 : decode cX10_init 94 = .ok (.bipush 8, 2) := da9_dX10_init_80.2.2.2.2.2.2.2.2.2.2.1
theorem dX10_init_96 : decode cX10_init 96 = .ok (.bipush 115, 2) := da9_dX10_init_80.2.2.2.2.2.2.2.2.2.2.2.1
theorem dX10_init_98 : decode cX10_init 98 = .ok (.bastore, 1) := da9_dX10_init_80.2.2.2.2.2.2.2.2.2.2.2.2.1
theorem dX10_init_99 : decode cX10_init 99 = .ok (.dup, 1) := da9_dX10_init_80.2.2.2.2.2.2.2.2.2.2.2.2.2.1
theorem dX10_init_100 : decode cX10_init 100 = .ok (.bipush 9, 2) := da9_dX10_init_80.2.2.2.2.2.2.2.2.2.2.2.2.2.2.1
theorem dX10_init_102 : decode cX10_init 102 = .ok (.bipush 32, 2) := da9_dX10_init_80.2.2.2.2.2.2.2.2.2.2.2.2.2.2.2
theorem da9_dX10_init_104 : (decode cX10_init 104 = .ok (.bastore, 1)) ∧ (decode cX10_init 105 = .ok (.dup, 1)) ∧ (decode cX10_init 106 = .ok (.bipush 10, 2)) ∧ (decode cX10_init 108 = .ok (.bipush 116, 2)) ∧ (decode cX10_init 110 = .ok (.bastore, 1)) ∧ (decode cX10_init 111 = .ok (.dup, 1)) ∧ (decode cX10_init 112 = .ok (.bipush 11, 2)) ∧ (decode cX10_init 114 = .ok (.bipush 105, 2)) ∧ (decode cX10_init 116 = .ok (.bastore, 1)) ∧ (decode cX10_init 117 = .ok (.dup, 1)) ∧ (decode cX10_init 118 = .ok (.bipush 12, 2)) ∧ (decode cX10_init 120 = .ok (.bipush 112, 2)) ∧ (decode cX10_init 122 = .ok (.bastore, 1)) ∧ (decode cX10_init 123 = .ok (.dup, 1)) ∧ (decode cX10_init 124 = .ok (.bipush 13, 2)) ∧ (decode cX10_init 126 = .ok (.bipush 115, 2)) := by decide +kernel
theorem dX10_init_104 : decode cX10_init 104 = .ok (.bastore, 1) := da9_dX10_init_104.1
theorem dX10_init_105 : decode cX10_init 105 = .ok (.dup, 1) := da9_dX10_init_104.2.1
theorem dX10_init_106 : decode cX10_init 106 = .ok (.bipush 10, 2) := da9_dX10_init_104.2.2.1
theorem dX10_init_108 : decode cX10_init 108 = .ok (.bipush 116, 2) := da9_dX10_init_104.2.2.2.1
theorem dX10_init_110 : decode cX10_init 110 = .ok (.bastore, 1) := da9_dX10_init_104.2.2.2.2.1
theorem dX10_init_111 : decode cX10_init 111 = .ok (.dup, 1) := da9_dX10_init_104.2.2.2.2.2.1
theorem dX10_init_112 : decode cX10_init 112 = .ok (.bipush 11, 2) := da9_dX10_init_104.2.2.2.2.2.2.1
theorem dX10_init_114 : decode cX10_init 114 = .ok (.bipush 105, 2) := da9_dX10_init_104.2.2.2.2.2.2.2.1
theorem dX10_init_116 : decode cX10_init 116 = .ok (.bastore, 1) := da9_dX10_init_104.2.2.2.2.2.2.2.2.1
theorem dX10_init_117 : decode cX10_init 117 = .ok (.dup, 1) := da9_dX10_init_104.2.2.2.2.2.2.2.2.2.1
theorem dX10_init_118 : decode cX10_init 118 = .ok (.bipush 12, 2) := da9_dX10_init_104.2.2.2.2.2.2.2.2.2.2.1
theorem dX10_init_120 : decode cX10_init 120 = .ok (.bipush 112, 2) := da9_dX10_init_104.2.2.2.2.2.2.2.2.2.2.2.1
theorem dX10_init_122 : decode cX10_init 122 = .ok (.bastore, 1) := da9_dX10_init_104.2.2.2.2.2.2.2.2.2.2.2.2.1
theorem dX10_init_123 : decode cX10_init 123 = .ok (.dup, 1) := da9_dX10_init_104.2.2.2.2.2.2.2.2.2.2.2.2.2.1
theorem dX10_init_124 : decode cX10_init 124 = .ok (.bipush 13, 2) := da9_dX10_init_104.2.2.2.2.2.2.2.2.2.2.2.2.2.2.1
theorem dX10_init_126 : decode cX10_init 126 = .ok (.bipush 115, 2) := da9_dX10_init_104.2.2.2.2.2.2.2.2.2.2.2.2.2.2.2
theorem da9_dX10_init_128 : (decode cX10_init 128 = .ok (.bastore, 1)) ∧ (decode cX10_init 129 = .ok (.dup, 1)) ∧ (decode cX10_init 130 = .ok (.bipush 14, 2)) ∧ (decode cX10_init 132 = .ok (.bipush 32, 2)) ∧ (decode cX10_init 134 = .ok (.bastore, 1)) ∧ (decode cX10_init 135 = .ok (.dup, 1)) ∧ (decode cX10_init 136 = .ok (.bipush 15, 2)) ∧ (decode cX10_init 138 = .ok (.bipush 105, 2)) ∧ (decode cX10_init 140 = .ok (.bastore, 1)) ∧ (decode cX10_init 141 = .ok (.dup, 1)) ∧ (decode cX10_init 142 = .ok (.bipush 16, 2)) ∧ (decode cX10_init 144 = .ok (.bipush 102, 2)) ∧ (decode cX10_init 146 = .ok (.bastore, 1)) ∧ (decode cX10_init 147 = .ok (.dup, 1)) ∧ (decode cX10_init 148 = .ok (.bipush 17, 2)) ∧ (decode cX10_init 150 = .ok (.bipush 32, 2)) := by decide +kernel
theorem dX10_init_128 : decode cX10_init 128 = .ok (.bastore, 1) := da9_dX10_init_128.1
theorem dX10_init_129 : decode cX10_init 129 = .ok (.dup, 1) := da9_dX10_init_128.2.1
theorem dX10_init_130 : decode cX10_init 130 = .ok (.bipush 14, 2) := da9_dX10_init_128.2.2.1
theorem dX10_init_132 : decode cX10_init 132 = .ok (.bipush 32, 2) := da9_dX10_init_128.2.2.2.1
theorem dX10_init_134 : decode cX10_init 134 = .ok (.bastore, 1) := da9_dX10_init_128.2.2.2.2.1
theorem dX10_init_135 : decode cX10_init 135 = .ok (.dup, 1) := da9_dX10_init_128.2.2.2.2.2.1
theorem dX10_init_136 : decode cX10_init 136 = .ok (.bipush 15, 2) := da9_dX10_init_128.2.2.2.2.2.2.1
theorem dX10_init_138 : decode cX10_init 138 = .ok (.bipush 105, 2) := da9_dX10_init_128.2.2.2.2.2.2.2.1
theorem dX10_init_140 : decode cX10_init 140 = .ok (.bastore, 1) := da9_dX10_init_128.2.2.2.2.2.2.2.2.1
theorem dX10_init_141 : decode cX10_init 141 = .ok (.dup, 1) := da9_dX10_init_128.2.2.2.2.2.2.2.2.2.1
theorem dX10_init_142 : decode cX10_init 142 = .ok (.bipush 16, 2) := da9_dX10_init_128.2.2.2.2.2.2.2.2.2.2.1
theorem dX10_init_144 : decode cX10_init 144 = .ok (.bipush 102, 2) := da9_dX10_init_128.2.2.2.2.2.2.2.2.2.2.2.1
theorem dX10_init_146 : decode cX10_init 146 = .ok (.bastore, 1) := da9_dX10_init_128.2.2.2.2.2.2.2.2.2.2.2.2.1
theorem dX10_init_147 : decode cX10_init 147 = .ok (.dup, 1) := da9_dX10_init_128.2.2.2.2.2.2.2.2.2.2.2.2.2.1
theorem dX10_init_148 : decode cX10_init 148 = .ok (.bipush 17, 2) := da9_dX10_init_128.2.2.2.2.2.2.2.2.2.2.2.2.2.2.1
theorem dX10_init_150 : decode cX10_init 150 = .ok (.bipush 32, 2) := da9_dX10_init_128.2.2.2.2.2.2.2.2.2.2.2.2.2.2.2
theorem da9_dX10_init_152 : (decode cX10_init 152 = .ok (.bastore, 1)) ∧ (decode cX10_init 153 = .ok (.dup, 1)) ∧ (decode cX10_init 154 = .ok (.bipush 18, 2)) ∧ (decode cX10_init 156 = .ok (.bipush 111, 2)) ∧ (decode cX10_init 158 = .ok (.bastore, 1)) ∧ (decode cX10_init 159 = .ok (.dup, 1)) ∧ (decode cX10_init 160 = .ok (.bipush 19, 2)) ∧ (decode cX10_init 162 = .ok (.bipush 114, 2)) ∧ (decode cX10_init 164 = .ok (.bastore, 1)) ∧ (decode cX10_init 165 = .ok (.dup, 1)) ∧ (decode cX10_init 166 = .ok (.bipush 20, 2)) ∧ (decode cX10_init 168 = .ok (.bipush 32, 2)) ∧ (decode cX10_init 170 = .ok (.bastore, 1)) ∧ (decode cX10_init 171 = .ok (.dup, 1)) ∧ (decode cX10_init 172 = .ok (.bipush 21, 2)) ∧ (decode cX10_init 174 = .ok (.bipush 97, 2)) := by decide +kernel
theorem dX10_init_152 : decode cX10_init 152 = .ok (.bastore, 1) := da9_dX10_init_152.1
theorem dX10_init_153 : decode cX10_init 153 = .ok (.dup, 1) := da9_dX10_init_152.2.1
theorem dX10_init_154 : decode cX10_init 154 = .ok (.bipush 18, 2) := da9_dX10_init_152.2.2.1
theorem dX10_init_156 : decode cX10_init 156 = .ok (.bipush 111, 2) := da9_dX10_init_152.2.2.2.1
theorem dX10_init_158 : decode cX10_init 158 = .ok (.bastore, 1) := da9_dX10_init_152.2.2.2.2.1
theorem dX10_init_159 : decode cX10_init 159 = .ok (.dup, 1) := da9_dX10_init_152.2.2.2.2.2.1
theorem dX10_init_160 : decode cX10_init 160 = .ok (.bipush 19, 2) := da9_dX10_init_152.2.2.2.2.2.2.1
theorem dX10_init_162 : decode cX10_init 162 = .ok (.bipush 114, 2) := da9_dX10_init_152.2.2.2.2.2.2.2.1
theorem dX10_init_164 : decode cX10_init 164 = .ok (.bastore, 1) := da9_dX10_init_152.2.2.2.2.2.2.2.2.1
theorem dX10_init_165 : decode cX10_init 165 = .ok (.dup, 1) := da9_dX10_init_152.2.2.2.2.2.2.2.2.2.1
theorem dX10_init_166 : decode cX10_init 166 = .ok (.bipush 20, 2) := da9_dX10_init_152.2.2.2.2.2.2.2.2.2.2.1
theorem dX10_init_168 : decode cX10_init 168 = .ok (.bipush 32, 2) := da9_dX10_init_152.2.2.2.2.2.2.2.2.2.2.2.1
theorem dX10_init_170 : decode cX10_init 170 = .ok (.bastore, 1) := da9_dX10_init_152.2.2.2.2.2.2.2.2.2.2.2.2.1
theorem dX10_init_171 : decode cX10_init 171 = .ok (.dup, 1) := da9_dX10_init_152.2.2.2.2.2.2.2.2.2.2.2.2.2.1
theorem dX10_init_172 : decode cX10_init 172 = .ok (.bipush 21, 2) := da9_dX10_init_152.2.2.2.2.2.2.2.2.2.2.2.2.2.2.1
theorem dX10_init_174 : decode cX10_init 174 = .ok (.bipush 97, 2) := da9_dX10_init_152.2.2.2.2.2.2.2.2.2.2.2.2.2.2.2
theorem da9_dX10_init_176 : (decode cX10_init 176 = .ok (.bastore, 1)) ∧ (decode cX10_init 177 = .ok (.dup, 1)) ∧ (decode cX10_init 178 = .ok (.bipush 22, 2)) ∧ (decode cX10_init 180 = .ok (.bipush 110, 2)) ∧ (decode cX10_init 182 = .ok (.bastore, 1)) ∧ (decode cX10_init 183 = .ok (.dup, 1)) ∧ (decode cX10_init 184 = .ok (.bipush 23, 2)) ∧ (decode cX10_init 186 = .ok (.bipush 100, 2)) ∧ (decode cX10_init 188 = .ok (.bastore, 1)) ∧ (decode cX10_init 189 = .ok (.dup, 1)) ∧ (decode cX10_init 190 = .ok (.bipush 24, 2)) ∧ (decode cX10_init 192 = .ok (.bipush 32, 2)) ∧ (decode cX10_init 194 = .ok (.bastore, 1)) ∧ (decode cX10_init 195 = .ok (.dup, 1)) ∧ (decode cX10_init 196 = .ok (.bipush 25, 2)) ∧ (decode cX10_init 198 = .ok (.bipush 110, 2)) := by decide +kernel
theorem dX10_init_176 : decode cX10_init 176 = .ok (.bastore, 1) := da9_dX10_init_176.1
theorem dX10_init_177 : decode cX10_init 177 = .ok (.dup, 1) := da9_dX10_init_176.2.1
theorem dX10_init_178 : decode cX10_init 178 = .ok (.bipush 22, 2) := da9_dX10_init_176.2.2.1
theorem dX10_init_180 : decode cX10_init 180 = .ok (.bipush 110, 2) := da9_dX10_init_176.2.2.2.1
theorem dX10_init_182 : decode cX10_init 182 = .ok (.bastore, 1) := da9_dX10_init_176.2.2.2.2.1
theorem dX10_init_183 : decode cX10_init 183 = .ok (.dup, 1) := da9_dX10_init_176.2.2.2.2.2.1
theorem dX10_init_184 : decode cX10_init 184 = .ok (.bipush 23, 2) := da9_dX10_init_176.2.2.2.2.2.2.1
theorem dX10_init_186 : decode cX10_init 186 = .ok (.bipush 100, 2) := da9_dX10_init_176.2.2.2.2.2.2.2.1
theorem dX10_init_188 : decode cX10_init 188 = .ok (.bastore, 1) := da9_dX10_init_176.2.2.2.2.2.2.2.2.1
theorem dX10_init_189 : decode cX10_init 189 = .ok (.dup, 1) := da9_dX10_init_176.2.2.2.2.2.2.2.2.2.1
theorem dX10_init_190 : decode cX10_init 190 = .ok (.bipush 24, 2) := da9_dX10_init_176.2.2.2.2.2.2.2.2.2.2.1
theorem dX10_init_192 : decode cX10_init 192 = .ok (.bipush 32, 2) := da9_dX10_init_176.2.2.2.2.2.2.2.2.2.2.2.1
theorem dX10_init_194 : decode cX10_init 194 = .ok (.bastore, 1) := da9_dX10_init_176.2.2.2.2.2.2.2.2.2.2.2.2.1
theorem dX10_init_195 : decode cX10_init 195 = .ok (.dup, 1) := da9_dX10_init_176.2.2.2.2.2.2.2.2.2.2.2.2.2.1
theorem dX10_init_196 : decode cX10_init 196 = .ok (.bipush 25, 2) := da9_dX10_init_176.2.2.2.2.2.2.2.2.2.2.2.2.2.2.1
theorem dX10_init_198 : decode cX10_init 198 = .ok (.bipush 110, 2) := da9_dX10_init_176.2.2.2.2.2.2.2.2.2.2.2.2.2.2.2
theorem da9_dX10_init_200 : (decode cX10_init 200 = .ok (.bastore, 1)) ∧ (decode cX10_init 201 = .ok (.dup, 1)) ∧ (decode cX10_init 202 = .ok (.bipush 26, 2)) ∧ (decode cX10_init 204 = .ok (.bipush 111, 2)) ∧ (decode cX10_init 206 = .ok (.bastore, 1)) ∧ (decode cX10_init 207 = .ok (.dup, 1)) ∧ (decode cX10_init 208 = .ok (.bipush 27, 2)) ∧ (decode cX10_init 210 = .ok (.bipush 116, 2)) ∧ (decode cX10_init 212 = .ok (.bastore, 1)) ∧ (decode cX10_init 213 = .ok (.dup, 1)) ∧ (decode cX10_init 214 = .ok (.bipush 28, 2)) ∧ (decode cX10_init 216 = .ok (.bipush 32, 2)) ∧ (decode cX10_init 218 = .ok (.bastore, 1)) ∧ (decode cX10_init 219 = .ok (.dup, 1)) ∧ (decode cX10_init 220 = .ok (.bipush 29, 2)) ∧ (decode cX10_init 222 = .ok (.bipush 103, 2)) := by decide +kernel
theorem dX10_init_200 : decode cX10_init 200 = .ok (.bastore, 1) := da9_dX10_init_200.1
theorem dX10_init_201 : decode cX10_init 201 = .ok (.dup, 1) := da9_dX10_init_200.2.1
theorem dX10_init_202 : decode cX10_init 202 = .ok (.bipush 26, 2) := da9_dX10_init_200.2.2.1
theorem dX10_init_204 : decode cX10_init 204 = .ok (.bipush 111, 2) := da9_dX10_init_200.2.2.2.1
theorem dX10_init_206 : decode cX10_init 206 = .ok (.bastore, 1) := da9_dX10_init_200.2.2.2.2.1
theorem dX10_init_207 : decode cX10_init 207 = .ok (.dup, 1) := da9_dX10_init_200.2.2.2.2.2.1
theorem dX10_init_208 : decode cX10_init 208 = .ok (.bipush 27, 2) := da9_dX10_init_200.2.2.2.2.2.2.1
theorem dX10_init_210 : decode cX10_init 210 = .ok (.bipush 116, 2) := da9_dX10_init_200.2.2.2.2.2.2.2.1
theorem dX10_init_212 : decode cX10_init 212 = .ok (.bastore, 1) := da9_dX10_init_200.2.2.2.2.2.2.2.2.1
theorem dX10_init_213 : decode cX10_init 213 = .ok (.dup, 1) := da9_dX10_init_200.2.2.2.2.2.2.2.2.2.1
theorem dX10_init_214 : decode cX10_init 214 = .ok (.bipush 28, 2) := da9_dX10_init_200.2.2.2.2.2.2.2.2.2.2.1
theorem dX10_init_216 : decode cX10_init 216 = .ok (.bipush 32, 2) := da9_dX10_init_200.2.2.2.2.2.2.2.2.2.2.2.1
theorem dX10_init_218 : decode cX10_init 218 = .ok (.bastore, 1) := da9_dX10_init_200.2.2.2.2.2.2.2.2.2.2.2.2.1
theorem dX10_init_219 : decode cX10_init 219 = .ok (.dup, 1) := da9_dX10_init_200.2.2.2.2.2.2.2.2.2.2.2.2.2.1
theorem dX10_init_220 : decode cX10_init 220 = .ok (.bipush 29, 2) := da9_dX10_init_200.2.2.2.2.2.2.2.2.2.2.2.2.2.2.1
theorem dX10_init_222 : decode cX10_init 222 = .ok (.bipush 103, 2) := da9_dX10_init_200.2.2.2.2.2.2.2.2.2.2.2.2.2.2.2
theorem da9_dX10_init_224 : (decode cX10_init 224 = .ok (.bastore, 1)) ∧ (decode cX10_init 225 = .ok (.dup, 1)) ∧ (decode cX10_init 226 = .ok (.bipush 30, 2)) ∧ (decode cX10_init 228 = .ok (.bipush 114, 2)) ∧ (decode cX10_init 230 = .ok (.bastore, 1)) ∧ (decode cX10_init 231 = .ok (.dup, 1)) ∧ (decode cX10_init 232 = .ok (.bipush 31, 2)) ∧ (decode cX10_init 234 = .ok (.bipush 105, 2)) ∧ (decode cX10_init 236 = .ok (.bastore, 1)) ∧ (decode cX10_init 237 = .ok (.dup, 1)) ∧ (decode cX10_init 238 = .ok (.bipush 32, 2)) ∧ (decode cX10_init 240 = .ok (.bipush 112, 2)) ∧ (decode cX10_init 242 = .ok (.bastore, 1)) ∧ (decode cX10_init 243 = .ok (.dup, 1)) ∧ (decode cX10_init 244 = .ok (.bipush 33, 2)) ∧ (decode cX10_init 246 = .ok (.bipush 32, 2)) := by decide +kernel
theorem dX10_init_224 : decode cX10_init 224 = .ok (.bastore, 1) := da9_dX10_init_224.1
theorem dX10_init_225 : decode cX10_init 225 = .ok (.dup, 1) := da9_dX10_init_224.2.1
theorem dX10_init_226 : decode cX10_init 226 = .ok (.bipush 30, 2) := da9_dX10_init_224.2.2.1
theorem dX10_init_228 : decode cX10_init 228 = .ok (.bipush 114, 2) := da9_dX10_init_224.2.2.2.1
theorem dX10_init_230 : decode cX10_init 230 = .ok (.bastore, 1) := da9_dX10_init_224.2.2.2.2.1
theorem dX10_init_231 : decode cX10_init 231 = .ok (.dup, 1) := da9_dX10_init_224.2.2.2.2.2.1
theorem dX10_init_232 : decode cX10_init 232 = .ok (.bipush 31, 2) := da9_dX10_init_224.2.2.2.2.2.2.1
theorem dX10_init_234 : decode cX10_init 234 = .ok (.bipush 105, 2) := da9_dX10_init_224.2.2.2.2.2.2.2.1
theorem dX10_init_236 : decode cX10_init 236 = .ok (.bastore, 1) := da9_dX10_init_224.2.2.2.2.2.2.2.2.1
theorem dX10_init_237 : decode cX10_init 237 = .ok (.dup, 1) := da9_dX10_init_224.2.2.2.2.2.2.2.2.2.1
theorem dX10_init_238 : decode cX10_init 238 = .ok (.bipush 32, 2) := da9_dX10_init_224.2.2.2.2.2.2.2.2.2.2.1
theorem dX10_init_240 : decode cX10_init 240 = .ok (.bipush 112, 2) := da9_dX10_init_224.2.2.2.2.2.2.2.2.2.2.2.1
theorem dX10_init_242 : decode cX10_init 242 = .ok (.bastore, 1) := da9_dX10_init_224.2.2.2.2.2.2.2.2.2.2.2.2.1
theorem dX10_init_243 : decode cX10_init 243 = .ok (.dup, 1) := da9_dX10_init_224.2.2.2.2.2.2.2.2.2.2.2.2.2.1
theorem dX10_init_244 : decode cX10_init 244 = .ok (.bipush 33, 2) := da9_dX10_init_224.2.2.2.2.2.2.2.2.2.2.2.2.2.2.1
theorem dX10_init_246 : decode cX10_init 246 = .ok (.bipush 32, 2) := da9_dX10_init_224.2.2.2.2.2.2.2.2.2.2.2.2.2.2.2
theorem da9_dX10_init_248 : (decode cX10_init 248 = .ok (.bastore, 1)) ∧ (decode cX10_init 249 = .ok (.dup, 1)) ∧ (decode cX10_init 250 = .ok (.bipush 34, 2)) ∧ (decode cX10_init 252 = .ok (.bipush 116, 2)) ∧ (decode cX10_init 254 = .ok (.bastore, 1)) ∧ (decode cX10_init 255 = .ok (.dup, 1)) ∧ (decode cX10_init 256 = .ok (.bipush 35, 2)) ∧ (decode cX10_init 258 = .ok (.bipush 111, 2)) ∧ (decode cX10_init 260 = .ok (.bastore, 1)) ∧ (decode cX10_init 261 = .ok (.dup, 1)) ∧ (decode cX10_init 262 = .ok (.bipush 36, 2)) ∧ (decode cX10_init 264 = .ok (.bipush 112, 2)) ∧ (decode cX10_init 266 = .ok (.bastore, 1)) ∧ (decode cX10_init 267 = .ok (.dup, 1)) ∧ (decode cX10_init 268 = .ok (.bipush 37, 2)) ∧ (decode cX10_init 270 = .ok (.bipush 32, 2)) := by decide +kernel
theorem dX10_init_248 : decode cX10_init 248 = .ok (.bastore, 1) := da9_dX10_init_248.1
theorem dX10_init_249 : decode cX10_init 249 = .ok (.dup, 1) := da9_dX10_init_248.2.1
theorem dX10_init_250 : decode cX10_init 250 = .ok (.bipush 34, 2) := da9_dX10_init_248.2.2.1
theorem dX10_init_252 : decode cX10_init 252 = .ok (.bipush 116, 2) := da9_dX10_init_248.2.2.2.1
theorem dX10_init_254 : decode cX10_init 254 = .ok (.bastore, 1) := da9_dX10_init_248.2.2.2.2.1
theorem dX10_init_255 : decode cX10_init 255 = .ok (.dup, 1) := da9_dX10_init_248.2.2.2.2.2.1
theorem dX10_init_256 : decode cX10_init 256 = .ok (.bipush 35, 2) := da9_dX10_init_248.2.2.2.2.2.2.1
theorem dX10_init_258 : decode cX10_init 258 = .ok (.bipush 111, 2) := da9_dX10_init_248.2.2.2.2.2.2.2.1
theorem dX10_init_260 : decode cX10_init 260 = .ok (.bastore, 1) := da9_dX10_init_248.2.2.2.2.2.2.2.2.1
theorem dX10_init_261 : decode cX10_init 261 = .ok (.dup, 1) := da9_dX10_init_248.2.2.2.2.2.2.2.2.2.1
theorem dX10_init_262 : decode cX10_init 262 = .ok (.bipush 36, 2) := da9_dX10_init_248.2.2.2.2.2.2.2.2.2.2.1
theorem dX10_init_264 : decode cX10_init 264 = .ok (.bipush 112, 2) := da9_dX10_init_248.2.2.2.2.2.2.2.2.2.2.2.1
theorem dX10_init_266 : decode cX10_init 266 = .ok (.bastore, 1) := da9_dX10_init_248.2.2.2.2.2.2.2.2.2.2.2.2.1
theorem dX10_init_267 : decode cX10_init 267 = .ok (.dup, 1) := da9_dX10_init_248.2.2.2.2.2.2.2.2.2.2.2.2.2.1
theorem dX10_init_268 : decode cX10_init 268 = .ok (.bipush 37, 2) := da9_dX10_init_248.2.2.2.2.2.2.2.2.2.2.2.2.2.2.1
theorem dX10_init_270 : decode cX10_init 270 = .ok (.bipush 32, 2) := da9_dX10_init_248.2.2.2.2.2.2.2.2.2.2.2.2.2.2.2
theorem da9_dX10_init_272 : (decode cX10_init 272 = .ok (.bastore, 1)) ∧ (decode cX10_init 273 = .ok (.dup, 1)) ∧ (decode cX10_init 274 = .ok (.bipush 38, 2)) ∧ (decode cX10_init 276 = .ok (.bipush 110, 2)) ∧ (decode cX10_init 278 = .ok (.bastore, 1)) ∧ (decode cX10_init 279 = .ok (.dup, 1)) ∧ (decode cX10_init 280 = .ok (.bipush 39, 2)) ∧ (decode cX10_init 282 = .ok (.bipush 101, 2)) ∧ (decode cX10_init 284 = .ok (.bastore, 1)) ∧ (decode cX10_init 285 = .ok (.dup, 1)) ∧ (decode cX10_init 286 = .ok (.bipush 40, 2)) ∧ (decode cX10_init 288 = .ok (.bipush 120, 2)) ∧ (decode cX10_init 290 = .ok (.bastore, 1)) ∧ (decode cX10_init 291 = .ok (.dup, 1)) ∧ (decode cX10_init 292 = .ok (.bipush 41, 2)) ∧ (decode cX10_init 294 = .ok (.bipush 116, 2)) := by decide +kernel
theorem dX10_init_272 : decode cX10_init 272 = .ok (.bastore, 1) := da9_dX10_init_272.1
theorem dX10_init_273 : decode cX10_init 273 = .ok (.dup, 1) := da9_dX10_init_272.2.1
theorem dX10_init_274 : decode cX10_init 274 = .ok (.bipush 38, 2) := da9_dX10_init_272.2.2.1
theorem dX10_init_276 : decode cX10_init 276 = .ok (.bipush 110, 2) := da9_dX10_init_272.2.2.2.1
theorem dX10_init_278 : decode cX10_init 278 = .ok (.bastore, 1) := da9_dX10_init_272.2.2.2.2.1
theorem dX10_init_279 : decode cX10_init 279 = .ok (.dup, 1) := da9_dX10_init_272.2.2.2.2.2.1
theorem dX10_init_280 : decode cX10_init 280 = .ok (.bipush 39, 2) := da9_dX10_init_272.2.2.2.2.2.2.1
theorem dX10_init_282 : decode cX10_init 282 = .ok (.bipush 101, 2) := da9_dX10_init_272.2.2.2.2.2.2.2.1
theorem dX10_init_284 : decode cX10_init 284 = .ok (.bastore, 1) := da9_dX10_init_272.2.2.2.2.2.2.2.2.1
theorem dX10_init_285 : decode cX10_init 285 = .ok (.dup, 1) := da9_dX10_init_272.2.2.2.2.2.2.2.2.2.1
theorem dX10_init_286 : decode cX10_init 286 = .ok (.bipush 40, 2) := da9_dX10_init_272.2.2.2.2.2.2.2.2.2.2.1
theorem dX10_init_288 : decode cX10_init 288 = .ok (.bipush 120, 2) := da9_dX10_init_272.2.2.2.2.2.2.2.2.2.2.2.1
theorem dX10_init_290 : decode cX10_init 290 = .ok (.bastore, 1) := da9_dX10_init_272.2.2.2.2.2.2.2.2.2.2.2.2.1
theorem dX10_init_291 : decode cX10_init 291 = .ok (.dup, 1) := da9_dX10_init_272.2.2.2.2.2.2.2.2.2.2.2.2.2.1
theorem dX10_init_292 : decode cX10_init 292 = .ok (.bipush 41, 2) := da9_dX10_init_272.2.2.2.2.2.2.2.2.2.2.2.2.2.2.1
theorem dX10_init_294 : decode cX10_init 294 = .ok (.bipush 116, 2) := da9_dX10_init_272.2.2.2.2.2.2.2.2.2.2.2.2.2.2.2
theorem da9_dX10_init_296 : (decode cX10_init 296 = .ok (.bastore, 1)) ∧ (decode cX10_init 297 = .ok (.dup, 1)) ∧ (decode cX10_init 298 = .ok (.bipush 42, 2)) ∧ (decode cX10_init 300 = .ok (.bipush 32, 2)) ∧ (decode cX10_init 302 = .ok (.bastore, 1)) ∧ (decode cX10_init 303 = .ok (.dup, 1)) ∧ (decode cX10_init 304 = .ok (.bipush 43, 2)) ∧ (decode cX10_init 306 = .ok (.bipush 102, 2)) ∧ (decode cX10_init 308 = .ok (.bastore, 1)) ∧ (decode cX10_init 309 = .ok (.dup, 1)) ∧ (decode cX10_init 310 = .ok (.bipush 44, 2)) ∧ (decode cX10_init 312 = .ok (.bipush 108, 2)) ∧ (decode cX10_init 314 = .ok (.bastore, 1)) ∧ (decode cX10_init 315 = .ok (.dup, 1)) ∧ (decode cX10_init 316 = .ok (.bipush 45, 2)) ∧ (decode cX10_init 318 = .ok (.bipush 111, 2)) := by decide +kernel
theorem dX10_init_296 : decode cX10_init 296 = .ok (.bastore, 1) := da9_dX10_init_296.1
theorem dX10_init_297 : decode cX10_init 297 = .ok (.dup, 1) := da9_dX10_init_296.2.1
theorem dX10_init_298 : decode cX10_init 298 = .ok (.bipush 42, 2) := da9_dX10_init_296.2.2.1
theorem dX10_init_300 : decode cX10_init 300 = .ok (.bipush 32, 2) := da9_dX10_init_296.2.2.2.1
theorem dX10_init_302 : decode cX10_init 302 = .ok (.bastore, 1) := da9_dX10_init_296.2.2.2.2.1
theorem dX10_init_303 : decode cX10_init 303 = .ok (.dup, 1) := da9_dX10_init_296.2.2.2.2.2.1
theorem dX10_init_304 : decode cX10_init 304 = .ok (.bipush 43, 2) := da9_dX10_init_296.2.2.2.2.2.2.1
theorem dX10_init_306 : decode cX10_init 306 = .ok (.bipush 102, 2) := da9_dX10_init_296.2.2.2.2.2.2.2.1
theorem dX10_init_308 : decode cX10_init 308 = .ok (.bastore, 1) := da9_dX10_init_296.2.2.2.2.2.2.2.2.1
theorem dX10_init_309 : decode cX10_init 309 = .ok (.dup, 1) := da9_dX10_init_296.2.2.2.2.2.2.2.2.2.1
theorem dX10_init_310 : decode cX10_init 310 = .ok (.bipush 44, 2) := da9_dX10_init_296.2.2.2.2.2.2.2.2.2.2.1
theorem dX10_init_312 : decode cX10_init 312 = .ok (.bipush 108, 2) := da9_dX10_init_296.2.2.2.2.2.2.2.2.2.2.2.1
theorem dX10_init_314 : decode cX10_init 314 = .ok (.bastore, 1) := da9_dX10_init_296.2.2.2.2.2.2.2.2.2.2.2.2.1
theorem dX10_init_315 : decode cX10_init 315 = .ok (.dup, 1) := da9_dX10_init_296.2.2.2.2.2.2.2.2.2.2.2.2.2.1
theorem dX10_init_316 : decode cX10_init 316 = .ok (.bipush 45, 2) := da9_dX10_init_296.2.2.2.2.2.2.2.2.2.2.2.2.2.2.1
theorem dX10_init_318 : decode cX10_init 318 = .ok (.bipush 111, 2) := da9_dX10_init_296.2.2.2.2.2.2.2.2.2.2.2.2.2.2.2
theorem da9_dX10_init_320 : (decode cX10_init 320 = .ok (.bastore, 1)) ∧ (decode cX10_init 321 = .ok (.dup, 1)) ∧ (decode cX10_init 322 = .ok (.bipush 46, 2)) ∧ (decode cX10_init 324 = .ok (.bipush 111, 2)) ∧ (decode cX10_init 326 = .ok (.bastore, 1)) ∧ (decode cX10_init 327 = .ok (.dup, 1)) ∧ (decode cX10_init 328 = .ok (.bipush 47, 2)) ∧ (decode cX10_init 330 = .ok (.bipush 114, 2)) ∧ (decode cX10_init 332 = .ok (.bastore, 1)) ∧ (decode cX10_init 333 = .ok (.dup, 1)) ∧ (decode cX10_init 334 = .ok (.bipush 48, 2)) ∧ (decode cX10_init 336 = .ok (.bipush 115, 2)) ∧ (decode cX10_init 338 = .ok (.bastore, 1)) ∧ (decode cX10_init 339 = .ok (.dup, 1)) ∧ (decode cX10_init 340 = .ok (.bipush 49, 2)) ∧ (decode cX10_init 342 = .ok (.bipush 32, 2)) := by decide +kernel
theorem dX10_init_320 : decode cX10_init 320 = .ok (.bastore, 1) := da9_dX10_init_320.1
theorem dX10_init_321 : decode cX10_init 321 = .ok (.dup, 1) := da9_dX10_init_320.2.1
theorem dX10_init_322 : decode cX10_init 322 = .ok (.bipush 46, 2) := da9_dX10_init_320.2.2.1
theorem dX10_init_324 : decode cX10_init 324 = .ok (.bipush 111, 2) := da9_dX10_init_320.2.2.2.1
theorem dX10_init_326 : decode cX10_init 326 = .ok (.bastore, 1) := da9_dX10_init_320.2.2.2.2.1
theorem dX10_init_327 : decode cX10_init 327 = .ok (.dup, 1) := da9_dX10_init_320.2.2.2.2.2.1
theorem dX10_init_328 : decode cX10_init 328 = .ok (.bipush 47, 2) := da9_dX10_init_320.2.2.2.2.2.2.1
theorem dX10_init_330 : decode cX10_init 330 = .ok (.bipush 114, 2) := da9_dX10_init_320.2.2.2.2.2.2.2.1
theorem dX10_init_332 : decode cX10_init 332 = .ok (.bastore, 1) := da9_dX10_init_320.2.2.2.2.2.2.2.2.1
theorem dX10_init_333 : decode cX10_init 333 = .ok (.dup, 1) := da9_dX10_init_320.2.2.2.2.2.2.2.2.2.1
theorem dX10_init_334 : decode cX10_init 334 = .ok (.bipush 48, 2) := da9_dX10_init_320.2.2.2.2.2.2.2.2.2.2.1
theorem dX10_init_336 : decode cX10_init 336 = .ok (.bipush 115, 2) := da9_dX10_init_320.2.2.2.2.2.2.2.2.2.2.2.1
theorem dX10_init_338 : decode cX10_init 338 = .ok (.bastore, 1) := da9_dX10_init_320.2.2.2.2.2.2.2.2.2.2.2.2.1
theorem dX10_init_339 : decode cX10_init 339 = .ok (.dup, 1) := da9_dX10_init_320.2.2.2.2.2.2.2.2.2.2.2.2.2.1
theorem dX10_init_340 : decode cX10_init 340 = .ok (.bipush 49, 2) := da9_dX10_init_320.2.2.2.2.2.2.2.2.2.2.2.2.2.2.1
theorem dX10_init_342 : decode cX10_init 342 = .ok (.bipush 32, 2) := da9_dX10_init_320.2.2.2.2.2.2.2.2.2.2.2.2.2.2.2
theorem da9_dX10_init_344 : (decode cX10_init 344 = .ok (.bastore, 1)) ∧ (decode cX10_init 345 = .ok (.dup, 1)) ∧ (decode cX10_init 346 = .ok (.bipush 50, 2)) ∧ (decode cX10_init 348 = .ok (.bipush 114, 2)) ∧ (decode cX10_init 350 = .ok (.bastore, 1)) ∧ (decode cX10_init 351 = .ok (.dup, 1)) ∧ (decode cX10_init 352 = .ok (.bipush 51, 2)) ∧ (decode cX10_init 354 = .ok (.bipush 97, 2)) ∧ (decode cX10_init 356 = .ok (.bastore, 1)) ∧ (decode cX10_init 357 = .ok (.dup, 1)) ∧ (decode cX10_init 358 = .ok (.bipush 52, 2)) ∧ (decode cX10_init 360 = .ok (.bipush 110, 2)) ∧ (decode cX10_init 362 = .ok (.bastore, 1)) ∧ (decode cX10_init 363 = .ok (.dup, 1)) ∧ (decode cX10_init 364 = .ok (.bipush 53, 2)) ∧ (decode cX10_init 366 = .ok (.bipush 107, 2)) := by decide +kernel
theorem dX10_init_344 : decode cX10_init 344 = .ok (.bastore, 1) := da9_dX10_init_344.1
theorem dX10_init_345 : decode cX10_init 345 = .ok (.dup, 1) := da9_dX10_init_344.2.1
theorem dX10_init_346 : decode cX10_init 346 = .ok (.bipush 50, 2) := da9_dX10_init_344.2.2.1
theorem dX10_init_348 : decode cX10_init 348 = .ok (.bipush 114, 2) := da9_dX10_init_344.2.2.2.1
theorem dX10_init_350 : decode cX10_init 350 = .ok (.bastore, 1) := da9_dX10_init_344.2.2.2.2.1
theorem dX10_init_351 : decode cX10_init 351 = .ok (.dup, 1) := da9_dX10_init_344.2.2.2.2.2.1
theorem dX10_init_352 : decode cX10_init 352 = .ok (.bipush 51, 2) := da9_dX10_init_344.2.2.2.2.2.2.1
theorem dX10_init_354 : decode cX10_init 354 = .ok (.bipush 97, 2) := da9_dX10_init_344.2.2.2.2.2.2.2.1
theorem dX10_init_356 : decode cX10_init 356 = .ok (.bastore, 1) := da9_dX10_init_344.2.2.2.2.2.2.2.2.1
theorem dX10_init_357 : decode cX10_init 357 = .ok (.dup, 1) := da9_dX10_init_344.2.2.2.2.2.2.2.2.2.1
theorem dX10_init_358 : decode cX10_init 358 = .ok (.bipush 52, 2) := da9_dX10_init_344.2.2.2.2.2.2.2.2.2.2.1
theorem dX10_init_360 : decode cX10_init 360 = .ok (.bipush 110, 2) := da9_dX10_init_344.2.2.2.2.2.2.2.2.2.2.2.1
theorem dX10_init_362 : decode cX10_init 362 = .ok (.bastore, 1) := da9_dX10_init_344.2.2.2.2.2.2.2.2.2.2.2.2.1
theorem dX10_init_363 : decode cX10_init 363 = .ok (.dup, 1) := da9_dX10_init_344.2.2.2.2.2.2.2.2.2.2.2.2.2.1
theorem dX10_init_364 : decode cX10_init 364 = .ok (.bipush 53, 2) := da9_dX10_init_344.2.2.2.2.2.2.2.2.2.2.2.2.2.2.1
theorem dX10_init_366 : decode cX10_init 366 = .ok (.bipush 107, 2) := da9_dX10_init_344.2.2.2.2.2.2.2.2.2.2.2.2.2.2.2
theorem da9_dX10_init_368 : (decode cX10_init 368 = .ok (.bastore, 1)) ∧ (decode cX10_init 369 = .ok (.dup, 1)) ∧ (decode cX10_init 370 = .ok (.bipush 54, 2)) ∧ (decode cX10_init 372 = .ok (.bipush 32, 2)) ∧ (decode cX10_init 374 = .ok (.bastore, 1)) ∧ (decode cX10_init 375 = .ok (.dup, 1)) ∧ (decode cX10_init 376 = .ok (.bipush 55, 2)) ∧ (decode cX10_init 378 = .ok (.bipush 112, 2)) ∧ (decode cX10_init 380 = .ok (.bastore, 1)) ∧ (decode cX10_init 381 = .ok (.dup, 1)) ∧ (decode cX10_init 382 = .ok (.bipush 56, 2)) ∧ (decode cX10_init 384 = .ok (.bipush 108, 2)) ∧ (decode cX10_init 386 = .ok (.bastore, 1)) ∧ (decode cX10_init 387 = .ok (.dup, 1)) ∧ (decode cX10_init 388 = .ok (.bipush 57, 2)) ∧ (decode cX10_init 390 = .ok (.bipush 97, 2)) := by decide +kernel
theorem dX10_init_368 : decode cX10_init 368 = .ok (.bastore, 1) := da9_dX10_init_368.1
theorem dX10_init_369 : decode cX10_init 369 = .ok (.dup, 1) := da9_dX10_init_368.2.1
theorem dX10_init_370 : decode cX10_init 370 = .ok (.bipush 54, 2) := da9_dX10_init_368.2.2.1
theorem dX10_init_372 : decode cX10_init 372 = .ok (.bipush 32, 2) := da9_dX10_init_368.2.2.2.1
theorem dX10_init_374 : decode cX10_init 374 = .ok (.bastore, 1) := da9_dX10_init_368.2.2.2.2.1
theorem dX10_init_375 : decode cX10_init 375 = .ok (.dup, 1) := da9_dX10_init_368.2.2.2.2.2.1
theorem dX10_init_376 : decode cX10_init 376 = .ok (.bipush 55, 2) := da9_dX10_init_368.2.2.2.2.2.2.1
theorem dX10_init_378 : decode cX10_init 378 = .ok (.bipush 112, 2) := da9_dX10_init_368.2.2.2.2.2.2.2.1
theorem dX10_init_380 : decode cX10_init 380 = .ok (.bastore, 1) := da9_dX10_init_368.2.2.2.2.2.2.2.2.1
theorem dX10_init_381 : decode cX10_init 381 = .ok (.dup, 1) := da9_dX10_init_368.2.2.2.2.2.2.2.2.2.1
theorem dX10_init_382 : decode cX10_init 382 = .ok (.bipush 56, 2) := da9_dX10_init_368.2.2.2.2.2.2.2.2.2.2.1
theorem dX10_init_384 : decode cX10_init 384 = .ok (.bipush 108, 2) := da9_dX10_init_368.2.2.2.2.2.2.2.2.2.2.2.1
theorem dX10_init_386 : decode cX10_init 386 = .ok (.bastore, 1) := da9_dX10_init_368.2.2.2.2.2.2.2.2.2.2.2.2.1
theorem dX10_init_387 : decode cX10_init 387 = .ok (.dup, 1) := da9_dX10_init_368.2.2.2.2.2.2.2.2.2.2.2.2.2.1
theorem dX10_init_388 : decode cX10_init 388 = .ok (.bipush 57, 2) := da9_dX10_init_368.2.2.2.2.2.2.2.2.2.2.2.2.2.2.1
theorem dX10_init_390 : decode cX10_init 390 = .ok (.bipush 97, 2) := da9_dX10_init_368.2.2.2.2.2.2.2.2.2.2.2.2.2.2.2
theorem da9_dX10_init_392 : (decode cX10_init 392 = .ok (.bastore, 1)) ∧ (decode cX10_init 393 = .ok (.dup, 1)) ∧ (decode cX10_init 394 = .ok (.bipush 58, 2)) ∧ (decode cX10_init 396 = .ok (.bipush 99, 2)) ∧ (decode cX10_init 398 = .ok (.bastore, 1)) ∧ (decode cX10_init 399 = .ok (.dup, 1)) ∧ (decode cX10_init 400 = .ok (.bipush 59, 2)) ∧ (decode cX10_init 402 = .ok (.bipush 101, 2)) ∧ (decode cX10_init 404 = .ok (.bastore, 1)) ∧ (decode cX10_init 405 = .ok (.dup, 1)) ∧ (decode cX10_init 406 = .ok (.bipush 60, 2)) ∧ (decode cX10_init 408 = .ok (.bipush 32, 2)) ∧ (decode cX10_init 410 = .ok (.bastore, 1)) ∧ (decode cX10_init 411 = .ok (.dup, 1)) ∧ (decode cX10_init 412 = .ok (.bipush 61, 2)) ∧ (decode cX10_init 414 = .ok (.bipush 109, 2)) := by decide +kernel
theorem dX10_init_392 : decode cX10_init 392 = .ok (.bastore, 1) := da9_dX10_init_392.1
theorem dX10_init_393 : decode cX10_init 393 = .ok (.dup, 1) := da9_dX10_init_392.2.1
theorem dX10_init_394 : decode cX10_init 394 = .ok (.bipush 58, 2) := da9_dX10_init_392.2.2.1
theorem dX10_init_396 : decode cX10_init 396 = .ok (.bipush 99, 2) := da9_dX10_init_392.2.2.2.1
theorem dX10_init_398 : decode cX10_init 398 = .ok (.bastore, 1) := da9_dX10_init_392.2.2.2.2.1
theorem dX10_init_399 : decode cX10_init 399 = .ok (.dup, 1) := da9_dX10_init_392.2.2.2.2.2.1
theorem dX10_init_400 : decode cX10_init 400 = .ok (.bipush 59, 2) := da9_dX10_init_392.2.2.2.2.2.2.1
theorem dX10_init_402 : decode cX10_init 402 = .ok (.bipush 101, 2) := da9_dX10_init_392.2.2.2.2.2.2.2.1
theorem dX10_init_404 : decode cX10_init 404 = .ok (.bastore, 1) := da9_dX10_init_392.2.2.2.2.2.2.2.2.1
theorem dX10_init_405 : decode cX10_init 405 = .ok (.dup, 1) := da9_dX10_init_392.2.2.2.2.2.2.2.2.2.1
theorem dX10_init_406 : decode cX10_init 406 = .ok (.bipush 60, 2) := da9_dX10_init_392.2.2.2.2.2.2.2.2.2.2.1
theorem dX10_init_408 : decode cX10_init 408 = .ok (.bipush 32, 2) := da9_dX10_init_392.2.2.2.2.2.2.2.2.2.2.2.1
theorem dX10_init_410 : decode cX10_init 410 = .ok (.bastore, 1) := da9_dX10_init_392.2.2.2.2.2.2.2.2.2.2.2.2.1
theorem dX10_init_411 : decode cX10_init 411 = .ok (.dup, 1) := da9_dX10_init_392.2.2.2.2.2.2.2.2.2.2.2.2.2.1
theorem dX10_init_412 : decode cX10_init 412 = .ok (.bipush 61, 2) := da9_dX10_init_392.2.2.2.2.2.2.2.2.2.2.2.2.2.2.1
theorem dX10_init_414 : decode cX10_init 414 = .ok (.bipush 109, 2) := da9_dX10_init_392.2.2.2.2.2.2.2.2.2.2.2.2.2.2.2
theorem da9_dX10_init_416 : (decode cX10_init 416 = .ok (.bastore, 1)) ∧ (decode cX10_init 417 = .ok (.dup, 1)) ∧ (decode cX10_init 418 = .ok (.bipush 62, 2)) ∧ (decode cX10_init 420 = .ok (.bipush 111, 2)) ∧ (decode cX10_init 422 = .ok (.bastore, 1)) ∧ (decode cX10_init 423 = .ok (.dup, 1)) ∧ (decode cX10_init 424 = .ok (.bipush 63, 2)) ∧ (decode cX10_init 426 = .ok (.bipush 111, 2)) ∧ (decode cX10_init 428 = .ok (.bastore, 1)) ∧ (decode cX10_init 429 = .ok (.dup, 1)) ∧ (decode cX10_init 430 = .ok (.bipush 64, 2)) ∧ (decode cX10_init 432 = .ok (.bipush 100, 2)) ∧ (decode cX10_init 434 = .ok (.bastore, 1)) ∧ (decode cX10_init 435 = .ok (.dup, 1)) ∧ (decode cX10_init 436 = .ok (.bipush 65, 2)) ∧ (decode cX10_init 438 = .ok (.bipush 32, 2)) := by decide +kernel
theorem dX10_init_416 : decode cX10_init 416 = .ok (.bastore, 1) := da9_dX10_init_416.1
theorem dX10_init_417 : decode cX10_init 417 = .ok (.dup, 1) := da9_dX10_init_416.2.1
theorem dX10_init_418 : decode cX10_init 418 = .ok (.bipush 62, 2) := da9_dX10_init_416.2.2.1
theorem dX10_init_420 : decode cX10_init 420 = .ok (.bipush 111, 2) := da9_dX10_init_416.2.2.2.1
theorem dX10_init_422 : decode cX10_init 422 = .ok (.bastore, 1) := da9_dX10_init_416.2.2.2.2.1
theorem dX10_init_423 : decode cX10_init 423 = .ok (.dup, 1) := da9_dX10_init_416.2.2.2.2.2.1
theorem dX10_init_424 : decode cX10_init 424 = .ok (.bipush 63, 2) := da9_dX10_init_416.2.2.2.2.2.2.1
theorem dX10_init_426 : decode cX10_init 426 = .ok (.bipush 111, 2) := da9_dX10_init_416.2.2.2.2.2.2.2.1
theorem dX10_init_428 : decode cX10_init 428 = .ok (.bastore, 1) := da9_dX10_init_416.2.2.2.2.2.2.2.2.1
theorem dX10_init_429 : decode cX10_init 429 = .ok (.dup, 1) := da9_dX10_init_416.2.2.2.2.2.2.2.2.2.1
theorem dX10_init_430 : decode cX10_init 430 = .ok (.bipush 64, 2) := da9_dX10_init_416.2.2.2.2.2.2.2.2.2.2.1
theorem dX10_init_432 : decode cX10_init 432 = .ok (.bipush 100, 2) := da9_dX10_init_416.2.2.2.2.2.2.2.2.2.2.2.1
theorem dX10_init_434 : decode cX10_init 434 = .ok (.bastore, 1) := da9_dX10_init_416.2.2.2.2.2.2.2.2.2.2.2.2.1
theorem dX10_init_435 : decode cX10_init 435 = .ok (.dup, 1) := da9_dX10_init_416.2.2.2.2.2.2.2.2.2.2.2.2.2.1
theorem dX10_init_436 : decode cX10_init 436 = .ok (.bipush 65, 2) := da9_dX10_init_416.2.2.2.2.2.2.2.2.2.2.2.2.2.2.1
theorem dX10_init_438 : decode cX10_init 438 = .ok (.bipush 32, 2) := da9_dX10_init_416.2.2.2.2.2.2.2.2.2.2.2.2.2.2.2
theorem da9_dX10_init_440 : (decode cX10_init 440 = .ok (.bastore, 1)) ∧ (decode cX10_init 441 = .ok (.dup, 1)) ∧ (decode cX10_init 442 = .ok (.bipush 66, 2)) ∧ (decode cX10_init 444 = .ok (.bipush 104, 2)) ∧ (decode cX10_init 446 = .ok (.bastore, 1)) ∧ (decode cX10_init 447 = .ok (.dup, 1)) ∧ (decode cX10_init 448 = .ok (.bipush 67, 2)) ∧ (decode cX10_init 450 = .ok (.bipush 101, 2)) ∧ (decode cX10_init 452 = .ok (.bastore, 1)) ∧ (decode cX10_init 453 = .ok (.dup, 1)) ∧ (decode cX10_init 454 = .ok (.bipush 68, 2)) ∧ (decode cX10_init 456 = .ok (.bipush 97, 2)) ∧ (decode cX10_init 458 = .ok (.bastore, 1)) ∧ (decode cX10_init 459 = .ok (.dup, 1)) ∧ (decode cX10_init 460 = .ok (.bipush 69, 2)) ∧ (decode cX10_init 462 = .ok (.bipush 100, 2)) := by decide +kernel
theorem dX10_init_440 : decode cX10_init 440 = .ok (.bastore, 1) := da9_dX10_init_440.1
theorem dX10_init_441 : decode cX10_init 441 = .ok (.dup, 1) := da9_dX10_init_440.2.1
theorem dX10_init_442 : decode cX10_init 442 = .ok (.bipush 66, 2) := da9_dX10_init_440.2.2.1
theorem dX10_init_444 : decode cX10_init 444 = .ok (.bipush 104, 2) := da9_dX10_init_440.2.2.2.1
theorem dX10_init_446 : decode cX10_init 446 = .ok (.bastore, 1) := da9_dX10_init_440.2.2.2.2.1
theorem dX10_init_447 : decode cX10_init 447 = .ok (.dup, 1) := da9_dX10_init_440.2.2.2.2.2.1
theorem dX10_init_448 : decode cX10_init 448 = .ok (.bipush 67, 2) := da9_dX10_init_440.2.2.2.2.2.2.1
theorem dX10_init_450 : decode cX10_init 450 = .ok (.bipush 101, 2) := da9_dX10_init_440.2.2.2.2.2.2.2.1
theorem dX10_init_452 : decode cX10_init 452 = .ok (.bastore, 1) := da9_dX10_init_440.2.2.2.2.2.2.2.2.1
theorem dX10_init_453 : decode cX10_init 453 = .ok (.dup, 1) := da9_dX10_init_440.2.2.2.2.2.2.2.2.2.1
theorem dX10_init_454 : decode cX10_init 454 = .ok (.bipush 68, 2) := da9_dX10_init_440.2.2.2.2.2.2.2.2.2.2.1
theorem dX10_init_456 : decode cX10_init 456 = .ok (.bipush 97, 2) := da9_dX10_init_440.2.2.2.2.2.2.2.2.2.2.2.1
theorem dX10_init_458 : decode cX10_init 458 = .ok (.bastore, 1) := da9_dX10_init_440.2.2.2.2.2.2.2.2.2.2.2.2.1
theorem dX10_init_459 : decode cX10_init 459 = .ok (.dup, 1) := da9_dX10_init_440.2.2.2.2.2.2.2.2.2.2.2.2.2.1
theorem dX10_init_460 : decode cX10_init 460 = .ok (.bipush 69, 2) := da9_dX10_init_440.2.2.2.2.2.2.2.2.2.2.2.2.2.2.1
theorem dX10_init_462 : decode cX10_init 462 = .ok (.bipush 100, 2) := da9_dX10_init_440.2.2.2.2.2.2.2.2.2.2.2.2.2.2.2
theorem da9_dX10_init_464 : (decode cX10_init 464 = .ok (.bastore, 1)) ∧ (decode cX10_init 465 = .ok (.dup, 1)) ∧ (decode cX10_init 466 = .ok (.bipush 70, 2)) ∧ (decode cX10_init 468 = .ok (.bipush 32, 2)) ∧ (decode cX10_init 470 = .ok (.bastore, 1)) ∧ (decode cX10_init 471 = .ok (.dup, 1)) ∧ (decode cX10_init 472 = .ok (.bipush 71, 2)) ∧ (decode cX10_init 474 = .ok (.bipush 121, 2)) ∧ (decode cX10_init 476 = .ok (.bastore, 1)) ∧ (decode cX10_init 477 = .ok (.dup, 1)) ∧ (decode cX10_init 478 = .ok (.bipush 72, 2)) ∧ (decode cX10_init 480 = .ok (.bipush 101, 2)) ∧ (decode cX10_init 482 = .ok (.bastore, 1)) ∧ (decode cX10_init 483 = .ok (.dup, 1)) ∧ (decode cX10_init 484 = .ok (.bipush 73, 2)) ∧ (decode cX10_init 486 = .ok (.bipush 97, 2)) := by decide +kernel
theorem dX10_init_464 : decode cX10_init 464 = .ok (.bastore, 1) := da9_dX10_init_464.1
theorem dX10_init_465 : decode cX10_init 465 = .ok (.dup, 1) := da9_dX10_init_464.2.1
theorem dX10_init_466 : decode cX10_init 466 = .ok (.bipush 70, 2) := da9_dX10_init_464.2.2.1
theorem dX10_init_468 : decode cX10_init 468 = .ok (.bipush 32, 2) := da9_dX10_init_464.2.2.2.1
theorem dX10_init_470 : decode cX10_init 470 = .ok (.bastore, 1) := da9_dX10_init_464.2.2.2.2.1
theorem dX10_init_471 : decode cX10_init 471 = .ok (.dup, 1) := da9_dX10_init_464.2.2.2.2.2.1
theorem dX10_init_472 : decode cX10_init 472 = .ok (.bipush 71, 2) := da9_dX10_init_464.2.2.2.2.2.2.1
theorem dX10_init_474 : decode cX10_init 474 = .ok (.bipush 121, 2) := da9_dX10_init_464.2.2.2.2.2.2.2.1
theorem dX10_init_476 : decode cX10_init 476 = .ok (.bastore, 1) := da9_dX10_init_464.2.2.2.2.2.2.2.2.1
theorem dX10_init_477 : decode cX10_init 477 = .ok (.dup, 1) := da9_dX10_init_464.2.2.2.2.2.2.2.2.2.1
theorem dX10_init_478 : decode cX10_init 478 = .ok (.bipush 72, 2) := da9_dX10_init_464.2.2.2.2.2.2.2.2.2.2.1
theorem dX10_init_480 : decode cX10_init 480 = .ok (.bipush 101, 2) := da9_dX10_init_464.2.2.2.2.2.2.2.2.2.2.2.1
theorem dX10_init_482 : decode cX10_init 482 = .ok (.bastore, 1) := da9_dX10_init_464.2.2.2.2.2.2.2.2.2.2.2.2.1
theorem dX10_init_483 : decode cX10_init 483 = .ok (.dup, 1) := da9_dX10_init_464.2.2.2.2.2.2.2.2.2.2.2.2.2.1
theorem dX10_init_484 : decode cX10_init 484 = .ok (.bipush 73, 2) := da9_dX10_init_464.2.2.2.2.2.2.2.2.2.2.2.2.2.2.1
theorem dX10_init_486 : decode cX10_init 486 = .ok (.bipush 97, 2) := da9_dX10_init_464.2.2.2.2.2.2.2.2.2.2.2.2.2.2.2
theorem da9_dX10_init_488 : (decode cX10_init 488 = .ok (.bastore, 1)) ∧ (decode cX10_init 489 = .ok (.dup, 1)) ∧ (decode cX10_init 490 = .ok (.bipush 74, 2)) ∧ (decode cX10_init 492 = .ok (.bipush 114, 2)) ∧ (decode cX10_init 494 = .ok (.bastore, 1)) ∧ (decode cX10_init 495 = .ok (.dup, 1)) ∧ (decode cX10_init 496 = .ok (.bipush 75, 2)) ∧ (decode cX10_init 498 = .ok (.bipush 32, 2)) ∧ (decode cX10_init 500 = .ok (.bastore, 1)) ∧ (decode cX10_init 501 = .ok (.dup, 1)) ∧ (decode cX10_init 502 = .ok (.bipush 76, 2)) ∧ (decode cX10_init 504 = .ok (.bipush 100, 2)) ∧ (decode cX10_init 506 = .ok (.bastore, 1)) ∧ (decode cX10_init 507 = .ok (.dup, 1)) ∧ (decode cX10_init 508 = .ok (.bipush 77, 2)) ∧ (decode cX10_init 510 = .ok (.bipush 111, 2)) := by decide +kernel
theorem dX10_init_488 : decode cX10_init 488 = .ok (.bastore, 1) := da9_dX10_init_488.1
theorem dX10_init_489 : decode cX10_init 489 = .ok (.dup, 1) := da9_dX10_init_488.2.1
theorem dX10_init_490 : decode cX10_init 490 = .ok (.bipush 74, 2) := da9_dX10_init_488.2.2.1
theorem dX10_init_492 : decode cX10_init 492 = .ok (.bipush 114, 2) := da9_dX10_init_488.2.2.2.1
theorem dX10_init_494 : decode cX10_init 494 = .ok (.bastore, 1) := da9_dX10_init_488.2.2.2.2.1
theorem dX10_init_495 : decode cX10_init 495 = .ok (.dup, 1) := da9_dX10_init_488.2.2.2.2.2.1
theorem dX10_init_496 : decode cX10_init 496 = .ok (.bipush 75, 2) := da9_dX10_init_488.2.2.2.2.2.2.1
theorem dX10_init_498 : decode cX10_init 498 = .ok (.bipush 32, 2) := da9_dX10_init_488.2.2.2.2.2.2.2.1
theorem dX10_init_500 : decode cX10_init 500 = .ok (.bastore, 1) := da9_dX10_init_488.2.2.2.2.2.2.2.2.1
theorem dX10_init_501 : decode cX10_init 501 = .ok (.dup, 1) := da9_dX10_init_488.2.2.2.2.2.2.2.2.2.1
theorem dX10_init_502 : decode cX10_init 502 = .ok (.bipush 76, 2) := da9_dX10_init_488.2.2.2.2.2.2.2.2.2.2.1
theorem dX10_init_504 : decode cX10_init 504 = .ok (.bipush 100, 2) := da9_dX10_init_488.2.2.2.2.2.2.2.2.2.2.2.1
theorem dX10_init_506 : decode cX10_init 506 = .ok (.bastore, 1) := da9_dX10_init_488.2.2.2.2.2.2.2.2.2.2.2.2.1
theorem dX10_init_507 : decode cX10_init 507 = .ok (.dup, 1) := da9_dX10_init_488.2.2.2.2.2.2.2.2.2.2.2.2.2.1
theorem dX10_init_508 : decode cX10_init 508 = .ok (.bipush 77, 2) := da9_dX10_init_488.2.2.2.2.2.2.2.2.2.2.2.2.2.2.1
theorem dX10_init_510 : decode cX10_init 510 = .ok (.bipush 111, 2) := da9_dX10_init_488.2.2.2.2.2.2.2.2.2.2.2.2.2.2.2
theorem da9_dX10_init_512 : (decode cX10_init 512 = .ok (.bastore, 1)) ∧ (decode cX10_init 513 = .ok (.dup, 1)) ∧ (decode cX10_init 514 = .ok (.bipush 78, 2)) ∧ (decode cX10_init 516 = .ok (.bipush 110, 2)) ∧ (decode cX10_init 518 = .ok (.bastore, 1)) ∧ (decode cX10_init 519 = .ok (.dup, 1)) ∧ (decode cX10_init 520 = .ok (.bipush 79, 2)) ∧ (decode cX10_init 522 = .ok (.bipush 101, 2)) ∧ (decode cX10_init 524 = .ok (.bastore, 1)) ∧ (decode cX10_init 525 = .ok (.dup, 1)) ∧ (decode cX10_init 526 = .ok (.bipush 80, 2)) ∧ (decode cX10_init 528 = .ok (.bipush 32, 2)) ∧ (decode cX10_init 530 = .ok (.bastore, 1)) ∧ (decode cX10_init 531 = .ok (.dup, 1)) ∧ (decode cX10_init 532 = .ok (.bipush 81, 2)) ∧ (decode cX10_init 534 = .ok (.bipush 108, 2)) := by decide +kernel
theorem dX10_init_512 : decode cX10_init 512 = .ok (.bastore, 1) := da9_dX10_init_512.1
theorem dX10_init_513 : decode cX10_init 513 = .ok (.dup, 1) := da9_dX10_init_512.2.1
theorem dX10_init_514 : decode cX10_init 514 = .ok (.bipush 78, 2) := da9_dX10_init_512.2.2.1
theorem dX10_init_516 : decode cX10_init 516 = .ok (.bipush 110, 2) := da9_dX10_init_512.2.2.2.1
theorem dX10_init_518 : decode cX10_init 518 = .ok (.bastore, 1) := da9_dX10_init_512.2.2.2.2.1
theorem dX10_init_519 : decode cX10_init 519 = .ok (.dup, 1) := da9_dX10_init_512.2.2.2.2.2.1
theorem dX10_init_520 : decode cX10_init 520 = .ok (.bipush 79, 2) := da9_dX10_init_512.2.2.2.2.2.2.1
theorem dX10_init_522 : decode cX10_init 522 = .ok (.bipush 101, 2) := da9_dX10_init_512.2.2.2.2.2.2.2.1
theorem dX10_init_524 : decode cX10_init 524 = .ok (.bastore, 1) := da9_dX10_init_512.2.2.2.2.2.2.2.2.1
theorem dX10_init_525 : decode cX10_init 525 = .ok (.dup, 1) := da9_dX10_init_512.2.2.2.2.2.2.2.2.2.1
theorem dX10_init_526 : decode cX10_init 526 = .ok (.bipush 80, 2) := da9_dX10_init_512.2.2.2.2.2.2.2.2.2.2.1
theorem dX10_init_528 : decode cX10_init 528 = .ok (.bipush 32, 2) := da9_dX10_init_512.2.2.2.2.2.2.2.2.2.2.2.1
theorem dX10_init_530 : decode cX10_init 530 = .ok (.bastore, 1) := da9_dX10_init_512.2.2.2.2.2.2.2.2.2.2.2.2.1
theorem dX10_init_531 : decode cX10_init 531 = .ok (.dup, 1) := da9_dX10_init_512.2.2.2.2.2.2.2.2.2.2.2.2.2.1
theorem dX10_init_532 : decode cX10_init 532 = .ok (.bipush 81, 2) := da9_dX10_init_512.2.2.2.2.2.2.2.2.2.2.2.2.2.2.1
theorem dX10_init_534 : decode cX10_init 534 = .ok (.bipush 108, 2) := da9_dX10_init_512.2.2.2.2.2.2.2.2.2.2.2.2.2.2.2
theorem da9_dX10_init_536 : (decode cX10_init 536 = .ok (.bastore, 1)) ∧ (decode cX10_init 537 = .ok (.dup, 1)) ∧ (decode cX10_init 538 = .ok (.bipush 82, 2)) ∧ (decode cX10_init 540 = .ok (.bipush 97, 2)) ∧ (decode cX10_init 542 = .ok (.bastore, 1)) ∧ (decode cX10_init 543 = .ok (.dup, 1)) ∧ (decode cX10_init 544 = .ok (.bipush 83, 2)) ∧ (decode cX10_init 546 = .ok (.bipush 116, 2)) ∧ (decode cX10_init 548 = .ok (.bastore, 1)) ∧ (decode cX10_init 549 = .ok (.dup, 1)) ∧ (decode cX10_init 550 = .ok (.bipush 84, 2)) ∧ (decode cX10_init 552 = .ok (.bipush 101, 2)) ∧ (decode cX10_init 554 = .ok (.bastore, 1)) ∧ (decode cX10_init 555 = .ok (.dup, 1)) ∧ (decode cX10_init 556 = .ok (.bipush 85, 2)) ∧ (decode cX10_init 558 = .ok (.bipush 115, 2)) := by decide +kernel
theorem dX10_init_536 : decode cX10_init 536 = .ok (.bastore, 1) := da9_dX10_init_536.1
theorem dX10_init_537 : decode cX10_init 537 = .ok (.dup, 1) := da9_dX10_init_536.2.1
theorem dX10_init_538 : decode cX10_init 538 = .ok (.bipush 82, 2) := da9_dX10_init_536.2.2.1
theorem dX10_init_540 : decode cX10_init 540 = .ok (.bipush 97, 2) := da9_dX10_init_536.2.2.2.1
theorem dX10_init_542 : decode cX10_init 542 = .ok (.bastore, 1) := da9_dX10_init_536.2.2.2.2.1
theorem dX10_init_543 : decode cX10_init 543 = .ok (.dup, 1) := da9_dX10_init_536.2.2.2.2.2.1
theorem dX10_init_544 : decode cX10_init 544 = .ok (.bipush 83, 2) := da9_dX10_init_536.2.2.2.2.2.2.1
theorem dX10_init_546 : decode cX10_init 546 = .ok (.bipush 116, 2) := da9_dX10_init_536.2.2.2.2.2.2.2.1
theorem dX10_init_548 : decode cX10_init 548 = .ok (.bastore, 1) := da9_dX10_init_536.2.2.2.2.2.2.2.2.1
theorem dX10_init_549 : decode cX10_init 549 = .ok (.dup, 1) := da9_dX10_init_536.2.2.2.2.2.2.2.2.2.1
theorem dX10_init_550 : decode cX10_init 550 = .ok (.bipush 84, 2) := da9_dX10_init_536.2.2.2.2.2.2.2.2.2.2.1
theorem dX10_init_552 : decode cX10_init 552 = .ok (.bipush 101, 2) := da9_dX10_init_536.2.2.2.2.2.2.2.2.2.2.2.1
theorem dX10_init_554 : decode cX10_init 554 = .ok (.bastore, 1) := da9_dX10_init_536.2.2.2.2.2.2.2.2.2.2.2.2.1
theorem dX10_init_555 : decode cX10_init 555 = .ok (.dup, 1) := da9_dX10_init_536.2.2.2.2.2.2.2.2.2.2.2.2.2.1
theorem dX10_init_556 : decode cX10_init 556 = .ok (.bipush 85, 2) := da9_dX10_init_536.2.2.2.2.2.2.2.2.2.2.2.2.2.2.1
theorem dX10_init_558 : decode cX10_init 558 = .ok (.bipush 115, 2) := da9_dX10_init_536.2.2.2.2.2.2.2.2.2.2.2.2.2.2.2
theorem da9_dX10_init_560 : (decode cX10_init 560 = .ok (.bastore, 1)) ∧ (decode cX10_init 561 = .ok (.dup, 1)) ∧ (decode cX10_init 562 = .ok (.bipush 86, 2)) ∧ (decode cX10_init 564 = .ok (.bipush 116, 2)) ∧ (decode cX10_init 566 = .ok (.bastore, 1)) ∧ (decode cX10_init 567 = .ok (.dup, 1)) ∧ (decode cX10_init 568 = .ok (.bipush 87, 2)) ∧ (decode cX10_init 570 = .ok (.bipush 32, 2)) ∧ (decode cX10_init 572 = .ok (.bastore, 1)) ∧ (decode cX10_init 573 = .ok (.dup, 1)) ∧ (decode cX10_init 574 = .ok (.bipush 88, 2)) ∧ (decode cX10_init 576 = .ok (.bipush 112, 2)) ∧ (decode cX10_init 578 = .ok (.bastore, 1)) ∧ (decode cX10_init 579 = .ok (.dup, 1)) ∧ (decode cX10_init 580 = .ok (.bipush 89, 2)) ∧ (decode cX10_init 582 = .ok (.bipush 97, 2)) := by decide +kernel
theorem dX10_init_560 : decode cX10_init 560 = .ok (.bastore, 1) := da9_dX10_init_560.1
theorem dX10_init_561 : decode cX10_init 561 = .ok (.dup, 1) := da9_dX10_init_560.2.1
theorem dX10_init_562 : decode cX10_init 562 = .ok (.bipush 86, 2) := da9_dX10_init_560.2.2.1
theorem dX10_init_564 : decode cX10_init 564 = .ok (.bipush 116, 2) := da9_dX10_init_560.2.2.2.1
theorem dX10_init_566 : decode cX10_init 566 = .ok (.bastore, 1) := da9_dX10_init_560.2.2.2.2.1
theorem dX10_init_567 : decode cX10_init 567 = .ok (.dup, 1) := da9_dX10_init_560.2.2.2.2.2.1
theorem dX10_init_568 : decode cX10_init 568 = .ok (.bipush 87, 2) := da9_dX10_init_560.2.2.2.2.2.2.1
theorem dX10_init_570 : decode cX10_init 570 = .ok (.bipush 32, 2) := da9_dX10_init_560.2.2.2.2.2.2.2.1
theorem dX10_init_572 : decode cX10_init 572 = .ok (.bastore, 1) := da9_dX10_init_560.2.2.2.2.2.2.2.2.1
theorem dX10_init_573 : decode cX10_init 573 = .ok (.dup, 1) := da9_dX10_init_560.2.2.2.2.2.2.2.2.2.1
theorem dX10_init_574 : decode cX10_init 574 = .ok (.bipush 88, 2) := da9_dX10_init_560.2.2.2.2.2.2.2.2.2.2.1
theorem dX10_init_576 : decode cX10_init 576 = .ok (.bipush 112, 2) := da9_dX10_init_560.2.2.2.2.2.2.2.2.2.2.2.1
theorem dX10_init_578 : decode cX10_init 578 = .ok (.bastore, 1) := da9_dX10_init_560.2.2.2.2.2.2.2.2.2.2.2.2.1
theorem dX10_init_579 : decode cX10_init 579 = .ok (.dup, 1) := da9_dX10_init_560.2.2.2.2.2.2.2.2.2.2.2.2.2.1
theorem dX10_init_580 : decode cX10_init 580 = .ok (.bipush 89, 2) := da9_dX10_init_560.2.2.2.2.2.2.2.2.2.2.2.2.2.2.1
theorem dX10_init_582 : decode cX10_init 582 = .ok (.bipush 97, 2) := da9_dX10_init_560.2.2.2.2.2.2.2.2.2.2.2.2.2.2.2
theorem da9_dX10_init_584 : (decode cX10_init 584 = .ok (.bastore, 1)) ∧ (decode cX10_init 585 = .ok (.dup, 1)) ∧ (decode cX10_init 586 = .ok (.bipush 90, 2)) ∧ (decode cX10_init 588 = .ok (.bipush 105, 2)) ∧ (decode cX10_init 590 = .ok (.bastore, 1)) ∧ (decode cX10_init 591 = .ok (.dup, 1)) ∧ (decode cX10_init 592 = .ok (.bipush 91, 2)) ∧ (decode cX10_init 594 = .ok (.bipush 100, 2)) ∧ (decode cX10_init 596 = .ok (.bastore, 1)) ∧ (decode cX10_init 597 = .ok (.dup, 1)) ∧ (decode cX10_init 598 = .ok (.bipush 92, 2)) ∧ (decode cX10_init 600 = .ok (.bipush 32, 2)) ∧ (decode cX10_init 602 = .ok (.bastore, 1)) ∧ (decode cX10_init 603 = .ok (.dup, 1)) ∧ (decode cX10_init 604 = .ok (.bipush 93, 2)) ∧ (decode cX10_init 606 = .ok (.bipush 103, 2)) := by decide +kernel
theorem dX10_init_584 : decode cX10_init 584 = .ok (.bastore, 1) := da9_dX10_init_584.1
theorem dX10_init_585 : decode cX10_init 585 = .ok (.dup, 1) := da9_dX10_init_584.2.1
theorem dX10_init_586 : decode cX10_init 586 = .ok (.bipush 90, 2) := da9_dX10_init_584.2.2.1
theorem dX10_init_588 : decode cX10_init 588 = .ok (.bipush 105, 2) := da9_dX10_init_584.2.2.2.1
theorem dX10_init_590 : decode cX10_init 590 = .ok (.bastore, 1) := da9_dX10_init_584.2.2.2.2.1
theorem dX10_init_591 : decode cX10_init 591 = .ok (.dup, 1) := da9_dX10_init_584.2.2.2.2.2.1
theorem dX10_init_592 : decode cX10_init 592 = .ok (.bipush 91, 2) := da9_dX10_init_584.2.2.2.2.2.2.1
theorem dX10_init_594 : decode cX10_init 594 = .ok (.bipush 100, 2) := da9_dX10_init_584.2.2.2.2.2.2.2.1
theorem dX10_init_596 : decode cX10_init 596 = .ok (.bastore, 1) := da9_dX10_init_584.2.2.2.2.2.2.2.2.1
theorem dX10_init_597 : decode cX10_init 597 = .ok (.dup, 1) := da9_dX10_init_584.2.2.2.2.2.2.2.2.2.1
theorem dX10_init_598 : decode cX10_init 598 = .ok (.bipush 92, 2) := da9_dX10_init_584.2.2.2.2.2.2.2.2.2.2.1
theorem dX10_init_600 : decode cX10_init 600 = .ok (.bipush 32, 2) := da9_dX10_init_584.2.2.2.2.2.2.2.2.2.2.2.1
theorem dX10_init_602 : decode cX10_init 602 = .ok (.bastore, 1) := da9_dX10_init_584.2.2.2.2.2.2.2.2.2.2.2.2.1
theorem dX10_init_603 : decode cX10_init 603 = .ok (.dup, 1) := da9_dX10_init_584.2.2.2.2.2.2.2.2.2.2.2.2.2.1
theorem dX10_init_604 : decode cX10_init 604 = .ok (.bipush 93, 2) := da9_dX10_init_584.2.2.2.2.2.2.2.2.2.2.2.2.2.2.1
theorem dX10_init_606 : decode cX10_init 606 = .ok (.bipush 103, 2) := da9_dX10_init_584.2.2.2.2.2.2.2.2.2.2.2.2.2.2.2
theorem da9_dX10_init_608 : (decode cX10_init 608 = .ok (.bastore, 1)) ∧ (decode cX10_init 609 = .ok (.dup, 1)) ∧ (decode cX10_init 610 = .ok (.bipush 94, 2)) ∧ (decode cX10_init 612 = .ok (.bipush 97, 2)) ∧ (decode cX10_init 614 = .ok (.bastore, 1)) ∧ (decode cX10_init 615 = .ok (.dup, 1)) ∧ (decode cX10_init 616 = .ok (.bipush 95, 2)) ∧ (decode cX10_init 618 = .ok (.bipush 112, 2)) ∧ (decode cX10_init 620 = .ok (.bastore, 1)) ∧ (decode cX10_init 621 = .ok (.dup, 1)) ∧ (decode cX10_init 622 = .ok (.bipush 96, 2)) ∧ (decode cX10_init 624 = .ok (.bipush 115, 2)) ∧ (decode cX10_init 626 = .ok (.bastore, 1)) ∧ (decode cX10_init 627 = .ok (.dup, 1)) ∧ (decode cX10_init 628 = .ok (.bipush 97, 2)) ∧ (decode cX10_init 630 = .ok (.bipush 32, 2)) := by decide +kernel
theorem dX10_init_608 : decode cX10_init 608 = .ok (.bastore, 1) := da9_dX10_init_608.1
theorem dX10_init_609 : decode cX10_init 609 = .ok (.dup, 1) := da9_dX10_init_608.2.1
theorem dX10_init_610 : decode cX10_init 610 = .ok (.bipush 94, 2) := da9_dX10_init_608.2.2.1
theorem dX10_init_612 : decode cX10_init 612 = .ok (.bipush 97, 2) := da9_dX10_init_608.2.2.2.1
theorem dX10_init_614 : decode cX10_init 614 = .ok (.bastore, 1) := da9_dX10_init_608.2.2.2.2.1
theorem dX10_init_615 : decode cX10_init 615 = .ok (.dup, 1) := da9_dX10_init_608.2.2.2.2.2.1
theorem dX10_init_616 : decode cX10_init 616 = .ok (.bipush 95, 2) := da9_dX10_init_608.2.2.2.2.2.2.1
theorem dX10_init_618 : decode cX10_init 618 = .ok (.bipush 112, 2) := da9_dX10_init_608.2.2.2.2.2.2.2.1
theorem dX10_init_620 : decode cX10_init 620 = .ok (.bastore, 1) := da9_dX10_init_608.2.2.2.2.2.2.2.2.1
theorem dX10_init_621 : decode cX10_init 621 = .ok (.dup, 1) := da9_dX10_init_608.2.2.2.2.2.2.2.2.2.1
theorem dX10_init_622 : decode cX10_init 622 = .ok (.bipush 96, 2) := da9_dX10_init_608.2.2.2.2.2.2.2.2.2.2.1
theorem dX10_init_624 : decode cX10_init 624 = .ok (.bipush 115, 2) := da9_dX10_init_608.2.2.2.2.2.2.2.2.2.2.2.1
theorem dX10_init_626 : decode cX10_init 626 = .ok (.bastore, 1) := da9_dX10_init_608.2.2.2.2.2.2.2.2.2.2.2.2.1
theorem dX10_init_627 : decode cX10_init 627 = .ok (.dup, 1) := da9_dX10_init_608.2.2.2.2.2.2.2.2.2.2.2.2.2.1
theorem dX10_init_628 : decode cX10_init 628 = .ok (.bipush 97, 2) := da9_dX10_init_608.2.2.2.2.2.2.2.2.2.2.2.2.2.2.1
theorem dX10_init_630 : decode cX10_init 630 = .ok (.bipush 32, 2) := da9_dX10_init_608.2.2.2.2.2.2.2.2.2.2.2.2.2.2.2
theorem da9_dX10_init_632 : (decode cX10_init 632 = .ok (.bastore, 1)) ∧ (decode cX10_init 633 = .ok (.dup, 1)) ∧ (decode cX10_init 634 = .ok (.bipush 98, 2)) ∧ (decode cX10_init 636 = .ok (.bipush 97, 2)) ∧ (decode cX10_init 638 = .ok (.bastore, 1)) ∧ (decode cX10_init 639 = .ok (.dup, 1)) ∧ (decode cX10_init 640 = .ok (.bipush 99, 2)) ∧ (decode cX10_init 642 = .ok (.bipush 116, 2)) ∧ (decode cX10_init 644 = .ok (.bastore, 1)) ∧ (decode cX10_init 645 = .ok (.dup, 1)) ∧ (decode cX10_init 646 = .ok (.bipush 100, 2)) ∧ (decode cX10_init 648 = .ok (.bipush 32, 2)) ∧ (decode cX10_init 650 = .ok (.bastore, 1)) ∧ (decode cX10_init 651 = .ok (.dup, 1)) ∧ (decode cX10_init 652 = .ok (.bipush 101, 2)) ∧ (decode cX10_init 654 = .ok (.bipush 116, 2)) := by decide +kernel
theorem dX10_init_632 : decode cX10_init 632 = .ok (.bastore, 1) := da9_dX10_init_632.1
theorem dX10_init_633 : decode cX10_init 633 = .ok (.dup, 1) := da9_dX10_init_632.2.1
theorem dX10_init_634 : decode cX10_init 634 = .ok (.bipush 98, 2) := da9_dX10_init_632.2.2.1
theorem dX10_init_636 : decode cX10_init 636 = .ok (.bipush 97, 2) := da9_dX10_init_632.2.2.2.1
theorem dX10_init_638 : decode cX10_init 638 = .ok (.bastore, 1) := da9_dX10_init_632.2.2.2.2.1
theorem dX10_init_639 : decode cX10_init 639 = .ok (.dup, 1) := da9_dX10_init_632.2.2.2.2.2.1
theorem dX10_init_640 : decode cX10_init 640 = .ok (.bipush 99, 2) := da9_dX10_init_632.2.2.2.2.2.2.1
theorem dX10_init_642 : decode cX10_init 642 = .ok (.bipush 116, 2) := da9_dX10_init_632.2.2.2.2.2.2.2.1
theorem dX10_init_644 : decode cX10_init 644 = .ok (.bastore, 1) := da9_dX10_init_632.2.2.2.2.2.2.2.2.1
theorem dX10_init_645 : decode cX10_init 645 = .ok (.dup, 1) := da9_dX10_init_632.2.2.2.2.2.2.2.2.2.1
theorem dX10_init_646 : decode cX10_init 646 = .ok (.bipush 100, 2) := da9_dX10_init_632.2.2.2.2.2.2.2.2.2.2.1
theorem dX10_init_648 : decode cX10_init 648 = .ok (.bipush 32, 2) := da9_dX10_init_632.2.2.2.2.2.2.2.2.2.2.2.1
theorem dX10_init_650 : decode cX10_init 650 = .ok (.bastore, 1) := da9_dX10_init_632.2.2.2.2.2.2.2.2.2.2.2.2.1
theorem dX10_init_651 : decode cX10_init 651 = .ok (.dup, 1) := da9_dX10_init_632.2.2.2.2.2.2.2.2.2.2.2.2.2.1
theorem dX10_init_652 : decode cX10_init 652 = .ok (.bipush 101, 2) := da9_dX10_init_632.2.2.2.2.2.2.2.2.2.2.2.2.2.2.1
theorem dX10_init_654 : decode cX10_init 654 = .ok (.bipush 116, 2) := da9_dX10_init_632.2.2.2.2.2.2.2.2.2.2.2.2.2.2.2
theorem da9_dX10_init_656 : (decode cX10_init 656 = .ok (.bastore, 1)) ∧ (decode cX10_init 657 = .ok (.dup, 1)) ∧ (decode cX10_init 658 = .ok (.bipush 102, 2)) ∧ (decode cX10_init 660 = .ok (.bipush 117, 2)) ∧ (decode cX10_init 662 = .ok (.bastore, 1)) ∧ (decode cX10_init 663 = .ok (.dup, 1)) ∧ (decode cX10_init 664 = .ok (.bipush 103, 2)) ∧ (decode cX10_init 666 = .ok (.bipush 114, 2)) ∧ (decode cX10_init 668 = .ok (.bastore, 1)) ∧ (decode cX10_init 669 = .ok (.dup, 1)) ∧ (decode cX10_init 670 = .ok (.bipush 104, 2)) ∧ (decode cX10_init 672 = .ok (.bipush 110, 2)) ∧ (decode cX10_init 674 = .ok (.bastore, 1)) ∧ (decode cX10_init 675 = .ok (.dup, 1)) ∧ (decode cX10_init 676 = .ok (.bipush 105, 2)) ∧ (decode cX10_init 678 = .ok (.bipush 32, 2)) := by decide +kernel
theorem dX10_init_656 : decode cX10_init 656 = .ok (.bastore, 1) := da9_dX10_init_656.1
theorem dX10_init_657 : decode cX10_init 657 = .ok (.dup, 1) := da9_dX10_init_656.2.1
theorem dX10_init_658 : decode cX10_init 658 = .ok (.bipush 102, 2) := da9_dX10_init_656.2.2.1
theorem dX10_init_660 : decode cX10_init 660 = .ok (.bipush 117, 2) := da9_dX10_init_656.2.2.2.1
theorem dX10_init_662 : decode cX10_init 662 = .ok (.bastore, 1) := da9_dX10_init_656.2.2.2.2.1
theorem dX10_init_663 : decode cX10_init 663 = .ok (.dup, 1) := da9_dX10_init_656.2.2.2.2.2.1
theorem dX10_init_664 : decode cX10_init 664 = .ok (.bipush 103, 2) := da9_dX10_init_656.2.2.2.2.2.2.1
theorem dX10_init_666 : decode cX10_init 666 = .ok (.bipush 114, 2) := da9_dX10_init_656.2.2.2.2.2.2.2.1
theorem dX10_init_668 : decode cX10_init 668 = .ok (.bastore, 1) := da9_dX10_init_656.2.2.2.2.2.2.2.2.1
theorem dX10_init_669 : decode cX10_init 669 = .ok (.dup, 1) := da9_dX10_init_656.2.2.2.2.2.2.2.2.2.1
theorem dX10_init_670 : decode cX10_init 670 = .ok (.bipush 104, 2) := da9_dX10_init_656.2.2.2.2.2.2.2.2.2.2.1
theorem dX10_init_672 : decode cX10_init 672 = .ok (.bipush 110, 2) := da9_dX10_init_656.2.2.2.2.2.2.2.2.2.2.2.1
theorem dX10_init_674 : decode cX10_init 674 = .ok (.bastore, 1) := da9_dX10_init_656.2.2.2.2.2.2.2.2.2.2.2.2.1
theorem dX10_init_675 : decode cX10_init 675 = .ok (.dup, 1) := da9_dX10_init_656.2.2.2.2.2.2.2.2.2.2.2.2.2.1
theorem dX10_init_676 : decode cX10_init 676 = .ok (.bipush 105, 2) := da9_dX10_init_656.2.2.2.2.2.2.2.2.2.2.2.2.2.2.1
theorem dX10_init_678 : decode cX10_init 678 = .ok (.bipush 32, 2) := da9_dX10_init_656.2.2.2.2.2.2.2.2.2.2.2.2.2.2.2
theorem da9_dX10_init_680 : (decode cX10_init 680 = .ok (.bastore, 1)) ∧ (decode cX10_init 681 = .ok (.dup, 1)) ∧ (decode cX10_init 682 = .ok (.bipush 106, 2)) ∧ (decode cX10_init 684 = .ok (.bipush 114, 2)) ∧ (decode cX10_init 686 = .ok (.bastore, 1)) ∧ (decode cX10_init 687 = .ok (.dup, 1)) ∧ (decode cX10_init 688 = .ok (.bipush 107, 2)) ∧ (decode cX10_init 690 = .ok (.bipush 105, 2)) ∧ (decode cX10_init 692 = .ok (.bastore, 1)) ∧ (decode cX10_init 693 = .ok (.dup, 1)) ∧ (decode cX10_init 694 = .ok (.bipush 108, 2)) ∧ (decode cX10_init 696 = .ok (.bipush 103, 2)) ∧ (decode cX10_init 698 = .ok (.bastore, 1)) ∧ (decode cX10_init 699 = .ok (.dup, 1)) ∧ (decode cX10_init 700 = .ok (.bipush 109, 2)) ∧ (decode cX10_init 702 = .ok (.bipush 104, 2)) := by decide +kernel
theorem dX10_init_680 : decode cX10_init 680 = .ok (.bastore, 1) := da9_dX10_init_680.1
theorem dX10_init_681 : decode cX10_init 681 = .ok (.dup, 1) := da9_dX10_init_680.2.1
theorem dX10_init_682 : decode cX10_init 682 = .ok (.bipush 106, 2) := da9_dX10_init_680.2.2.1
theorem dX10_init_684 : decode cX10_init 684 = .ok (.bipush 114, 2) := da9_dX10_init_680.2.2.2.1
theorem dX10_init_686 : decode cX10_init 686 = .ok (.bastore, 1) := da9_dX10_init_680.2.2.2.2.1
theorem dX10_init_687 : decode cX10_init 687 = .ok (.dup, 1) := da9_dX10_init_680.2.2.2.2.2.1
theorem dX10_init_688 : decode cX10_init 688 = .ok (.bipush 107, 2) := da9_dX10_init_680.2.2.2.2.2.2.1
theorem dX10_init_690 : decode cX10_init 690 = .ok (.bipush 105, 2) := da9_dX10_init_680.2.2.2.2.2.2.2.1
theorem dX10_init_692 : decode cX10_init 692 = .ok (.bastore, 1) := da9_dX10_init_680.2.2.2.2.2.2.2.2.1
theorem dX10_init_693 : decode cX10_init 693 = .ok (.dup, 1) := da9_dX10_init_680.2.2.2.2.2.2.2.2.2.1
theorem dX10_init_694 : decode cX10_init 694 = .ok (.bipush 108, 2) := da9_dX10_init_680.2.2.2.2.2.2.2.2.2.2.1
theorem dX10_init_696 : decode cX10_init 696 = .ok (.bipush 103, 2) := da9_dX10_init_680.2.2.2.2.2.2.2.2.2.2.2.1
theorem dX10_init_698 : decode cX10_init 698 = .ok (.bastore, 1) := da9_dX10_init_680.2.2.2.2.2.2.2.2.2.2.2.2.1
theorem dX10_init_699 : decode cX10_init 699 = .ok (.dup, 1) := da9_dX10_init_680.2.2.2.2.2.2.2.2.2.2.2.2.2.1
theorem dX10_init_700 : decode cX10_init 700 = .ok (.bipush 109, 2) := da9_dX10_init_680.2.2.2.2.2.2.2.2.2.2.2.2.2.2.1
theorem dX10_init_702 : decode cX10_init 702 = .ok (.bipush 104, 2) := da9_dX10_init_680.2.2.2.2.2.2.2.2.2.2.2.2.2.2.2
theorem da9_dX10_init_704 : (decode cX10_init 704 = .ok (.bastore, 1)) ∧ (decode cX10_init 705 = .ok (.dup, 1)) ∧ (decode cX10_init 706 = .ok (.bipush 110, 2)) ∧ (decode cX10_init 708 = .ok (.bipush 116, 2)) ∧ (decode cX10_init 710 = .ok (.bastore, 1)) ∧ (decode cX10_init 711 = .ok (.dup, 1)) ∧ (decode cX10_init 712 = .ok (.bipush 111, 2)) ∧ (decode cX10_init 714 = .ok (.bipush 32, 2)) ∧ (decode cX10_init 716 = .ok (.bastore, 1)) ∧ (decode cX10_init 717 = .ok (.dup, 1)) ∧ (decode cX10_init 718 = .ok (.bipush 112, 2)) ∧ (decode cX10_init 720 = .ok (.bipush 115, 2)) ∧ (decode cX10_init 722 = .ok (.bastore, 1)) ∧ (decode cX10_init 723 = .ok (.dup, 1)) ∧ (decode cX10_init 724 = .ok (.bipush 113, 2)) ∧ (decode cX10_init 726 = .ok (.bipush 119, 2)) := by decide +kernel
theorem dX10_init_704 : decode cX10_init 704 = .ok (.bastore, 1) := da9_dX10_init_704.1
theorem dX10_init_705 : decode cX10_init 705 = .ok (.dup, 1) := da9_dX10_init_704.2.1
theorem dX10_init_706 : decode cX10_init 706 = .ok (.bipush 110, 2) := da9_dX10_init_704.2.2.1
theorem dX10_init_708 : decode cX10_init 708 = .ok (.bipush 116, 2) := da9_dX10_init_704.2.2.2.1
theorem dX10_init_710 : decode cX10_init 710 = .ok (.bastore, 1) := da9_dX10_init_704.2.2.2.2.1
theorem dX10_init_711 : decode cX10_init 711 = .ok (.dup, 1) := da9_dX10_init_704.2.2.2.2.2.1
theorem dX10_init_712 : decode cX10_init 712 = .ok (.bipush 111, 2) := da9_dX10_init_704.2.2.2.2.2.2.1
theorem dX10_init_714 : decode cX10_init 714 = .ok (.bipush 32, 2) := da9_dX10_init_704.2.2.2.2.2.2.2.1
theorem dX10_init_716 : decode cX10_init 716 = .ok (.bastore, 1) := da9_dX10_init_704.2.2.2.2.2.2.2.2.1
theorem dX10_init_717 : decode cX10_init 717 = .ok (.dup, 1) := da9_dX10_init_704.2.2.2.2.2.2.2.2.2.1
theorem dX10_init_718 : decode cX10_init 718 = .ok (.bipush 112, 2) := da9_dX10_init_704.2.2.2.2.2.2.2.2.2.2.1
theorem dX10_init_720 : decode cX10_init 720 = .ok (.bipush 115, 2) := da9_dX10_init_704.2.2.2.2.2.2.2.2.2.2.2.1
theorem dX10_init_722 : decode cX10_init 722 = .ok (.bastore, 1) := da9_dX10_init_704.2.2.2.2.2.2.2.2.2.2.2.2.1
theorem dX10_init_723 : decode cX10_init 723 = .ok (.dup, 1) := da9_dX10_init_704.2.2.2.2.2.2.2.2.2.2.2.2.2.1
theorem dX10_init_724 : decode cX10_init 724 = .ok (.bipush 113, 2) := da9_dX10_init_704.2.2.2.2.2.2.2.2.2.2.2.2.2.2.1
theorem dX10_init_726 : decode cX10_init 726 = .ok (.bipush 119, 2) := da9_dX10_init_704.2.2.2.2.2.2.2.2.2.2.2.2.2.2.2
theorem da9_dX10_init_728 : (decode cX10_init 728 = .ok (.bastore, 1)) ∧ (decode cX10_init 729 = .ok (.dup, 1)) ∧ (decode cX10_init 730 = .ok (.bipush 114, 2)) ∧ (decode cX10_init 732 = .ok (.bipush 97, 2)) ∧ (decode cX10_init 734 = .ok (.bastore, 1)) ∧ (decode cX10_init 735 = .ok (.dup, 1)) ∧ (decode cX10_init 736 = .ok (.bipush 115, 2)) ∧ (decode cX10_init 738 = .ok (.bipush 112, 2)) ∧ (decode cX10_init 740 = .ok (.bastore, 1)) ∧ (decode cX10_init 741 = .ok (.dup, 1)) ∧ (decode cX10_init 742 = .ok (.bipush 116, 2)) ∧ (decode cX10_init 744 = .ok (.bipush 32, 2)) ∧ (decode cX10_init 746 = .ok (.bastore, 1)) ∧ (decode cX10_init 747 = .ok (.dup, 1)) ∧ (decode cX10_init 748 = .ok (.bipush 117, 2)) ∧ (decode cX10_init 750 = .ok (.bipush 112, 2)) := by decide +kernel
theorem dX10_init_728 : decode cX10_init 728 = .ok (.bastore, 1) := da9_dX10_init_728.1
theorem dX10_init_729 : decode cX10_init 729 = .ok (.dup, 1) := da9_dX10_init_728.2.1
theorem dX10_init_730 : decode cX10_init 730 = .ok (.bipush 114, 2) := da9_dX10_init_728.2.2.1
theorem dX10_init_732 : decode cX10_init 732 = .ok (.bipush 97, 2) := da9_dX10_init_728.2.2.2.1
theorem dX10_init_734 : decode cX10_init 734 = .ok (.bastore, 1) := da9_dX10_init_728.2.2.2.2.1
theorem dX10_init_735 : decode cX10_init 735 = .ok (.dup, 1) := da9_dX10_init_728.2.2.2.2.2.1
theorem dX10_init_736 : decode cX10_init 736 = .ok (.bipush 115, 2) := da9_dX10_init_728.2.2.2.2.2.2.1
theorem dX10_init_738 : decode cX10_init 738 = .ok (.bipush 112, 2) := da9_dX10_init_728.2.2.2.2.2.2.2.1
theorem dX10_init_740 : decode cX10_init 740 = .ok (.bastore, 1) := da9_dX10_init_728.2.2.2.2.2.2.2.2.1
theorem dX10_init_741 : decode cX10_init 741 = .ok (.dup, 1) := da9_dX10_init_728.2.2.2.2.2.2.2.2.2.1
theorem dX10_init_742 : decode cX10_init 742 = .ok (.bipush 116, 2) := da9_dX10_init_728.2.2.2.2.2.2.2.2.2.2.1
theorem dX10_init_744 : decode cX10_init 744 = .ok (.bipush 32, 2) := da9_dX10_init_728.2.2.2.2.2.2.2.2.2.2.2.1
theorem dX10_init_746 : decode cX10_init 746 = .ok (.bastore, 1) := da9_dX10_init_728.2.2.2.2.2.2.2.2.2.2.2.2.1
theorem dX10_init_747 : decode cX10_init 747 = .ok (.dup, 1) := da9_dX10_init_728.2.2.2.2.2.2.2.2.2.2.2.2.2.1
theorem dX10_init_748 : decode cX10_init 748 = .ok (.bipush 117, 2) := da9_dX10_init_728.2.2.2.2.2.2.2.2.2.2.2.2.2.2.1
theorem dX10_init_750 : decode cX10_init 750 = .ok (.bipush 112, 2) := da9_dX10_init_728.2.2.2.2.2.2.2.2.2.2.2.2.2.2.2
theorem da9_dX10_init_752 : (decode cX10_init 752 = .ok (.bastore, 1)) ∧ (decode cX10_init 753 = .ok (.dup, 1)) ∧ (decode cX10_init 754 = .ok (.bipush 118, 2)) ∧ (decode cX10_init 756 = .ok (.bipush 97, 2)) ∧ (decode cX10_init 758 = .ok (.bastore, 1)) ∧ (decode cX10_init 759 = .ok (.dup, 1)) ∧ (decode cX10_init 760 = .ok (.bipush 119, 2)) ∧ (decode cX10_init 762 = .ok (.bipush 115, 2)) ∧ (decode cX10_init 764 = .ok (.bastore, 1)) ∧ (decode cX10_init 765 = .ok (.dup, 1)) ∧ (decode cX10_init 766 = .ok (.bipush 120, 2)) ∧ (decode cX10_init 768 = .ok (.bipush 115, 2)) ∧ (decode cX10_init 770 = .ok (.bastore, 1)) ∧ (decode cX10_init 771 = .ok (.dup, 1)) ∧ (decode cX10_init 772 = .ok (.bipush 121, 2)) ∧ (decode cX10_init 774 = .ok (.bipush 32, 2)) := by decide +kernel
theorem dX10_init_752 : decode cX10_init 752 = .ok (.bastore, 1) := da9_dX10_init_752.1
theorem dX10_init_753 : decode cX10_init 753 = .ok (.dup, 1) := da9_dX10_init_752.2.1
theorem dX10_init_754 : decode cX10_init 754 = .ok (.bipush 118, 2) := da9_dX10_init_752.2.2.1
theorem dX10_init_756 : decode cX10_init 756 = .ok (.bipush 97, 2) := da9_dX10_init_752.2.2.2.1
theorem dX10_init_758 : decode cX10_init 758 = .ok (.bastore, 1) := da9_dX10_init_752.2.2.2.2.1
theorem dX10_init_759 : decode cX10_init 759 = .ok (.dup, 1) := da9_dX10_init_752.2.2.2.2.2.1
theorem dX10_init_760 : decode cX10_init 760 = .ok (.bipush 119, 2) := da9_dX10_init_752.2.2.2.2.2.2.1
theorem dX10_init_762 : decode cX10_init 762 = .ok (.bipush 115, 2) := da9_dX10_init_752.2.2.2.2.2.2.2.1
theorem dX10_init_764 : decode cX10_init 764 = .ok (.bastore, 1) := da9_dX10_init_752.2.2.2.2.2.2.2.2.1
theorem dX10_init_765 : decode cX10_init 765 = .ok (.dup, 1) := da9_dX10_init_752.2.2.2.2.2.2.2.2.2.1
theorem dX10_init_766 : decode cX10_init 766 = .ok (.bipush 120, 2) := da9_dX10_init_752.2.2.2.2.2.2.2.2.2.2.1
theorem dX10_init_768 : decode cX10_init 768 = .ok (.bipush 115, 2) := da9_dX10_init_752.2.2.2.2.2.2.2.2.2.2.2.1
theorem dX10_init_770 : decode cX10_init 770 = .ok (.bastore, 1) := da9_dX10_init_752.2.2.2.2.2.2.2.2.2.2.2.2.1
theorem dX10_init_771 : decode cX10_init 771 = .ok (.dup, 1) := da9_dX10_init_752.2.2.2.2.2.2.2.2.2.2.2.2.2.1
theorem dX10_init_772 : decode cX10_init 772 = .ok (.bipush 121, 2) := da9_dX10_init_752.2.2.2.2.2.2.2.2.2.2.2.2.2.2.1
theorem dX10_init_774 : decode cX10_init 774 = .ok (.bipush 32, 2) := da9_dX10_init_752.2.2.2.2.2.2.2.2.2.2.2.2.2.2.2
theorem da9_dX10_init_776 : (decode cX10_init 776 = .ok (.bastore, 1)) ∧ (decode cX10_init 777 = .ok (.dup, 1)) ∧ (decode cX10_init 778 = .ok (.bipush 122, 2)) ∧ (decode cX10_init 780 = .ok (.bipush 116, 2)) ∧ (decode cX10_init 782 = .ok (.bastore, 1)) ∧ (decode cX10_init 783 = .ok (.dup, 1)) ∧ (decode cX10_init 784 = .ok (.bipush 123, 2)) ∧ (decode cX10_init 786 = .ok (.bipush 105, 2)) ∧ (decode cX10_init 788 = .ok (.bastore, 1)) ∧ (decode cX10_init 789 = .ok (.dup, 1)) ∧ (decode cX10_init 790 = .ok (.bipush 124, 2)) ∧ (decode cX10_init 792 = .ok (.bipush 109, 2)) ∧ (decode cX10_init 794 = .ok (.bastore, 1)) ∧ (decode cX10_init 795 = .ok (.dup, 1)) ∧ (decode cX10_init 796 = .ok (.bipush 125, 2)) ∧ (decode cX10_init 798 = .ok (.bipush 101, 2)) := by decide +kernel
theorem dX10_init_776 : decode cX10_init 776 = .ok (.bastore, 1) := da9_dX10_init_776.1
theorem dX10_init_777 : decode cX10_init 777 = .ok (.dup, 1) := da9_dX10_init_776.2.1
theorem dX10_init_778 : decode cX10_init 778 = .ok (.bipush 122, 2) := da9_dX10_init_776.2.2.1
theorem dX10_init_780 : decode cX10_init 780 = .ok (.bipush 116, 2) := da9_dX10_init_776.2.2.2.1
theorem dX10_init_782 : decode cX10_init 782 = .ok (.bastore, 1) := da9_dX10_init_776.2.2.2.2.1
theorem dX10_init_783 : decode cX10_init 783 = .ok (.dup, 1) := da9_dX10_init_776.2.2.2.2.2.1
theorem dX10_init_784 : decode cX10_init 784 = .ok (.bipush 123, 2) := da9_dX10_init_776.2.2.2.2.2.2.1
theorem dX10_init_786 : decode cX10_init 786 = .ok (.bipush 105, 2) := da9_dX10_init_776.2.2.2.2.2.2.2.1
theorem dX10_init_788 : decode cX10_init 788 = .ok (.bastore, 1) := da9_dX10_init_776.2.2.2.2.2.2.2.2.1
theorem dX10_init_789 : decode cX10_init 789 = .ok (.dup, 1) := da9_dX10_init_776.2.2.2.2.2.2.2.2.2.1
theorem dX10_init_790 : decode cX10_init 790 = .ok (.bipush 124, 2) := da9_dX10_init_776.2.2.2.2.2.2.2.2.2.2.1
theorem dX10_init_792 : decode cX10_init 792 = .ok (.bipush 109, 2) := da9_dX10_init_776.2.2.2.2.2.2.2.2.2.2.2.1
theorem dX10_init_794 : decode cX10_init 794 = .ok (.bastore, 1) := da9_dX10_init_776.2.2.2.2.2.2.2.2.2.2.2.2.1
theorem dX10_init_795 : decode cX10_init 795 = .ok (.dup, 1) := da9_dX10_init_776.2.2.2.2.2.2.2.2.2.2.2.2.2.1
theorem dX10_init_796 : decode cX10_init 796 = .ok (.bipush 125, 2) := da9_dX10_init_776.2.2.2.2.2.2.2.2.2.2.2.2.2.2.1
theorem dX10_init_798 : decode cX10_init 798 = .ok (.bipush 101, 2) := da9_dX10_init_776.2.2.2.2.2.2.2.2.2.2.2.2.2.2.2
theorem da9_dX10_init_800 : (decode cX10_init 800 = .ok (.bastore, 1)) ∧ (decode cX10_init 801 = .ok (.dup, 1)) ∧ (decode cX10_init 802 = .ok (.bipush 126, 2)) ∧ (decode cX10_init 804 = .ok (.bipush 115, 2)) ∧ (decode cX10_init 806 = .ok (.bastore, 1)) ∧ (decode cX10_init 807 = .ok (.dup, 1)) ∧ (decode cX10_init 808 = .ok (.bipush 127, 2)) ∧ (decode cX10_init 810 = .ok (.bipush 32, 2)) ∧ (decode cX10_init 812 = .ok (.bastore, 1)) ∧ (decode cX10_init 813 = .ok (.putfield 41, 3)) ∧ (decode cX10_init 816 = .ok (.aload_n 0, 1)) ∧ (decode cX10_init 817 = .ok (.sipush 400, 3)) ∧ (decode cX10_init 820 = .ok (.newarray .byte, 2)) ∧ (decode cX10_init 822 = .ok (.putfield 45, 3)) ∧ (decode cX10_init 825 = .ok (.aload_n 0, 1)) ∧ (decode cX10_init 826 = .ok (.iconst 5, 1)) := by decide +kernel
theorem dX10_init_800 : decode cX10_init 800 = .ok (.bastore, 1) := da9_dX10_init_800.1
theorem dX10_init_801 : decode cX10_init 801 = .ok (.dup, 1) := da9_dX10_init_800.2.1
theorem dX10_init_802 : decode cX10_init 802 = .ok (.bipush 126, 2) := da9_dX10_init_800.2.2.1
theorem dX10_init_804 : decode cX10_init 804 = .ok (.bipush 115, 2) := da9_dX10_init_800.2.2.2.1
theorem dX10_init_806 : decode cX10_init 806 = .ok (.bastore, 1) := da9_dX10_init_800.2.2.2.2.1
theorem dX10_init_807 : decode cX10_init 807 = .ok (.dup, 1) := da9_dX10_init_800.2.2.2.2.2.1
theorem dX10_init_808 : decode cX10_init 808 = .ok (.bipush 127, 2) := da9_dX10_init_800.2.2.2.2.2.2.1
theorem dX10_init_810 : decode cX10_init 810 = .ok (.bipush 32, 2) := da9_dX10_init_800.2.2.2.2.2.2.2.1
theorem dX10_init_812 : decode cX10_init 812 = .ok (.bastore, 1) := da9_dX10_init_800.2.2.2.2.2.2.2.2.1
theorem dX10_init_813 : decode cX10_init 813 = .ok (.putfield 41, 3) := da9_dX10_init_800.2.2.2.2.2.2.2.2.2.1
theorem dX10_init_816 : decode cX10_init 816 = .ok (.aload_n 0, 1) := da9_dX10_init_800.2.2.2.2.2.2.2.2.2.2.1
theorem dX10_init_817 : decode cX10_init 817 = .ok (.sipush 400, 3) := da9_dX10_init_800.2.2.2.2.2.2.2.2.2.2.2.1
theorem dX10_init_820 : decode cX10_init 820 = .ok (.newarray .byte, 2) := da9_dX10_init_800.2.2.2.2.2.2.2.2.2.2.2.2.1
theorem dX10_init_822 : decode cX10_init 822 = .ok (.putfield 45, 3) := da9_dX10_init_800.2.2.2.2.2.2.2.2.2.2.2.2.2.1
theorem dX10_init_825 : decode cX10_init 825 = .ok (.aload_n 0, 1) := da9_dX10_init_800.2.2.2.2.2.2.2.2.2.2.2.2.2.2.1
theorem dX10_init_826 : decode cX10_init 826 = .ok (.iconst 5, 1) := da9_dX10_init_800.2.2.2.2.2.2.2.2.2.2.2.2.2.2.2
theorem da9_dX10_init_827 : (decode cX10_init 827 = .ok (.newarray .int, 2)) ∧ (decode cX10_init 829 = .ok (.putfield 48, 3)) ∧ (decode cX10_init 832 = .ok (.aload_n 0, 1)) ∧ (decode cX10_init 833 = .ok (.iconst (-1), 1)) ∧ (decode cX10_init 834 = .ok (.putfield 51, 3)) ∧ (decode cX10_init 837 = .ok (.aload_n 0, 1)) ∧ (decode cX10_init 838 = .ok (.sipush 401, 3)) ∧ (decode cX10_init 841 = .ok (.newarray .int, 2)) ∧ (decode cX10_init 843 = .ok (.putfield 54, 3)) ∧ (decode cX10_init 846 = .ok (.aload_n 0, 1)) ∧ (decode cX10_init 847 = .ok (.sipush 401, 3)) ∧ (decode cX10_init 850 = .ok (.newarray .int, 2)) ∧ (decode cX10_init 852 = .ok (.putfield 57, 3)) ∧ (decode cX10_init 855 = .ok (.aload_n 0, 1)) ∧ (decode cX10_init 856 = .ok (.sipush 401, 3)) ∧ (decode cX10_init 859 = .ok (.newarray .int, 2)) := by decide +kernel
theorem dX10_init_827 : decode cX10_init 827 = .ok (.newarray .int, 2) := da9_dX10_init_827.1
theorem dX10_init_829 : decode cX10_init 829 = .ok (.putfield 48, 3) := da9_dX10_init_827.2.1
theorem dX10_init_832 : decode cX10_init 832 = .ok (.aload_n 0, 1) := da9_dX10_init_827.2.2.1
theorem dX10_init_833 : decode cX10_init 833 = .ok (.iconst (-1), 1) := da9_dX10_init_827.2.2.2.1
theorem dX10_init_834 : decode cX10_init 834 = .ok (.putfield 51, 3) := da9_dX10_init_827.2.2.2.2.1
theorem dX10_init_837 : decode cX10_init 837 = .ok (.aload_n 0, 1) := da9_dX10_init_827.2.2.2.2.2.1
theorem dX10_init_838 : decode cX10_init 838 = .ok (.sipush 401, 3) := da9_dX10_init_827.2.2.2.2.2.2.1
theorem dX10_init_841 : decode cX10_init 841 = .ok (.newarray .int, 2) := da9_dX10_init_827.2.2.2.2.2.2.2.1
theorem dX10_init_843 : decode cX10_init 843 = .ok (.putfield 54, 3) := da9_dX10_init_827.2.2.2.2.2.2.2.2.1
theorem dX10_init_846 : decode cX10_init 846 = .ok (.aload_n 0, 1) := da9_dX10_init_827.2.2.2.2.2.2.2.2.2.1
theorem dX10_init_847 : decode cX10_init 847 = .ok (.sipush 401, 3) := da9_dX10_init_827.2.2.2.2.2.2.2.2.2.2.1
theorem dX10_init_850 : decode cX10_init 850 = .ok (.newarray .int, 2) := da9_dX10_init_827.2.2.2.2.2.2.2.2.2.2.2.1
theorem dX10_init_852 : decode cX10_init 852 = .ok (.putfield 57, 3) := da9_dX10_init_827.2.2.2.2.2.2.2.2.2.2.2.2.1
theorem dX10_init_855 : decode cX10_init 855 = .ok (.aload_n 0, 1) := da9_dX10_init_827.2.2.2.2.2.2.2.2.2.2.2.2.2.1
theorem dX10_init_856 : decode cX10_init 856 = .ok (.sipush 401, 3) := da9_dX10_init_827.2.2.2.2.2.2.2.2.2.2.2.2.2.2.1
theorem dX10_init_859 : decode cX10_init 859 = .ok (.newarray .int, 2) := da9_dX10_init_827.2.2.2.2.2.2.2.2.2.2.2.2.2.2.2
theorem da9_dX10_init_861 : (decode cX10_init 861 = .ok (.putfield 60, 3)) ∧ (decode cX10_init 864 = .ok (.aload_n 0, 1)) ∧ (decode cX10_init 865 = .ok (.bipush 9, 2)) ∧ (decode cX10_init 867 = .ok (.newarray .int, 2)) ∧ (decode cX10_init 869 = .ok (.putfield 63, 3)) ∧ (decode cX10_init 872 = .ok (.aload_n 0, 1)) ∧ (decode cX10_init 873 = .ok (.bipush 6, 2)) ∧ (decode cX10_init 875 = .ok (.newarray .boolean, 2)) ∧ (decode cX10_init 877 = .ok (.putfield 66, 3)) ∧ (decode cX10_init 880 = .ok (.aload_n 0, 1)) ∧ (decode cX10_init 881 = .ok (.sipush 240, 3)) ∧ (decode cX10_init 884 = .ok (.newarray .int, 2)) ∧ (decode cX10_init 886 = .ok (.putfield 69, 3)) ∧ (decode cX10_init 889 = .ok (.aload_n 0, 1)) ∧ (decode cX10_init 890 = .ok (.sipush 240, 3)) ∧ (decode cX10_init 893 = .ok (.newarray .int, 2)) := by decide +kernel
theorem dX10_init_861 : decode cX10_init 861 = .ok (.putfield 60, 3) := da9_dX10_init_861.1
theorem dX10_init_864 : decode cX10_init 864 = .ok (.aload_n 0, 1) := da9_dX10_init_861.2.1
theorem dX10_init_865 : decode cX10_init 865 = .ok (.bipush 9, 2) := da9_dX10_init_861.2.2.1
theorem dX10_init_867 : decode cX10_init 867 = .ok (.newarray .int, 2) := da9_dX10_init_861.2.2.2.1
theorem dX10_init_869 : decode cX10_init 869 = .ok (.putfield 63, 3) := da9_dX10_init_861.2.2.2.2.1
theorem dX10_init_872 : decode cX10_init 872 = .ok (.aload_n 0, 1) := da9_dX10_init_861.2.2.2.2.2.1
theorem dX10_init_873 : decode cX10_init 873 = .ok (.bipush 6, 2) := da9_dX10_init_861.2.2.2.2.2.2.1
theorem dX10_init_875 : decode cX10_init 875 = .ok (.newarray .boolean, 2) := da9_dX10_init_861.2.2.2.2.2.2.2.1
theorem dX10_init_877 : decode cX10_init 877 = .ok (.putfield 66, 3) := da9_dX10_init_861.2.2.2.2.2.2.2.2.1
theorem dX10_init_880 : decode cX10_init 880 = .ok (.aload_n 0, 1) := da9_dX10_init_861.2.2.2.2.2.2.2.2.2.1
theorem dX10_init_881 : decode cX10_init 881 = .ok (.sipush 240, 3) := da9_dX10_init_861.2.2.2.2.2.2.2.2.2.2.1
theorem dX10_init_884 : decode cX10_init 884 = .ok (.newarray .int, 2) := da9_dX10_init_861.2.2.2.2.2.2.2.2.2.2.2.1
theorem dX10_init_886 : decode cX10_init 886 = .ok (.putfield 69, 3) := da9_dX10_init_861.2.2.2.2.2.2.2.2.2.2.2.2.1
theorem dX10_init_889 : decode cX10_init 889 = .ok (.aload_n 0, 1) := da9_dX10_init_861.2.2.2.2.2.2.2.2.2.2.2.2.2.1
theorem dX10_init_890 : decode cX10_init 890 = .ok (.sipush 240, 3) := da9_dX10_init_861.2.2.2.2.2.2.2.2.2.2.2.2.2.2.1
theorem dX10_init_893 : decode cX10_init 893 = .ok (.newarray .int, 2) := da9_dX10_init_861.2.2.2.2.2.2.2.2.2.2.2.2.2.2.2
theorem da9_dX10_init_895 : (decode cX10_init 895 = .ok (.putfield 72, 3)) ∧ (decode cX10_init 898 = .ok (.aload_n 0, 1)) ∧ (decode cX10_init 899 = .ok (.sipush 4320, 3)) ∧ (decode cX10_init 902 = .ok (.newarray .int, 2)) ∧ (decode cX10_init 904 = .ok (.putfield 75, 3)) ∧ (decode cX10_init 907 = .ok (.aload_n 0, 1)) ∧ (decode cX10_init 908 = .ok (.sipush 5040, 3)) ∧ (decode cX10_init 911 = .ok (.newarray .int, 2)) ∧ (decode cX10_init 913 = .ok (.putfield 78, 3)) ∧ (decode cX10_init 916 = .ok (.aload_n 0, 1)) ∧ (decode cX10_init 917 = .ok (.sipush 448, 3)) ∧ (decode cX10_init 920 = .ok (.newarray .int, 2)) ∧ (decode cX10_init 922 = .ok (.putfield 81, 3)) ∧ (decode cX10_init 925 = .ok (.aload_n 0, 1)) ∧ (decode cX10_init 926 = .ok (.bipush 6, 2)) ∧ (decode cX10_init 928 = .ok (.newarray .int, 2)) := by decide +kernel
theorem dX10_init_895 : decode cX10_init 895 = .ok (.putfield 72, 3) := da9_dX10_init_895.1
theorem dX10_init_898 : decode cX10_init 898 = .ok (.aload_n 0, 1) := da9_dX10_init_895.2.1
theorem dX10_init_899 : decode cX10_init 899 = .ok (.sipush 4320, 3) := da9_dX10_init_895.2.2.1
theorem dX10_init_902 : decode cX10_init 902 = .ok (.newarray .int, 2) := da9_dX10_init_895.2.2.2.1
theorem dX10_init_904 : decode cX10_init 904 = .ok (.putfield 75, 3) := da9_dX10_init_895.2.2.2.2.1
theorem dX10_init_907 : decode cX10_init 907 = .ok (.aload_n 0, 1) := da9_dX10_init_895.2.2.2.2.2.1
theorem dX10_init_908 : decode cX10_init 908 = .ok (.sipush 5040, 3) := da9_dX10_init_895.2.2.2.2.2.2.1
theorem dX10_init_911 : decode cX10_init 911 = .ok (.newarray .int, 2) := da9_dX10_init_895.2.2.2.2.2.2.2.1
theorem dX10_init_913 : decode cX10_init 913 = .ok (.putfield 78, 3) := da9_dX10_init_895.2.2.2.2.2.2.2.2.1
theorem dX10_init_916 : decode cX10_init 916 = .ok (.aload_n 0, 1) := da9_dX10_init_895.2.2.2.2.2.2.2.2.2.1
theorem dX10_init_917 : decode cX10_init 917 = .ok (.sipush 448, 3) := da9_dX10_init_895.2.2.2.2.2.2.2.2.2.2.1
theorem dX10_init_920 : decode cX10_init 920 = .ok (.newarray .int, 2) := da9_dX10_init_895.2.2.2.2.2.2.2.2.2.2.2.1
theorem dX10_init_922 : decode cX10_init 922 = .ok (.putfield 81, 3) := da9_dX10_init_895.2.2.2.2.2.2.2.2.2.2.2.2.1
theorem dX10_init_925 : decode cX10_init 925 = .ok (.aload_n 0, 1) := da9_dX10_init_895.2.2.2.2.2.2.2.2.2.2.2.2.2.1
theorem dX10_init_926 : decode cX10_init 926 = .ok (.bipush 6, 2) := da9_dX10_init_895.2.2.2.2.2.2.2.2.2.2.2.2.2.2.1
theorem dX10_init_928 : decode cX10_init 928 = .ok (.newarray .int, 2) := da9_dX10_init_895.2.2.2.2.2.2.2.2.2.2.2.2.2.2.2
theorem da9_dX10_init_930 : (decode cX10_init 930 = .ok (.putfield 84, 3)) ∧ (decode cX10_init 933 = .ok (.aload_n 0, 1)) ∧ (decode cX10_init 934 = .ok (.sipush 588, 3)) ∧ (decode cX10_init 937 = .ok (.newarray .int, 2)) ∧ (decode cX10_init 939 = .ok (.putfield 87, 3)) ∧ (decode cX10_init 942 = .ok (.aload_n 0, 1)) ∧ (decode cX10_init 943 = .ok (.ldc 90, 2)) ∧ (decode cX10_init 945 = .ok (.newarray .int, 2)) ∧ (decode cX10_init 947 = .ok (.putfield 91, 3)) ∧ (decode cX10_init 950 = .ok (.aload_n 0, 1)) ∧ (decode cX10_init 951 = .ok (.ldc 90, 2)) ∧ (decode cX10_init 953 = .ok (.newarray .int, 2)) ∧ (decode cX10_init 955 = .ok (.putfield 94, 3)) ∧ (decode cX10_init 958 = .ok (.aload_n 0, 1)) ∧ (decode cX10_init 959 = .ok (.ldc 90, 2)) ∧ (decode cX10_init 961 = .ok (.newarray .int, 2)) := by decide +kernel
theorem dX10_init_930 : decode cX10_init 930 = .ok (.putfield 84, 3) := da9_dX10_init_930.1
theorem dX10_init_933 : decode cX10_init 933 = .ok (.aload_n 0, 1) := da9_dX10_init_930.2.1
theorem dX10_init_934 : decode cX10_init 934 = .ok (.sipush 588, 3) := da9_dX10_init_930.2.2.1
theorem dX10_init_937 : decode cX10_init 937 = .ok (.newarray .int, 2) := da9_dX10_init_930.2.2.2.1
theorem dX10_init_939 : decode cX10_init 939 = .ok (.putfield 87, 3) := da9_dX10_init_930.2.2.2.2.1
theorem dX10_init_942 : decode cX10_init 942 = .ok (.aload_n 0, 1) := da9_dX10_init_930.2.2.2.2.2.1
theorem dX10_init_943 : decode cX10_init 943 = .ok (.ldc 90, 2) := da9_dX10_init_930.2.2.2.2.2.2.1
theorem dX10_init_945 : decode cX10_init 945 = .ok (.newarray .int, 2) := da9_dX10_init_930.2.2.2.2.2.2.2.1
theorem dX10_init_947 : decode cX10_init 947 = .ok (.putfield 91, 3) := da9_dX10_init_930.2.2.2.2.2.2.2.2.1
theorem dX10_init_950 : decode cX10_init 950 = .ok (.aload_n 0, 1) := da9_dX10_init_930.2.2.2.2.2.2.2.2.2.1
theorem dX10_init_951 : decode cX10_init 951 = .ok (.ldc 90, 2) := da9_dX10_init_930.2.2.2.2.2.2.2.2.2.2.1
theorem dX10_init_953 : decode cX10_init 953 = .ok (.newarray .int, 2) := da9_dX10_init_930.2.2.2.2.2.2.2.2.2.2.2.1
theorem dX10_init_955 : decode cX10_init 955 = .ok (.putfield 94, 3) := da9_dX10_init_930.2.2.2.2.2.2.2.2.2.2.2.2.1
theorem dX10_init_958 : decode cX10_init 958 = .ok (.aload_n 0, 1) := da9_dX10_init_930.2.2.2.2.2.2.2.2.2.2.2.2.2.1
theorem dX10_init_959 : decode cX10_init 959 = .ok (.ldc 90, 2) := da9_dX10_init_930.2.2.2.2.2.2.2.2.2.2.2.2.2.2.1
theorem dX10_init_961 : decode cX10_init 961 = .ok (.newarray .int, 2) := da9_dX10_init_930.2.2.2.2.2.2.2.2.2.2.2.2.2.2.2
theorem da9_dX10_init_963 : (decode cX10_init 963 = .ok (.putfield 97, 3)) ∧ (decode cX10_init 966 = .ok (.aload_n 0, 1)) ∧ (decode cX10_init 967 = .ok (.ldc 90, 2)) ∧ (decode cX10_init 969 = .ok (.newarray .boolean, 2)) ∧ (decode cX10_init 971 = .ok (.putfield 100, 3)) ∧ (decode cX10_init 974 = .ok (.aload_n 0, 1)) ∧ (decode cX10_init 975 = .ok (.bipush 6, 2)) ∧ (decode cX10_init 977 = .ok (.newarray .int, 2)) ∧ (decode cX10_init 979 = .ok (.putfield 103, 3)) ∧ (decode cX10_init 982 = .ok (.aload_n 0, 1)) ∧ (decode cX10_init 983 = .ok (.bipush 21, 2)) ∧ (decode cX10_init 985 = .ok (.newarray .long, 2)) ∧ (decode cX10_init 987 = .ok (.putfield 106, 3)) ∧ (decode cX10_init 990 = .ok (.aload_n 0, 1)) ∧ (decode cX10_init 991 = .ok (.iconst (-1), 1)) ∧ (decode cX10_init 992 = .ok (.putfield 110, 3)) := by decide +kernel
theorem dX10_init_963 : decode cX10_init 963 = .ok (.putfield 97, 3) := da9_dX10_init_963.1
theorem dX10_init_966 : decode cX10_init 966 = .ok (.aload_n 0, 1) := da9_dX10_init_963.2.1
theorem dX10_init_967 : decode cX10_init 967 = .ok (.ldc 90, 2) := da9_dX10_init_963.2.2.1
theorem dX10_init_969 : decode cX10_init 969 = .ok (.newarray .boolean, 2) := da9_dX10_init_963.2.2.2.1
theorem dX10_init_971 : decode cX10_init 971 = .ok (.putfield 100, 3) := da9_dX10_init_963.2.2.2.2.1
theorem dX10_init_974 : decode cX10_init 974 = .ok (.aload_n 0, 1) := da9_dX10_init_963.2.2.2.2.2.1
theorem dX10_init_975 : decode cX10_init 975 = .ok (.bipush 6, 2) := da9_dX10_init_963.2.2.2.2.2.2.1
theorem dX10_init_977 : decode cX10_init 977 = .ok (.newarray .int, 2) := da9_dX10_init_963.2.2.2.2.2.2.2.1
theorem dX10_init_979 : decode cX10_init 979 = .ok (.putfield 103, 3) := da9_dX10_init_963.2.2.2.2.2.2.2.2.1
theorem dX10_init_982 : decode cX10_init 982 = .ok (.aload_n 0, 1) := da9_dX10_init_963.2.2.2.2.2.2.2.2.2.1
theorem dX10_init_983 : decode cX10_init 983 = .ok (.bipush 21, 2) := da9_dX10_init_963.2.2.2.2.2.2.2.2.2.2.1
theorem dX10_init_985 : decode cX10_init 985 = .ok (.newarray .long, 2) := da9_dX10_init_963.2.2.2.2.2.2.2.2.2.2.2.1
theorem dX10_init_987 : decode cX10_init 987 = .ok (.putfield 106, 3) := da9_dX10_init_963.2.2.2.2.2.2.2.2.2.2.2.2.1
theorem dX10_init_990 : decode cX10_init 990 = .ok (.aload_n 0, 1) := da9_dX10_init_963.2.2.2.2.2.2.2.2.2.2.2.2.2.1
theorem dX10_init_991 : decode cX10_init 991 = .ok (.iconst (-1), 1) := da9_dX10_init_963.2.2.2.2.2.2.2.2.2.2.2.2.2.2.1
theorem dX10_init_992 : decode cX10_init 992 = .ok (.putfield 110, 3) := da9_dX10_init_963.2.2.2.2.2.2.2.2.2.2.2.2.2.2.2
theorem da9_dX10_init_995 : (decode cX10_init 995 = .ok (.aload_n 0, 1)) ∧ (decode cX10_init 996 = .ok (.bipush 14, 2)) ∧ (decode cX10_init 998 = .ok (.newarray .int, 2)) ∧ (decode cX10_init 1000 = .ok (.putfield 113, 3)) ∧ (decode cX10_init 1003 = .ok (.aload_n 0, 1)) ∧ (decode cX10_init 1004 = .ok (.iconst (-1), 1)) ∧ (decode cX10_init 1005 = .ok (.putfield 116, 3)) ∧ (decode cX10_init 1008 = .ok (.aload_n 0, 1)) ∧ (decode cX10_init 1009 = .ok (.getfield 28, 3)) ∧ (decode cX10_init 1012 = .ok (.bipush 26, 2)) ∧ (decode cX10_init 1014 = .ok (.iconst 1, 1)) ∧ (decode cX10_init 1015 = .ok (.iastore, 1)) ∧ (decode cX10_init 1016 = .ok (.aload_n 0, 1)) ∧ (decode cX10_init 1017 = .ok (.getfield 28, 3)) ∧ (decode cX10_init 1020 = .ok (.bipush 32, 2)) ∧ (decode cX10_init 1022 = .ok (.iconst (-1), 1)) := by decide +kernel
theorem dX10_init_995 : decode cX10_init 995 = .ok (.aload_n 0, 1) := da9_dX10_init_995.1
theorem dX10_init_996 : decode cX10_init 996 = .ok (.bipush 14, 2) := da9_dX10_init_995.2.1
theorem dX10_init_998 : decode cX10_init 998 = .ok (.newarray .int, 2) := da9_dX10_init_995.2.2.1
theorem dX10_init_1000 : decode cX10_init 1000 = .ok (.putfield 113, 3) := da9_dX10_init_995.2.2.2.1
theorem dX10_init_1003 : decode cX10_init 1003 = .ok (.aload_n 0, 1) := da9_dX10_init_995.2.2.2.2.1
theorem dX10_init_1004 : decode cX10_init 1004 = .ok (.iconst (-1), 1) := da9_dX10_init_995.2.2.2.2.2.1
theorem dX10_init_1005 : decode cX10_init 1005 = .ok (.putfield 116, 3) := da9_dX10_init_995.2.2.2.2.2.2.1
theorem dX10_init_1008 : decode cX10_init 1008 = .ok (.aload_n 0, 1) := da9_dX10_init_995.2.2.2.2.2.2.2.1
theorem dX10_init_1009 : decode cX10_init 1009 = .ok (.getfield 28, 3) := da9_dX10_init_995.2.2.2.2.2.2.2.2.1
theorem dX10_init_1012 : decode cX10_init 1012 = .ok (.bipush 26, 2) := da9_dX10_init_995.2.2.2.2.2.2.2.2.2.1
theorem dX10_init_1014 : decode cX10_init 1014 = .ok (.iconst 1, 1) := da9_dX10_init_995.2.2.2.2.2.2.2.2.2.2.1
theorem dX10_init_1015 : decode cX10_init 1015 = .ok (.iastore, 1) := da9_dX10_init_995.2.2.2.2.2.2.2.2.2.2.2.1
theorem dX10_init_1016 : decode cX10_init 1016 = .ok (.aload_n 0, 1) := da9_dX10_init_995.2.2.2.2.2.2.2.2.2.2.2.2.1
theorem dX10_init_1017 : decode cX10_init 1017 = .ok (.getfield 28, 3) := da9_dX10_init_995.2.2.2.2.2.2.2.2.2.2.2.2.2.1
theorem dX10_init_1020 : decode cX10_init 1020 = .ok (.bipush 32, 2) := da9_dX10_init_995.2.2.2.2.2.2.2.2.2.2.2.2.2.2.1
theorem dX10_init_1022 : decode cX10_init 1022 = .ok (.iconst (-1), 1) := da9_dX10_init_995.2.2.2.2.2.2.2.2.2.2.2.2.2.2.2
theorem da9_dX10_init_1023 : (decode cX10_init 1023 = .ok (.iastore, 1)) ∧ (decode cX10_init 1024 = .ok (.return_, 1)) := by decide +kernel
theorem dX10_init_1023 : decode cX10_init 1023 = .ok (.iastore, 1) := da9_dX10_init_1023.1
theorem dX10_init_1024 : decode cX10_init 1024 = .ok (.return_, 1) := da9_dX10_init_1023.2
