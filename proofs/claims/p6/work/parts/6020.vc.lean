set_option maxHeartbeats 4000000 in
set_option maxRecDepth 100000 in
theorem ok_X2_valueOf_s18_s25_s23 (q : dK) (p2 : Int32) (p3 : Int32) (hT : TC q) (hp0 : 0 ≤ Int32.toInt p2) : dOk (zX2_valueOf_s18_s25_s23 q p2 p3) (fun (o : Int32 × dK) => (TC o.2) ∧ (cFr [19] [(18, 1)] q o.2)) := by
  unfold zX2_valueOf_s18_s25_s23
  refine dOk_L (fun q_1 eq_1 => ?_)
  have hTq_1 : TC q_1 := by rw [eq_1]; exact st_18_1 hT (show (0 : Int) ≤ (0 : Int) by omega) (show (0 : Int) ≤ (1 : Int) by omega)
  have hFq_1 : cFr [19] [(18, 1)] q q_1 := by rw [eq_1]; exact (cFr.rf (q := q)).f (by decide)
  refine dOk_L (fun q_2 eq_2 => ?_)
  have hTq_2 : TC q_2 := by rw [eq_2]; exact sa_19 hTq_1
  have hFq_2 : cFr [19] [(18, 1)] q q_2 := by rw [eq_2]; exact hFq_1.i (by decide)
  unfold zX2_valueOf_s18_s25_s23_32
  refine dFix_ok (fun (a : dK × Int32 × Int32 × Int32 × Int32) => (TC a.1) ∧ (cFr [19] [(18, 1)] q_2 a.1) ∧ (0 ≤ Int32.toInt a.2.1) ∧ (Int32.toInt a.2.1 ≤ 64) ∧ (0 ≤ Int32.toInt a.2.2.1) ∧ (0 ≤ Int32.toInt a.2.2.2.2) ∧ (Int32.toInt a.2.2.2.1 ≤ 400)) (fun (a : dK × Int32 × Int32 × Int32 × Int32) => (Int32.toInt a.2.2.2.1 - Int32.toInt a.2.2.2.2).toNat) ?_ _ ?_ _ (dF_gt ?_)
  · intro a ha k_4 hk_3
    obtain ⟨q_5, x5_6, x6_7, x7_8, x8_9⟩ := a
    replace ha : (TC q_5) ∧ (cFr [19] [(18, 1)] q_2 q_5) ∧ (0 ≤ Int32.toInt x5_6) ∧ (Int32.toInt x5_6 ≤ 64) ∧ (0 ≤ Int32.toInt x6_7) ∧ (0 ≤ Int32.toInt x8_9) ∧ (Int32.toInt x7_8 ≤ 400) := ha
    obtain ⟨a_10, a_11, a_12, a_13, a_14, a_15, a_16⟩ := ha
    show dOk (zX2_valueOf_s18_s25_s23_32b  (fun q x5 x6 x7 x8 => k_4 (q, x5, x6, x7, x8)) q_5 x5_6 x6_7 x7_8 x8_9) _
    unfold zX2_valueOf_s18_s25_s23_32b
    have hFq_5 : cFr [19] [(18, 1)] q q_5 := hFq_2.t a_11 (by decide) (by decide)
    have hn_22 : ∀ (q_17 : dK) (x5_18 : Int32) (x6_19 : Int32) (x7_20 : Int32) (x8_21 : Int32), TC q_17 → cFr [19] [(18, 1)] q_2 q_17 → (0 ≤ Int32.toInt x5_18) → (Int32.toInt x5_18 ≤ 64) → (0 ≤ Int32.toInt x6_19) → (0 ≤ Int32.toInt x8_21) → (Int32.toInt x8_21 < Int32.toInt x7_20) → (Int32.toInt x7_20 ≤ 400) → (Int32.toInt x8_21 = Int32.toInt x8_9) → (Int32.toInt x7_20 = Int32.toInt x7_8) → dOk (zX2_valueOf_s18_s25_s23_322 (fun q x5 x6 x7 x8 => k_4 (q, x5, x6, x7, x8)) q_17 x5_18 x6_19 x7_20 x8_21 ) (fun (o : Int32 × dK) => (TC o.2) ∧ (cFr [19] [(18, 1)] q o.2)) := by
      intro q_17 x5_18 x6_19 x7_20 x8_21 hT_31 hF_32 b_23 b_24 b_25 b_26 b_27 b_28 b_29 b_30
      unfold zX2_valueOf_s18_s25_s23_322
      have hFq_17 : cFr [19] [(18, 1)] q q_17 := hFq_2.t hF_32 (by decide) (by decide)
      obtain ⟨y_33, hy_33⟩ : ∃ y : Int32, x8_21 + 1 = y := ⟨_, rfl⟩
      have t_34 : Int32.toInt y_33 = Int32.toInt x8_21 + 1 := by rw [← hy_33]; exact ti_add rfl (by decide) (by omega) (by omega)
      rw [hy_33]
      clear hy_33
      exact hk_3 (q_17, x5_18, x6_19, x7_20, y_33) (show (TC q_17) ∧ (cFr [19] [(18, 1)] q_2 q_17) ∧ (0 ≤ Int32.toInt x5_18) ∧ (Int32.toInt x5_18 ≤ 64) ∧ (0 ≤ Int32.toInt x6_19) ∧ (0 ≤ Int32.toInt y_33) ∧ (Int32.toInt x7_20 ≤ 400) from ⟨hT_31, ((cFr.rf : cFr [19] [(18, 1)] q_2 q_2).t hF_32 (by decide) (by decide)), by omega, by omega, by omega, by omega, by omega⟩) (show (Int32.toInt x7_20 - Int32.toInt y_33).toNat < (Int32.toInt x7_8 - Int32.toInt x8_9).toNat by omega)
    have hn_40 : ∀ (q_35 : dK) (x6_36 : Int32) (x7_37 : Int32) (x8_38 : Int32) (y0_39 : Int32), TC q_35 → cFr [19] [(18, 1)] q_2 q_35 → (0 ≤ Int32.toInt y0_39) → (Int32.toInt y0_39 ≤ 64) → (0 ≤ Int32.toInt x6_36) → (0 ≤ Int32.toInt x8_38) → (Int32.toInt x8_38 < Int32.toInt x7_37) → (Int32.toInt x7_37 ≤ 400) → (Int32.toInt x8_38 = Int32.toInt x8_9) → (Int32.toInt x7_37 = Int32.toInt x7_8) → dOk (zX2_valueOf_s18_s25_s23_281 (fun q x5 x6 x7 x8 => k_4 (q, x5, x6, x7, x8)) q_35 x6_36 x7_37 x8_38 y0_39 ) (fun (o : Int32 × dK) => (TC o.2) ∧ (cFr [19] [(18, 1)] q o.2)) := by
      intro q_35 x6_36 x7_37 x8_38 y0_39 hT_49 hF_50 b_41 b_42 b_43 b_44 b_45 b_46 b_47 b_48
      unfold zX2_valueOf_s18_s25_s23_281
      have hFq_35 : cFr [19] [(18, 1)] q q_35 := hFq_2.t hF_50 (by decide) (by decide)
      exact hn_22 q_35 y0_39 x6_36 x7_37 x8_38 hT_49 ((cFr.rf : cFr [19] [(18, 1)] q_2 q_2).t hF_50 (by decide) (by decide)) (show 0 ≤ Int32.toInt y0_39 by omega) (show Int32.toInt y0_39 ≤ 64 by omega) (show 0 ≤ Int32.toInt x6_36 by omega) (show 0 ≤ Int32.toInt x8_38 by omega) (show Int32.toInt x8_38 < Int32.toInt x7_37 by omega) (show Int32.toInt x7_37 ≤ 400 by omega) (show Int32.toInt x8_38 = Int32.toInt x8_9 by omega) (show Int32.toInt x7_37 = Int32.toInt x7_8 by omega)
    have hn_57 : ∀ (q_51 : dK) (x5_52 : Int32) (x7_53 : Int32) (x8_54 : Int32) (x12_55 : Int32) (y0_56 : Int32), TC q_51 → cFr [19] [(18, 1)] q_2 q_51 → (1 ≤ Int32.toInt x5_52) → (Int32.toInt x5_52 ≤ 63) → (0 ≤ Int32.toInt y0_56) → (0 ≤ Int32.toInt x8_54) → (Int32.toInt x8_54 < Int32.toInt x7_53) → (Int32.toInt x7_53 ≤ 400) → (Int32.toInt x8_54 = Int32.toInt x8_9) → (Int32.toInt x7_53 = Int32.toInt x7_8) → dOk (zX2_valueOf_s18_s25_s23_265 (fun q x5 x6 x7 x8 => k_4 (q, x5, x6, x7, x8)) q_51 x5_52 x7_53 x8_54 x12_55 y0_56 ) (fun (o : Int32 × dK) => (TC o.2) ∧ (cFr [19] [(18, 1)] q o.2)) := by
      intro q_51 x5_52 x7_53 x8_54 x12_55 y0_56 hT_66 hF_67 b_58 b_59 b_60 b_61 b_62 b_63 b_64 b_65
      unfold zX2_valueOf_s18_s25_s23_265
      have hFq_51 : cFr [19] [(18, 1)] q q_51 := hFq_2.t hF_67 (by decide) (by decide)
      refine dOk_eq (A := Int32.toInt x12_55) (B := 0) rfl (by decide) (fun c_68z c_68 => ?_) (fun c_69z c_69 => ?_)
      · obtain ⟨y_71, hy_71⟩ : ∃ y : Int32, (x5_52 - 1 : Int32) = y := ⟨_, rfl⟩
        have t_72 : Int32.toInt y_71 = Int32.toInt x5_52 - 1 := by rw [← hy_71]; exact ti_sub rfl (by decide) (by omega) (by omega)
        try rw [hy_71]
        clear hy_71
        exact hn_40 q_51 y0_56 x7_53 x8_54 y_71 hT_66 ((cFr.rf : cFr [19] [(18, 1)] q_2 q_2).t hF_67 (by decide) (by decide)) (show 0 ≤ Int32.toInt y_71 by omega) (show Int32.toInt y_71 ≤ 64 by omega) (show 0 ≤ Int32.toInt y0_56 by omega) (show 0 ≤ Int32.toInt x8_54 by omega) (show Int32.toInt x8_54 < Int32.toInt x7_53 by omega) (show Int32.toInt x7_53 ≤ 400 by omega) (show Int32.toInt x8_54 = Int32.toInt x8_9 by omega) (show Int32.toInt x7_53 = Int32.toInt x7_8 by omega)
      · exact hn_40 q_51 y0_56 x7_53 x8_54 x5_52 hT_66 ((cFr.rf : cFr [19] [(18, 1)] q_2 q_2).t hF_67 (by decide) (by decide)) (show 0 ≤ Int32.toInt x5_52 by omega) (show Int32.toInt x5_52 ≤ 64 by omega) (show 0 ≤ Int32.toInt y0_56 by omega) (show 0 ≤ Int32.toInt x8_54 by omega) (show Int32.toInt x8_54 < Int32.toInt x7_53 by omega) (show Int32.toInt x7_53 ≤ 400 by omega) (show Int32.toInt x8_54 = Int32.toInt x8_9 by omega) (show Int32.toInt x7_53 = Int32.toInt x7_8 by omega)
    have hn_80 : ∀ (q_73 : dK) (x5_74 : Int32) (x6_75 : Int32) (x7_76 : Int32) (x8_77 : Int32) (x10_78 : Int32) (y0_79 : Int32), TC q_73 → cFr [19] [(18, 1)] q_2 q_73 → (1 ≤ Int32.toInt x5_74) → (Int32.toInt x5_74 ≤ 63) → (0 ≤ Int32.toInt x6_75) → (0 ≤ Int32.toInt x8_77) → (Int32.toInt x8_77 < Int32.toInt x7_76) → (0 ≤ Int32.toInt x10_78) → (Int32.toInt x7_76 ≤ 400) → (Int32.toInt x8_77 = Int32.toInt x8_9) → (Int32.toInt x7_76 = Int32.toInt x7_8) → dOk (zX2_valueOf_s18_s25_s23_251 (fun q x5 x6 x7 x8 => k_4 (q, x5, x6, x7, x8)) q_73 x5_74 x6_75 x7_76 x8_77 x10_78 y0_79 ) (fun (o : Int32 × dK) => (TC o.2) ∧ (cFr [19] [(18, 1)] q o.2)) := by
      intro q_73 x5_74 x6_75 x7_76 x8_77 x10_78 y0_79 hT_90 hF_91 b_81 b_82 b_83 b_84 b_85 b_86 b_87 b_88 b_89
      unfold zX2_valueOf_s18_s25_s23_251
      have hFq_73 : cFr [19] [(18, 1)] q q_73 := hFq_2.t hF_91 (by decide) (by decide)
      refine dOk_eq (A := Int32.toInt y0_79) (B := 0) rfl (by decide) (fun c_92z c_92 => ?_) (fun c_93z c_93 => ?_)
      · exact hn_57 q_73 x5_74 x7_76 x8_77 y0_79 x6_75 hT_90 ((cFr.rf : cFr [19] [(18, 1)] q_2 q_2).t hF_91 (by decide) (by decide)) (show 1 ≤ Int32.toInt x5_74 by omega) (show Int32.toInt x5_74 ≤ 63 by omega) (show 0 ≤ Int32.toInt x6_75 by omega) (show 0 ≤ Int32.toInt x8_77 by omega) (show Int32.toInt x8_77 < Int32.toInt x7_76 by omega) (show Int32.toInt x7_76 ≤ 400 by omega) (show Int32.toInt x8_77 = Int32.toInt x8_9 by omega) (show Int32.toInt x7_76 = Int32.toInt x7_8 by omega)
      · exact hn_57 q_73 x5_74 x7_76 x8_77 y0_79 x10_78 hT_90 ((cFr.rf : cFr [19] [(18, 1)] q_2 q_2).t hF_91 (by decide) (by decide)) (show 1 ≤ Int32.toInt x5_74 by omega) (show Int32.toInt x5_74 ≤ 63 by omega) (show 0 ≤ Int32.toInt x10_78 by omega) (show 0 ≤ Int32.toInt x8_77 by omega) (show Int32.toInt x8_77 < Int32.toInt x7_76 by omega) (show Int32.toInt x7_76 ≤ 400 by omega) (show Int32.toInt x8_77 = Int32.toInt x8_9 by omega) (show Int32.toInt x7_76 = Int32.toInt x7_8 by omega)
    have hn_103 : ∀ (q_95 : dK) (x5_96 : Int32) (x6_97 : Int32) (x7_98 : Int32) (x8_99 : Int32) (x10_100 : Int32) (y0_101 : Int32) (y1_102 : Int32), TC q_95 → cFr [19] [(18, 1)] q_2 q_95 → (1 ≤ Int32.toInt x5_96) → (Int32.toInt x5_96 ≤ 63) → (0 ≤ Int32.toInt x6_97) → (0 ≤ Int32.toInt x8_99) → (Int32.toInt x8_99 < Int32.toInt x7_98) → (0 ≤ Int32.toInt x10_100) → (Int32.toInt x7_98 ≤ 400) → (Int32.toInt x8_99 = Int32.toInt x8_9) → (Int32.toInt x7_98 = Int32.toInt x7_8) → dOk (zX2_valueOf_s18_s25_s23_243 (fun q x5 x6 x7 x8 => k_4 (q, x5, x6, x7, x8)) q_95 x5_96 x6_97 x7_98 x8_99 x10_100 y0_101 y1_102 ) (fun (o : Int32 × dK) => (TC o.2) ∧ (cFr [19] [(18, 1)] q o.2)) := by
      intro q_95 x5_96 x6_97 x7_98 x8_99 x10_100 y0_101 y1_102 hT_113 hF_114 b_104 b_105 b_106 b_107 b_108 b_109 b_110 b_111 b_112
      unfold zX2_valueOf_s18_s25_s23_243
      have hFq_95 : cFr [19] [(18, 1)] q q_95 := hFq_2.t hF_114 (by decide) (by decide)
      refine dOk_eq (A := Int32.toInt y1_102) (B := Int32.toInt y0_101) rfl rfl (fun c_115z c_115 => ?_) (fun c_116z c_116 => ?_)
      · exact hn_80 q_95 x5_96 x6_97 x7_98 x8_99 x10_100 1 hT_113 ((cFr.rf : cFr [19] [(18, 1)] q_2 q_2).t hF_114 (by decide) (by decide)) (show 1 ≤ Int32.toInt x5_96 by omega) (show Int32.toInt x5_96 ≤ 63 by omega) (show 0 ≤ Int32.toInt x6_97 by omega) (show 0 ≤ Int32.toInt x8_99 by omega) (show Int32.toInt x8_99 < Int32.toInt x7_98 by omega) (show 0 ≤ Int32.toInt x10_100 by omega) (show Int32.toInt x7_98 ≤ 400 by omega) (show Int32.toInt x8_99 = Int32.toInt x8_9 by omega) (show Int32.toInt x7_98 = Int32.toInt x7_8 by omega)
      · exact hn_80 q_95 x5_96 x6_97 x7_98 x8_99 x10_100 0 hT_113 ((cFr.rf : cFr [19] [(18, 1)] q_2 q_2).t hF_114 (by decide) (by decide)) (show 1 ≤ Int32.toInt x5_96 by omega) (show Int32.toInt x5_96 ≤ 63 by omega) (show 0 ≤ Int32.toInt x6_97 by omega) (show 0 ≤ Int32.toInt x8_99 by omega) (show Int32.toInt x8_99 < Int32.toInt x7_98 by omega) (show 0 ≤ Int32.toInt x10_100 by omega) (show Int32.toInt x7_98 ≤ 400 by omega) (show Int32.toInt x8_99 = Int32.toInt x8_9 by omega) (show Int32.toInt x7_98 = Int32.toInt x7_8 by omega)
    have hn_125 : ∀ (q_118 : dK) (x5_119 : Int32) (x6_120 : Int32) (x7_121 : Int32) (x8_122 : Int32) (x9_123 : Int32) (x10_124 : Int32), TC q_118 → cFr [19] [(18, 1)] q_2 q_118 → (1 ≤ Int32.toInt x5_119) → (Int32.toInt x5_119 ≤ 63) → (0 ≤ Int32.toInt x6_120) → (0 ≤ Int32.toInt x8_122) → (Int32.toInt x8_122 < Int32.toInt x7_121) → (0 ≤ Int32.toInt x10_124) → (Int32.toInt x7_121 ≤ 400) → (Int32.toInt x8_122 = Int32.toInt x8_9) → (Int32.toInt x7_121 = Int32.toInt x7_8) → dOk (zX2_valueOf_s18_s25_s23_222 (fun q x5 x6 x7 x8 => k_4 (q, x5, x6, x7, x8)) q_118 x5_119 x6_120 x7_121 x8_122 x9_123 x10_124 ) (fun (o : Int32 × dK) => (TC o.2) ∧ (cFr [19] [(18, 1)] q o.2)) := by
      intro q_118 x5_119 x6_120 x7_121 x8_122 x9_123 x10_124 hT_135 hF_136 b_126 b_127 b_128 b_129 b_130 b_131 b_132 b_133 b_134
      unfold zX2_valueOf_s18_s25_s23_222
      have hFq_118 : cFr [19] [(18, 1)] q q_118 := hFq_2.t hF_136 (by decide) (by decide)
      obtain ⟨y_137, hy_137⟩ : ∃ y : Int32, (x5_119 - 1 : Int32) = y := ⟨_, rfl⟩
      have t_138 : Int32.toInt y_137 = Int32.toInt x5_119 - 1 := by rw [← hy_137]; exact ti_sub rfl (by decide) (by omega) (by omega)
      try rw [hy_137]
      clear hy_137
      refine dOk_G (dg_ok (show 0 ≤ Int32.toInt y_137 by omega) (show Int32.toInt y_137 < ((64 : Nat) : Int) by omega)) ?_
      have n_139 : ((Int32.toNatClampNeg y_137 : Nat) : Int) = Int32.toInt y_137 := cl_eq (by omega)
      refine dOk_L (fun v_140 ev_140 => ?_)
      refine dOk_eq (A := Int32.toInt x9_123) (B := 12) rfl (by decide) (fun c_141z c_141 => ?_) (fun c_142z c_142 => ?_)
      · exact hn_103 q_118 x5_119 x6_120 x7_121 x8_122 x10_124 1 v_140 hT_135 ((cFr.rf : cFr [19] [(18, 1)] q_2 q_2).t hF_136 (by decide) (by decide)) (show 1 ≤ Int32.toInt x5_119 by omega) (show Int32.toInt x5_119 ≤ 63 by omega) (show 0 ≤ Int32.toInt x6_120 by omega) (show 0 ≤ Int32.toInt x8_122 by omega) (show Int32.toInt x8_122 < Int32.toInt x7_121 by omega) (show 0 ≤ Int32.toInt x10_124 by omega) (show Int32.toInt x7_121 ≤ 400 by omega) (show Int32.toInt x8_122 = Int32.toInt x8_9 by omega) (show Int32.toInt x7_121 = Int32.toInt x7_8 by omega)
      · exact hn_103 q_118 x5_119 x6_120 x7_121 x8_122 x10_124 0 v_140 hT_135 ((cFr.rf : cFr [19] [(18, 1)] q_2 q_2).t hF_136 (by decide) (by decide)) (show 1 ≤ Int32.toInt x5_119 by omega) (show Int32.toInt x5_119 ≤ 63 by omega) (show 0 ≤ Int32.toInt x6_120 by omega) (show 0 ≤ Int32.toInt x8_122 by omega) (show Int32.toInt x8_122 < Int32.toInt x7_121 by omega) (show 0 ≤ Int32.toInt x10_124 by omega) (show Int32.toInt x7_121 ≤ 400 by omega) (show Int32.toInt x8_122 = Int32.toInt x8_9 by omega) (show Int32.toInt x7_121 = Int32.toInt x7_8 by omega)
    have hn_151 : ∀ (q_144 : dK) (x5_145 : Int32) (x6_146 : Int32) (x7_147 : Int32) (x8_148 : Int32) (y0_149 : Int32) (y1_150 : Int32), TC q_144 → cFr [19] [(18, 1)] q_2 q_144 → (0 ≤ Int32.toInt x5_145) → (Int32.toInt x5_145 ≤ 63) → (Int32.toInt y1_150 = Int32.toInt x5_145) → (0 ≤ Int32.toInt x6_146) → (0 ≤ Int32.toInt x8_148) → (Int32.toInt x8_148 < Int32.toInt x7_147) → (Int32.toInt x7_147 ≤ 400) → (Int32.toInt x8_148 = Int32.toInt x8_9) → (Int32.toInt x7_147 = Int32.toInt x7_8) → dOk (zX2_valueOf_s18_s25_s23_171 (fun q x5 x6 x7 x8 => k_4 (q, x5, x6, x7, x8)) q_144 x5_145 x6_146 x7_147 x8_148 y0_149 y1_150 ) (fun (o : Int32 × dK) => (TC o.2) ∧ (cFr [19] [(18, 1)] q o.2)) := by
      intro q_144 x5_145 x6_146 x7_147 x8_148 y0_149 y1_150 hT_161 hF_162 b_152 b_153 b_154 b_155 b_156 b_157 b_158 b_159 b_160
      unfold zX2_valueOf_s18_s25_s23_171
      have hFq_144 : cFr [19] [(18, 1)] q q_144 := hFq_2.t hF_162 (by decide) (by decide)
      refine dOk_G (dg_ok (show 0 ≤ Int32.toInt y1_150 by omega) (show Int32.toInt y1_150 < ((64 : Nat) : Int) by omega)) ?_
      have n_163 : ((Int32.toNatClampNeg y1_150 : Nat) : Int) = Int32.toInt y1_150 := cl_eq (by omega)
      refine dOk_L (fun q_164 eq_164 => ?_)
      have hTq_164 : TC q_164 := by rw [eq_164]; exact sa_19 hT_161
      have hFq_164 : cFr [19] [(18, 1)] q q_164 := by rw [eq_164]; exact hFq_144.i (by decide)
      obtain ⟨y_165, hy_165⟩ : ∃ y : Int32, (x5_145 + 1 : Int32) = y := ⟨_, rfl⟩
      have t_166 : Int32.toInt y_165 = Int32.toInt x5_145 + 1 := by rw [← hy_165]; exact ti_add rfl (by decide) (by omega) (by omega)
      try rw [hy_165]
      clear hy_165
      exact hn_22 q_164 y_165 x6_146 x7_147 x8_148 hTq_164 (by rw [eq_164]; exact (((cFr.rf : cFr [19] [(18, 1)] q_2 q_2).t hF_162 (by decide) (by decide)) : cFr [19] [(18, 1)] q_2 q_144).i (by decide)) (show 0 ≤ Int32.toInt y_165 by omega) (show Int32.toInt y_165 ≤ 64 by omega) (show 0 ≤ Int32.toInt x6_146 by omega) (show 0 ≤ Int32.toInt x8_148 by omega) (show Int32.toInt x8_148 < Int32.toInt x7_147 by omega) (show Int32.toInt x7_147 ≤ 400 by omega) (show Int32.toInt x8_148 = Int32.toInt x8_9 by omega) (show Int32.toInt x7_147 = Int32.toInt x7_8 by omega)
    have hn_174 : ∀ (q_167 : dK) (x5_168 : Int32) (x6_169 : Int32) (x7_170 : Int32) (x8_171 : Int32) (x9_172 : Int32) (x10_173 : Int32), TC q_167 → cFr [19] [(18, 1)] q_2 q_167 → (0 ≤ Int32.toInt x5_168) → (Int32.toInt x5_168 ≤ 63) → (0 ≤ Int32.toInt x6_169) → (0 ≤ Int32.toInt x8_171) → (Int32.toInt x8_171 < Int32.toInt x7_170) → (0 ≤ Int32.toInt x10_173) → (Int32.toInt x9_172 = 0 ∨ Int32.toInt x10_173 < 17) → (Int32.toInt x7_170 ≤ 400) → (Int32.toInt x8_171 = Int32.toInt x8_9) → (Int32.toInt x7_170 = Int32.toInt x7_8) → dOk (zX2_valueOf_s18_s25_s23_150 (fun q x5 x6 x7 x8 => k_4 (q, x5, x6, x7, x8)) q_167 x5_168 x6_169 x7_170 x8_171 x9_172 x10_173 ) (fun (o : Int32 × dK) => (TC o.2) ∧ (cFr [19] [(18, 1)] q o.2)) := by
      intro q_167 x5_168 x6_169 x7_170 x8_171 x9_172 x10_173 hT_185 hF_186 b_175 b_176 b_177 b_178 b_179 b_180 b_181 b_182 b_183 b_184
      unfold zX2_valueOf_s18_s25_s23_150
      have hFq_167 : cFr [19] [(18, 1)] q q_167 := hFq_2.t hF_186 (by decide) (by decide)
      refine dOk_eq (A := Int32.toInt x9_172) (B := 0) rfl (by decide) (fun c_187z c_187 => ?_) (fun c_188z c_188 => ?_)
      · exact hn_151 q_167 x5_168 x6_169 x7_170 x8_171 x10_173 x5_168 hT_185 ((cFr.rf : cFr [19] [(18, 1)] q_2 q_2).t hF_186 (by decide) (by decide)) (show 0 ≤ Int32.toInt x5_168 by omega) (show Int32.toInt x5_168 ≤ 63 by omega) (show Int32.toInt x5_168 = Int32.toInt x5_168 by omega) (show 0 ≤ Int32.toInt x6_169 by omega) (show 0 ≤ Int32.toInt x8_171 by omega) (show Int32.toInt x8_171 < Int32.toInt x7_170 by omega) (show Int32.toInt x7_170 ≤ 400 by omega) (show Int32.toInt x8_171 = Int32.toInt x8_9 by omega) (show Int32.toInt x7_170 = Int32.toInt x7_8 by omega)
      · refine dOk_G (dg_ok (show 0 ≤ Int32.toInt x10_173 by omega) (show Int32.toInt x10_173 < ((17 : Nat) : Int) by omega)) ?_
        have n_190 : ((Int32.toNatClampNeg x10_173 : Nat) : Int) = Int32.toInt x10_173 := cl_eq (by omega)
        refine dOk_L (fun v_191 ev_191 => ?_)
        exact hn_151 q_167 x5_168 x6_169 x7_170 x8_171 v_191 x5_168 hT_185 ((cFr.rf : cFr [19] [(18, 1)] q_2 q_2).t hF_186 (by decide) (by decide)) (show 0 ≤ Int32.toInt x5_168 by omega) (show Int32.toInt x5_168 ≤ 63 by omega) (show Int32.toInt x5_168 = Int32.toInt x5_168 by omega) (show 0 ≤ Int32.toInt x6_169 by omega) (show 0 ≤ Int32.toInt x8_171 by omega) (show Int32.toInt x8_171 < Int32.toInt x7_170 by omega) (show Int32.toInt x7_170 ≤ 400 by omega) (show Int32.toInt x8_171 = Int32.toInt x8_9 by omega) (show Int32.toInt x7_170 = Int32.toInt x7_8 by omega)
    have hn_197 : ∀ (q_192 : dK) (x5_193 : Int32) (x6_194 : Int32) (x7_195 : Int32) (x8_196 : Int32), TC q_192 → cFr [19] [(18, 1)] q_2 q_192 → (0 ≤ Int32.toInt x5_193) → (Int32.toInt x5_193 ≤ 64) → (0 ≤ Int32.toInt x6_194) → (0 ≤ Int32.toInt x8_196) → (Int32.toInt x8_196 < Int32.toInt x7_195) → (Int32.toInt x7_195 ≤ 400) → (Int32.toInt x8_196 = Int32.toInt x8_9) → (Int32.toInt x7_195 = Int32.toInt x7_8) → dOk (zX2_valueOf_s18_s25_s23_131 (fun q x5 x6 x7 x8 => k_4 (q, x5, x6, x7, x8)) q_192 x5_193 x6_194 x7_195 x8_196 ) (fun (o : Int32 × dK) => (TC o.2) ∧ (cFr [19] [(18, 1)] q o.2)) := by
      intro q_192 x5_193 x6_194 x7_195 x8_196 hT_206 hF_207 b_198 b_199 b_200 b_201 b_202 b_203 b_204 b_205
      unfold zX2_valueOf_s18_s25_s23_131
      have hFq_192 : cFr [19] [(18, 1)] q q_192 := hFq_2.t hF_207 (by decide) (by decide)
      refine dOk_L (fun q_208 eq_208 => ?_)
      have hTq_208 : TC q_208 := by rw [eq_208]; exact st_18_1 hT_206 (show (0 : Int) ≤ (1 : Int) by omega) (show (1 : Int) ≤ (1 : Int) by omega)
      have hFq_208 : cFr [19] [(18, 1)] q q_208 := by rw [eq_208]; exact hFq_192.f (by decide)
      exact hn_22 q_208 x5_193 x6_194 x7_195 x8_196 hTq_208 (by rw [eq_208]; exact (((cFr.rf : cFr [19] [(18, 1)] q_2 q_2).t hF_207 (by decide) (by decide)) : cFr [19] [(18, 1)] q_2 q_192).f (by decide)) (show 0 ≤ Int32.toInt x5_193 by omega) (show Int32.toInt x5_193 ≤ 64 by omega) (show 0 ≤ Int32.toInt x6_194 by omega) (show 0 ≤ Int32.toInt x8_196 by omega) (show Int32.toInt x8_196 < Int32.toInt x7_195 by omega) (show Int32.toInt x7_195 ≤ 400 by omega) (show Int32.toInt x8_196 = Int32.toInt x8_9 by omega) (show Int32.toInt x7_195 = Int32.toInt x7_8 by omega)
    have hn_216 : ∀ (q_209 : dK) (x5_210 : Int32) (x6_211 : Int32) (x7_212 : Int32) (x8_213 : Int32) (x9_214 : Int32) (x10_215 : Int32), TC q_209 → cFr [19] [(18, 1)] q_2 q_209 → (0 ≤ Int32.toInt x5_210) → (Int32.toInt x5_210 ≤ 63) → (0 ≤ Int32.toInt x6_211) → (0 ≤ Int32.toInt x8_213) → (Int32.toInt x8_213 < Int32.toInt x7_212) → (0 ≤ Int32.toInt x10_215) → ((Int32.toInt x9_214 = 0 ∨ (Int32.toInt x9_214 = 1 ∧ Int32.toInt x10_215 < 17) ∨ (2 ≤ Int32.toInt x9_214 ∧ Int32.toInt x9_214 ≤ 9 ∧ 2 ≤ Int32.toInt x5_210) ∨ (10 ≤ Int32.toInt x9_214 ∧ Int32.toInt x9_214 ≤ 12 ∧ 1 ≤ Int32.toInt x5_210))) → (Int32.toInt x7_212 ≤ 400) → (Int32.toInt x8_213 = Int32.toInt x8_9) → (Int32.toInt x7_212 = Int32.toInt x7_8) → dOk (zX2_valueOf_s18_s25_s23_139 (fun q x5 x6 x7 x8 => k_4 (q, x5, x6, x7, x8)) q_209 x5_210 x6_211 x7_212 x8_213 x9_214 x10_215 ) (fun (o : Int32 × dK) => (TC o.2) ∧ (cFr [19] [(18, 1)] q o.2)) := by
      intro q_209 x5_210 x6_211 x7_212 x8_213 x9_214 x10_215 hT_227 hF_228 b_217 b_218 b_219 b_220 b_221 b_222 b_223 b_224 b_225 b_226
      unfold zX2_valueOf_s18_s25_s23_139
      have hFq_209 : cFr [19] [(18, 1)] q q_209 := hFq_2.t hF_228 (by decide) (by decide)
      refine dOk_eq (A := Int32.toInt x9_214) (B := 0) rfl (by decide) (fun c_229z c_229 => ?_) (fun c_230z c_230 => ?_)
      · exact hn_174 q_209 x5_210 x6_211 x7_212 x8_213 x9_214 x10_215 hT_227 ((cFr.rf : cFr [19] [(18, 1)] q_2 q_2).t hF_228 (by decide) (by decide)) (show 0 ≤ Int32.toInt x5_210 by omega) (show Int32.toInt x5_210 ≤ 63 by omega) (show 0 ≤ Int32.toInt x6_211 by omega) (show 0 ≤ Int32.toInt x8_213 by omega) (show Int32.toInt x8_213 < Int32.toInt x7_212 by omega) (show 0 ≤ Int32.toInt x10_215 by omega) (show Int32.toInt x9_214 = 0 ∨ Int32.toInt x10_215 < 17 by omega) (show Int32.toInt x7_212 ≤ 400 by omega) (show Int32.toInt x8_213 = Int32.toInt x8_9 by omega) (show Int32.toInt x7_212 = Int32.toInt x7_8 by omega)
      · refine dOk_eq (A := Int32.toInt x9_214) (B := 1) rfl (by decide) (fun c_232z c_232 => ?_) (fun c_233z c_233 => ?_)
        · exact hn_174 q_209 x5_210 x6_211 x7_212 x8_213 x9_214 x10_215 hT_227 ((cFr.rf : cFr [19] [(18, 1)] q_2 q_2).t hF_228 (by decide) (by decide)) (show 0 ≤ Int32.toInt x5_210 by omega) (show Int32.toInt x5_210 ≤ 63 by omega) (show 0 ≤ Int32.toInt x6_211 by omega) (show 0 ≤ Int32.toInt x8_213 by omega) (show Int32.toInt x8_213 < Int32.toInt x7_212 by omega) (show 0 ≤ Int32.toInt x10_215 by omega) (show Int32.toInt x9_214 = 0 ∨ Int32.toInt x10_215 < 17 by omega) (show Int32.toInt x7_212 ≤ 400 by omega) (show Int32.toInt x8_213 = Int32.toInt x8_9 by omega) (show Int32.toInt x7_212 = Int32.toInt x7_8 by omega)
        · refine dOk_eq (A := Int32.toInt x9_214) (B := 10) rfl (by decide) (fun c_235z c_235 => ?_) (fun c_236z c_236 => ?_)
          · obtain ⟨y_238, hy_238⟩ : ∃ y : Int32, (x5_210 - 1 : Int32) = y := ⟨_, rfl⟩
            have t_239 : Int32.toInt y_238 = Int32.toInt x5_210 - 1 := by rw [← hy_238]; exact ti_sub rfl (by decide) (by omega) (by omega)
            try rw [hy_238]
            clear hy_238
            refine dOk_G (dg_ok (show 0 ≤ Int32.toInt y_238 by omega) (show Int32.toInt y_238 < ((64 : Nat) : Int) by omega)) ?_
            have n_240 : ((Int32.toNatClampNeg y_238 : Nat) : Int) = Int32.toInt y_238 := cl_eq (by omega)
            refine dOk_L (fun v_241 ev_241 => ?_)
            refine dOk_G (dg_ok (show 0 ≤ Int32.toInt y_238 by omega) (show Int32.toInt y_238 < ((64 : Nat) : Int) by omega)) ?_
            refine dOk_L (fun q_242 eq_242 => ?_)
            have hTq_242 : TC q_242 := by rw [eq_242]; exact sa_19 hT_227
            have hFq_242 : cFr [19] [(18, 1)] q q_242 := by rw [eq_242]; exact hFq_209.i (by decide)
            exact hn_22 q_242 x5_210 x6_211 x7_212 x8_213 hTq_242 (by rw [eq_242]; exact (((cFr.rf : cFr [19] [(18, 1)] q_2 q_2).t hF_228 (by decide) (by decide)) : cFr [19] [(18, 1)] q_2 q_209).i (by decide)) (show 0 ≤ Int32.toInt x5_210 by omega) (show Int32.toInt x5_210 ≤ 64 by omega) (show 0 ≤ Int32.toInt x6_211 by omega) (show 0 ≤ Int32.toInt x8_213 by omega) (show Int32.toInt x8_213 < Int32.toInt x7_212 by omega) (show Int32.toInt x7_212 ≤ 400 by omega) (show Int32.toInt x8_213 = Int32.toInt x8_9 by omega) (show Int32.toInt x7_212 = Int32.toInt x7_8 by omega)
          · refine dOk_eq (A := Int32.toInt x9_214) (B := 11) rfl (by decide) (fun c_243z c_243 => ?_) (fun c_244z c_244 => ?_)
            · exact hn_125 q_209 x5_210 x6_211 x7_212 x8_213 x9_214 x10_215 hT_227 ((cFr.rf : cFr [19] [(18, 1)] q_2 q_2).t hF_228 (by decide) (by decide)) (show 1 ≤ Int32.toInt x5_210 by omega) (show Int32.toInt x5_210 ≤ 63 by omega) (show 0 ≤ Int32.toInt x6_211 by omega) (show 0 ≤ Int32.toInt x8_213 by omega) (show Int32.toInt x8_213 < Int32.toInt x7_212 by omega) (show 0 ≤ Int32.toInt x10_215 by omega) (show Int32.toInt x7_212 ≤ 400 by omega) (show Int32.toInt x8_213 = Int32.toInt x8_9 by omega) (show Int32.toInt x7_212 = Int32.toInt x7_8 by omega)
            · refine dOk_eq (A := Int32.toInt x9_214) (B := 12) rfl (by decide) (fun c_246z c_246 => ?_) (fun c_247z c_247 => ?_)
              · exact hn_125 q_209 x5_210 x6_211 x7_212 x8_213 x9_214 x10_215 hT_227 ((cFr.rf : cFr [19] [(18, 1)] q_2 q_2).t hF_228 (by decide) (by decide)) (show 1 ≤ Int32.toInt x5_210 by omega) (show Int32.toInt x5_210 ≤ 63 by omega) (show 0 ≤ Int32.toInt x6_211 by omega) (show 0 ≤ Int32.toInt x8_213 by omega) (show Int32.toInt x8_213 < Int32.toInt x7_212 by omega) (show 0 ≤ Int32.toInt x10_215 by omega) (show Int32.toInt x7_212 ≤ 400 by omega) (show Int32.toInt x8_213 = Int32.toInt x8_9 by omega) (show Int32.toInt x7_212 = Int32.toInt x7_8 by omega)
              · obtain ⟨y_249, hy_249⟩ : ∃ y : Int32, (x5_210 + (-1) : Int32) = y := ⟨_, rfl⟩
                have t_250 : Int32.toInt y_249 = Int32.toInt x5_210 + (-1) := by rw [← hy_249]; exact ti_add rfl (by decide) (by omega) (by omega)
                try rw [hy_249]
                clear hy_249
                obtain ⟨y_251, hy_251⟩ : ∃ y : Int32, (y_249 - 1 : Int32) = y := ⟨_, rfl⟩
                have t_252 : Int32.toInt y_251 = Int32.toInt y_249 - 1 := by rw [← hy_251]; exact ti_sub rfl (by decide) (by omega) (by omega)
                try rw [hy_251]
                clear hy_251
                refine dOk_G (dg_ok (show 0 ≤ Int32.toInt y_251 by omega) (show Int32.toInt y_251 < ((64 : Nat) : Int) by omega)) ?_
                have n_253 : ((Int32.toNatClampNeg y_251 : Nat) : Int) = Int32.toInt y_251 := cl_eq (by omega)
                refine dOk_L (fun v_254 ev_254 => ?_)
                refine dOk_G (dg_ok (show 0 ≤ Int32.toInt y_249 by omega) (show Int32.toInt y_249 < ((64 : Nat) : Int) by omega)) ?_
                have n_255 : ((Int32.toNatClampNeg y_249 : Nat) : Int) = Int32.toInt y_249 := cl_eq (by omega)
                refine dOk_L (fun v_256 ev_256 => ?_)
                refine dOk_B (ok_X2_join_s18 q_209 x9_214 (Int32.toInt64 v_254) (Int32.toInt64 v_256) hT_227) (fun r_257 q_258 h_259 => ?_)
                replace h_259 : (TC q_258) ∧ (cFr [] [(18, 1)] q_209 q_258) := h_259
                obtain ⟨i_260, i_261⟩ := h_259
                have hFq_258 : cFr [19] [(18, 1)] q q_258 := hFq_209.t i_261 (by decide) (by decide)
                refine dOk_G (dg_ok (show 0 ≤ Int32.toInt y_251 by omega) (show Int32.toInt y_251 < ((64 : Nat) : Int) by omega)) ?_
                refine dOk_L (fun q_262 eq_262 => ?_)
                have hTq_262 : TC q_262 := by rw [eq_262]; exact sa_19 i_260
                have hFq_262 : cFr [19] [(18, 1)] q q_262 := by rw [eq_262]; exact hFq_258.i (by decide)
                exact hn_22 q_262 y_249 x6_211 x7_212 x8_213 hTq_262 (by rw [eq_262]; exact (((((cFr.rf : cFr [19] [(18, 1)] q_2 q_2).t hF_228 (by decide) (by decide)) : cFr [19] [(18, 1)] q_2 q_209).t i_261 (by decide) (by decide)) : cFr [19] [(18, 1)] q_2 q_258).i (by decide)) (show 0 ≤ Int32.toInt y_249 by omega) (show Int32.toInt y_249 ≤ 64 by omega) (show 0 ≤ Int32.toInt x6_211 by omega) (show 0 ≤ Int32.toInt x8_213 by omega) (show Int32.toInt x8_213 < Int32.toInt x7_212 by omega) (show Int32.toInt x7_212 ≤ 400 by omega) (show Int32.toInt x8_213 = Int32.toInt x8_9 by omega) (show Int32.toInt x7_212 = Int32.toInt x7_8 by omega)
    have hn_271 : ∀ (q_263 : dK) (x5_264 : Int32) (x6_265 : Int32) (x7_266 : Int32) (x8_267 : Int32) (x9_268 : Int32) (x10_269 : Int32) (y0_270 : Int32), TC q_263 → cFr [19] [(18, 1)] q_2 q_263 → (0 ≤ Int32.toInt x5_264) → (Int32.toInt x5_264 ≤ 64) → (0 ≤ Int32.toInt x6_265) → (Int32.toInt x6_265 < Int32.toInt x7_266) → (0 ≤ Int32.toInt x8_267) → (Int32.toInt x8_267 < Int32.toInt x7_266) → (0 ≤ Int32.toInt x10_269) → (((0 ≤ Int32.toInt x9_268 ∧ Int32.toInt x9_268 ≤ 1 ∧ Int32.toInt y0_270 = 0) ∨ (2 ≤ Int32.toInt x9_268 ∧ Int32.toInt x9_268 ≤ 9 ∧ Int32.toInt y0_270 = 2) ∨ (10 ≤ Int32.toInt x9_268 ∧ Int32.toInt x9_268 ≤ 12 ∧ Int32.toInt y0_270 = 1))) → (Int32.toInt x7_266 ≤ 400) → (Int32.toInt x8_267 = Int32.toInt x8_9) → (Int32.toInt x7_266 = Int32.toInt x7_8) → dOk (zX2_valueOf_s18_s25_s23_98 (fun q x5 x6 x7 x8 => k_4 (q, x5, x6, x7, x8)) q_263 x5_264 x6_265 x7_266 x8_267 x9_268 x10_269 y0_270 ) (fun (o : Int32 × dK) => (TC o.2) ∧ (cFr [19] [(18, 1)] q o.2)) := by
      intro q_263 x5_264 x6_265 x7_266 x8_267 x9_268 x10_269 y0_270 hT_283 hF_284 b_272 b_273 b_274 b_275 b_276 b_277 b_278 b_279 b_280 b_281 b_282
      unfold zX2_valueOf_s18_s25_s23_98
      have hFq_263 : cFr [19] [(18, 1)] q q_263 := hFq_2.t hF_284 (by decide) (by decide)
      refine dOk_lt (A := Int32.toInt x5_264) (B := Int32.toInt y0_270) rfl rfl (fun c_285 => ?_) (fun c_286 => ?_)
      · obtain ⟨y_287, hy_287⟩ : ∃ y : Int32, (x6_265 + 1 : Int32) = y := ⟨_, rfl⟩
        have t_288 : Int32.toInt y_287 = Int32.toInt x6_265 + 1 := by rw [← hy_287]; exact ti_add rfl (by decide) (by omega) (by omega)
        try rw [hy_287]
        clear hy_287
        exact hn_197 q_263 x5_264 y_287 x7_266 x8_267 hT_283 ((cFr.rf : cFr [19] [(18, 1)] q_2 q_2).t hF_284 (by decide) (by decide)) (show 0 ≤ Int32.toInt x5_264 by omega) (show Int32.toInt x5_264 ≤ 64 by omega) (show 0 ≤ Int32.toInt y_287 by omega) (show 0 ≤ Int32.toInt x8_267 by omega) (show Int32.toInt x8_267 < Int32.toInt x7_266 by omega) (show Int32.toInt x7_266 ≤ 400 by omega) (show Int32.toInt x8_267 = Int32.toInt x8_9 by omega) (show Int32.toInt x7_266 = Int32.toInt x7_8 by omega)
      · refine dOk_le (A := 64) (B := Int32.toInt x5_264) (by decide) rfl (fun c_289 => ?_) (fun c_290 => ?_)
        · obtain ⟨y_291, hy_291⟩ : ∃ y : Int32, (x6_265 + 1 : Int32) = y := ⟨_, rfl⟩
          have t_292 : Int32.toInt y_291 = Int32.toInt x6_265 + 1 := by rw [← hy_291]; exact ti_add rfl (by decide) (by omega) (by omega)
          try rw [hy_291]
          clear hy_291
          exact hn_197 q_263 x5_264 y_291 x7_266 x8_267 hT_283 ((cFr.rf : cFr [19] [(18, 1)] q_2 q_2).t hF_284 (by decide) (by decide)) (show 0 ≤ Int32.toInt x5_264 by omega) (show Int32.toInt x5_264 ≤ 64 by omega) (show 0 ≤ Int32.toInt y_291 by omega) (show 0 ≤ Int32.toInt x8_267 by omega) (show Int32.toInt x8_267 < Int32.toInt x7_266 by omega) (show Int32.toInt x7_266 ≤ 400 by omega) (show Int32.toInt x8_267 = Int32.toInt x8_9 by omega) (show Int32.toInt x7_266 = Int32.toInt x7_8 by omega)
        · refine dOk_eq (A := Int32.toInt x9_268) (B := 1) rfl (by decide) (fun c_293z c_293 => ?_) (fun c_294z c_294 => ?_)
          · refine dOk_lt (A := Int32.toInt x10_269) (B := 17) rfl (by decide) (fun c_296 => ?_) (fun c_297 => ?_)
            · obtain ⟨y_298, hy_298⟩ : ∃ y : Int32, (x6_265 + 1 : Int32) = y := ⟨_, rfl⟩
              have t_299 : Int32.toInt y_298 = Int32.toInt x6_265 + 1 := by rw [← hy_298]; exact ti_add rfl (by decide) (by omega) (by omega)
              try rw [hy_298]
              clear hy_298
              exact hn_216 q_263 x5_264 y_298 x7_266 x8_267 x9_268 x10_269 hT_283 ((cFr.rf : cFr [19] [(18, 1)] q_2 q_2).t hF_284 (by decide) (by decide)) (show 0 ≤ Int32.toInt x5_264 by omega) (show Int32.toInt x5_264 ≤ 63 by omega) (show 0 ≤ Int32.toInt y_298 by omega) (show 0 ≤ Int32.toInt x8_267 by omega) (show Int32.toInt x8_267 < Int32.toInt x7_266 by omega) (show 0 ≤ Int32.toInt x10_269 by omega) (show (Int32.toInt x9_268 = 0 ∨ (Int32.toInt x9_268 = 1 ∧ Int32.toInt x10_269 < 17) ∨ (2 ≤ Int32.toInt x9_268 ∧ Int32.toInt x9_268 ≤ 9 ∧ 2 ≤ Int32.toInt x5_264) ∨ (10 ≤ Int32.toInt x9_268 ∧ Int32.toInt x9_268 ≤ 12 ∧ 1 ≤ Int32.toInt x5_264)) by omega) (show Int32.toInt x7_266 ≤ 400 by omega) (show Int32.toInt x8_267 = Int32.toInt x8_9 by omega) (show Int32.toInt x7_266 = Int32.toInt x7_8 by omega)
            · obtain ⟨y_300, hy_300⟩ : ∃ y : Int32, (x6_265 + 1 : Int32) = y := ⟨_, rfl⟩
              have t_301 : Int32.toInt y_300 = Int32.toInt x6_265 + 1 := by rw [← hy_300]; exact ti_add rfl (by decide) (by omega) (by omega)
              try rw [hy_300]
              clear hy_300
              exact hn_197 q_263 x5_264 y_300 x7_266 x8_267 hT_283 ((cFr.rf : cFr [19] [(18, 1)] q_2 q_2).t hF_284 (by decide) (by decide)) (show 0 ≤ Int32.toInt x5_264 by omega) (show Int32.toInt x5_264 ≤ 64 by omega) (show 0 ≤ Int32.toInt y_300 by omega) (show 0 ≤ Int32.toInt x8_267 by omega) (show Int32.toInt x8_267 < Int32.toInt x7_266 by omega) (show Int32.toInt x7_266 ≤ 400 by omega) (show Int32.toInt x8_267 = Int32.toInt x8_9 by omega) (show Int32.toInt x7_266 = Int32.toInt x7_8 by omega)
          · obtain ⟨y_302, hy_302⟩ : ∃ y : Int32, (x6_265 + 1 : Int32) = y := ⟨_, rfl⟩
            have t_303 : Int32.toInt y_302 = Int32.toInt x6_265 + 1 := by rw [← hy_302]; exact ti_add rfl (by decide) (by omega) (by omega)
            try rw [hy_302]
            clear hy_302
            exact hn_216 q_263 x5_264 y_302 x7_266 x8_267 x9_268 x10_269 hT_283 ((cFr.rf : cFr [19] [(18, 1)] q_2 q_2).t hF_284 (by decide) (by decide)) (show 0 ≤ Int32.toInt x5_264 by omega) (show Int32.toInt x5_264 ≤ 63 by omega) (show 0 ≤ Int32.toInt y_302 by omega) (show 0 ≤ Int32.toInt x8_267 by omega) (show Int32.toInt x8_267 < Int32.toInt x7_266 by omega) (show 0 ≤ Int32.toInt x10_269 by omega) (show (Int32.toInt x9_268 = 0 ∨ (Int32.toInt x9_268 = 1 ∧ Int32.toInt x10_269 < 17) ∨ (2 ≤ Int32.toInt x9_268 ∧ Int32.toInt x9_268 ≤ 9 ∧ 2 ≤ Int32.toInt x5_264) ∨ (10 ≤ Int32.toInt x9_268 ∧ Int32.toInt x9_268 ≤ 12 ∧ 1 ≤ Int32.toInt x5_264)) by omega) (show Int32.toInt x7_266 ≤ 400 by omega) (show Int32.toInt x8_267 = Int32.toInt x8_9 by omega) (show Int32.toInt x7_266 = Int32.toInt x7_8 by omega)
    refine dOk_le (A := Int32.toInt x7_8) (B := Int32.toInt x8_9) rfl rfl (fun c_304 => ?_) (fun c_305 => ?_)
    · unfold zX2_valueOf_s18_s25_s23_328
      have f_306 : 0 ≤ Int32.toInt (q_5.1 18 1) ∧ Int32.toInt (q_5.1 18 1) ≤ 1 := rg_18_1 a_10
      refine dOk_eq (A := Int32.toInt (q_5.1 18 1)) (B := 0) rfl (by decide) (fun c_307z c_307 => ?_) (fun c_308z c_308 => ?_)
      · unfold zX2_valueOf_s18_s25_s23_345
        exact dOk_some (show (TC q_5) ∧ (cFr [19] [(18, 1)] q q_5) from ⟨a_10, hFq_5⟩)
      · unfold zX2_valueOf_s18_s25_s23_345
        exact dOk_some (show (TC q_5) ∧ (cFr [19] [(18, 1)] q q_5) from ⟨a_10, hFq_5⟩)
    · refine dOk_le (A := Int32.toInt x7_8) (B := Int32.toInt x6_7) rfl rfl (fun c_310 => ?_) (fun c_311 => ?_)
      · unfold zX2_valueOf_s18_s25_s23_328
        have f_312 : 0 ≤ Int32.toInt (q_5.1 18 1) ∧ Int32.toInt (q_5.1 18 1) ≤ 1 := rg_18_1 a_10
        refine dOk_eq (A := Int32.toInt (q_5.1 18 1)) (B := 0) rfl (by decide) (fun c_313z c_313 => ?_) (fun c_314z c_314 => ?_)
        · unfold zX2_valueOf_s18_s25_s23_345
          exact dOk_some (show (TC q_5) ∧ (cFr [19] [(18, 1)] q q_5) from ⟨a_10, hFq_5⟩)
        · unfold zX2_valueOf_s18_s25_s23_345
          exact dOk_some (show (TC q_5) ∧ (cFr [19] [(18, 1)] q q_5) from ⟨a_10, hFq_5⟩)
      · have f_316 : 0 ≤ Int32.toInt (q_5.1 18 1) ∧ Int32.toInt (q_5.1 18 1) ≤ 1 := rg_18_1 a_10
        refine dOk_eq (A := Int32.toInt (q_5.1 18 1)) (B := 0) rfl (by decide) (fun c_317z c_317 => ?_) (fun c_318z c_318 => ?_)
        · refine dOk_G (dg_ok (show 0 ≤ Int32.toInt x6_7 by omega) (show Int32.toInt x6_7 < ((400 : Nat) : Int) by omega)) ?_
          have n_320 : ((Int32.toNatClampNeg x6_7 : Nat) : Int) = Int32.toInt x6_7 := cl_eq (by omega)
          refine dOk_L (fun v_321 ev_321 => ?_)
          have f_322 : 0 ≤ Int32.toInt v_321 ∧ Int32.toInt v_321 ≤ 2147483647 := by rw [ev_321]; exact rg_31 a_10 _
          have hOv_321 : cOp v_321 := by rw [ev_321]; exact (a_10.2.1.2 _).2.2.2.1
          refine dOk_G (dg_ok (show 0 ≤ Int32.toInt x6_7 by omega) (show Int32.toInt x6_7 < ((400 : Nat) : Int) by omega)) ?_
          refine dOk_L (fun v_323 ev_323 => ?_)
          have w_324 : Int32.toInt v_323 = Int32.toInt v_321 := by rw [ev_323, ev_321]
          have f_325 : 0 ≤ Int32.toInt v_323 ∧ Int32.toInt v_323 ≤ 2147483647 := by rw [ev_323]; exact rg_31 a_10 _
          have hOv_323 : cOp v_323 := by rw [ev_323]; exact (a_10.2.1.2 _).2.2.2.1
          obtain ⟨y_326, hy_326⟩ : ∃ y : Int32, (v_321 &&& 15 : Int32) = y := ⟨_, rfl⟩
          have t_327 : 0 ≤ Int32.toInt y_326 ∧ Int32.toInt y_326 ≤ 15 := by rw [← hy_326]; exact ti_and15 _
          have t_328 : Int32.toInt y_326 ≤ 12 := by rw [← hy_326]; exact hOv_321
          try rw [hy_326]
          clear hy_326
          refine dOk_lt (A := 1) (B := Int32.toInt y_326) (by decide) rfl (fun c_329 => ?_) (fun c_330 => ?_)
          · refine dOk_le (A := 10) (B := Int32.toInt y_326) (by decide) rfl (fun c_331 => ?_) (fun c_332 => ?_)
            · obtain ⟨y_333, hy_333⟩ : ∃ y : Int32, (v_323 >>> ((4 : Int32) &&& 31) : Int32) = y := ⟨_, rfl⟩
              have t_334 : 0 ≤ Int32.toInt y_333 := by rw [← hy_333]; exact (ti_shr (by omega)).1
              try rw [hy_333]
              clear hy_333
              exact hn_271 q_5 x5_6 x6_7 x7_8 x8_9 y_326 y_333 1 a_10 ((cFr.rf : cFr [19] [(18, 1)] q_2 q_2).t a_11 (by decide) (by decide)) (show 0 ≤ Int32.toInt x5_6 by omega) (show Int32.toInt x5_6 ≤ 64 by omega) (show 0 ≤ Int32.toInt x6_7 by omega) (show Int32.toInt x6_7 < Int32.toInt x7_8 by omega) (show 0 ≤ Int32.toInt x8_9 by omega) (show Int32.toInt x8_9 < Int32.toInt x7_8 by omega) (show 0 ≤ Int32.toInt y_333 by omega) (show ((0 ≤ Int32.toInt y_326 ∧ Int32.toInt y_326 ≤ 1 ∧ (1 : Int) = 0) ∨ (2 ≤ Int32.toInt y_326 ∧ Int32.toInt y_326 ≤ 9 ∧ (1 : Int) = 2) ∨ (10 ≤ Int32.toInt y_326 ∧ Int32.toInt y_326 ≤ 12 ∧ (1 : Int) = 1)) by omega) (show Int32.toInt x7_8 ≤ 400 by omega) (show Int32.toInt x8_9 = Int32.toInt x8_9 by omega) (show Int32.toInt x7_8 = Int32.toInt x7_8 by omega)
            · obtain ⟨y_335, hy_335⟩ : ∃ y : Int32, (v_323 >>> ((4 : Int32) &&& 31) : Int32) = y := ⟨_, rfl⟩
              have t_336 : 0 ≤ Int32.toInt y_335 := by rw [← hy_335]; exact (ti_shr (by omega)).1
              try rw [hy_335]
              clear hy_335
              exact hn_271 q_5 x5_6 x6_7 x7_8 x8_9 y_326 y_335 2 a_10 ((cFr.rf : cFr [19] [(18, 1)] q_2 q_2).t a_11 (by decide) (by decide)) (show 0 ≤ Int32.toInt x5_6 by omega) (show Int32.toInt x5_6 ≤ 64 by omega) (show 0 ≤ Int32.toInt x6_7 by omega) (show Int32.toInt x6_7 < Int32.toInt x7_8 by omega) (show 0 ≤ Int32.toInt x8_9 by omega) (show Int32.toInt x8_9 < Int32.toInt x7_8 by omega) (show 0 ≤ Int32.toInt y_335 by omega) (show ((0 ≤ Int32.toInt y_326 ∧ Int32.toInt y_326 ≤ 1 ∧ (2 : Int) = 0) ∨ (2 ≤ Int32.toInt y_326 ∧ Int32.toInt y_326 ≤ 9 ∧ (2 : Int) = 2) ∨ (10 ≤ Int32.toInt y_326 ∧ Int32.toInt y_326 ≤ 12 ∧ (2 : Int) = 1)) by omega) (show Int32.toInt x7_8 ≤ 400 by omega) (show Int32.toInt x8_9 = Int32.toInt x8_9 by omega) (show Int32.toInt x7_8 = Int32.toInt x7_8 by omega)
          · obtain ⟨y_337, hy_337⟩ : ∃ y : Int32, (v_323 >>> ((4 : Int32) &&& 31) : Int32) = y := ⟨_, rfl⟩
            have t_338 : 0 ≤ Int32.toInt y_337 := by rw [← hy_337]; exact (ti_shr (by omega)).1
            try rw [hy_337]
            clear hy_337
            exact hn_271 q_5 x5_6 x6_7 x7_8 x8_9 y_326 y_337 0 a_10 ((cFr.rf : cFr [19] [(18, 1)] q_2 q_2).t a_11 (by decide) (by decide)) (show 0 ≤ Int32.toInt x5_6 by omega) (show Int32.toInt x5_6 ≤ 64 by omega) (show 0 ≤ Int32.toInt x6_7 by omega) (show Int32.toInt x6_7 < Int32.toInt x7_8 by omega) (show 0 ≤ Int32.toInt x8_9 by omega) (show Int32.toInt x8_9 < Int32.toInt x7_8 by omega) (show 0 ≤ Int32.toInt y_337 by omega) (show ((0 ≤ Int32.toInt y_326 ∧ Int32.toInt y_326 ≤ 1 ∧ (0 : Int) = 0) ∨ (2 ≤ Int32.toInt y_326 ∧ Int32.toInt y_326 ≤ 9 ∧ (0 : Int) = 2) ∨ (10 ≤ Int32.toInt y_326 ∧ Int32.toInt y_326 ≤ 12 ∧ (0 : Int) = 1)) by omega) (show Int32.toInt x7_8 ≤ 400 by omega) (show Int32.toInt x8_9 = Int32.toInt x8_9 by omega) (show Int32.toInt x7_8 = Int32.toInt x7_8 by omega)
        · unfold zX2_valueOf_s18_s25_s23_328
          refine dOk_eq (A := Int32.toInt (q_5.1 18 1)) (B := 0) rfl (by decide) (fun c_339z c_339 => ?_) (fun c_340z c_340 => ?_)
          · unfold zX2_valueOf_s18_s25_s23_345
            exact dOk_some (show (TC q_5) ∧ (cFr [19] [(18, 1)] q q_5) from ⟨a_10, hFq_5⟩)
          · unfold zX2_valueOf_s18_s25_s23_345
            exact dOk_some (show (TC q_5) ∧ (cFr [19] [(18, 1)] q q_5) from ⟨a_10, hFq_5⟩)
  · have t_342 : Int32.toInt (mnI p3 400) ≤ Int32.toInt p3 ∧ Int32.toInt (mnI p3 400) ≤ 400 ∧ (Int32.toInt (mnI p3 400) = Int32.toInt p3 ∨ Int32.toInt (mnI p3 400) = 400) := mn_le
    exact (show (TC q_2) ∧ (cFr [19] [(18, 1)] q_2 q_2) ∧ (0 ≤ (0 : Int)) ∧ ((0 : Int) ≤ 64) ∧ (0 ≤ Int32.toInt p2) ∧ (0 ≤ Int32.toInt p2) ∧ (Int32.toInt (mnI p3 400) ≤ 400) from ⟨hTq_2, cFr.rf, by omega, by omega, by omega, by omega, by omega⟩)
  · have t_343 : Int32.toInt (mnI p3 400) ≤ Int32.toInt p3 ∧ Int32.toInt (mnI p3 400) ≤ 400 ∧ (Int32.toInt (mnI p3 400) = Int32.toInt p3 ∨ Int32.toInt (mnI p3 400) = 400) := mn_le
    show (Int32.toInt (mnI p3 400) - Int32.toInt p2).toNat < 1000000000000
    omega
