set_option maxHeartbeats 4000000 in
set_option maxRecDepth 100000 in
theorem ok_X2_valueOf_s18_l_s21 (q : dK) (p1 : Int32) (p2 : Int32) (p3 : Int32) (hT : TC q) (hp0 : ¬ Int32.toInt p1 = 0) (hp1 : 0 ≤ Int32.toInt p1) (hp2 : Int32.toInt p1 ≤ (q.2.2.length : Int)) (hp3 : 0 ≤ Int32.toInt p2) : dOk (zX2_valueOf_s18_l_s21 q p1 p2 p3) (fun (o : Int32 × dK) => (TC o.2) ∧ (cFr [19] [(18, 1)] q o.2)) := by
  unfold zX2_valueOf_s18_l_s21
  simp only [txC_r, txL_r, txN_r, txK_r, txR_r]
  refine dOk_L (fun q_1 eq_1 => ?_)
  have hTq_1 : TC q_1 := by rw [eq_1]; exact st_18_1 hT (show (0 : Int) ≤ (0 : Int) by omega) (show (0 : Int) ≤ (1 : Int) by omega)
  have hFq_1 : cFr [19] [(18, 1)] q q_1 := by rw [eq_1]; exact (cFr.rf (q := q)).f (by decide)
  refine dOk_L (fun q_2 eq_2 => ?_)
  have hTq_2 : TC q_2 := by rw [eq_2]; exact sa_19 hTq_1
  have hFq_2 : cFr [19] [(18, 1)] q q_2 := by rw [eq_2]; exact hFq_1.i (by decide)
  have n_3 : q_1.2.2.length = q.2.2.length := (by rw [eq_1]; rfl)
  have n_4 : q_2.2.2.length = q_1.2.2.length := (by rw [eq_2]; rfl)
  have g_5 : dlg q_2 p1 = true := tc_dlg hTq_2 (show ¬ Int32.toInt p1 = 0 by omega) (show 0 ≤ Int32.toInt p1 by omega) (show Int32.toInt p1 ≤ (q_2.2.2.length : Int) by omega)
  refine dOk_G g_5 ?_
  refine dOk_G g_5 ?_
  unfold zX2_valueOf_s18_l_s21_32
  refine dFix_ok (fun (a : dK × Int32 × Int32 × Int32 × Int32 × Int32) => (TC a.1) ∧ (cFr [19] [(18, 1)] q_2 a.1) ∧ (a.2.1 = p1) ∧ (0 ≤ Int32.toInt a.2.2.1) ∧ (Int32.toInt a.2.2.1 ≤ 64) ∧ (0 ≤ Int32.toInt a.2.2.2.1) ∧ (0 ≤ Int32.toInt a.2.2.2.2.2) ∧ (Int32.toInt a.2.2.2.2.1 ≤ 400) ∧ (Int32.toInt a.2.2.2.2.1 ≤ Int32.toInt (txL a.1 a.2.1))) (fun (a : dK × Int32 × Int32 × Int32 × Int32 × Int32) => (Int32.toInt a.2.2.2.2.1 - Int32.toInt a.2.2.2.2.2).toNat) ?_ _ ?_ _ (dF_gt ?_)
  · intro a ha k_7 hk_6
    obtain ⟨q_8, x1_9, x5_10, x6_11, x7_12, x8_13⟩ := a
    replace ha : (TC q_8) ∧ (cFr [19] [(18, 1)] q_2 q_8) ∧ (x1_9 = p1) ∧ (0 ≤ Int32.toInt x5_10) ∧ (Int32.toInt x5_10 ≤ 64) ∧ (0 ≤ Int32.toInt x6_11) ∧ (0 ≤ Int32.toInt x8_13) ∧ (Int32.toInt x7_12 ≤ 400) ∧ (Int32.toInt x7_12 ≤ Int32.toInt (txL q_8 x1_9)) := ha
    obtain ⟨a_14, a_15, a_16, a_17, a_18, a_19, a_20, a_21, a_22⟩ := ha
    show dOk (zX2_valueOf_s18_l_s21_32b  (fun q x1 x5 x6 x7 x8 => k_7 (q, x1, x5, x6, x7, x8)) q_8 x1_9 x5_10 x6_11 x7_12 x8_13) _
    unfold zX2_valueOf_s18_l_s21_32b
    simp only [txC_r, txL_r, txN_r, txK_r, txR_r]
    have hFq_8 : cFr [19] [(18, 1)] q q_8 := hFq_2.t a_15 (by decide) (by decide)
    subst x1_9
    have f_23 : 0 ≤ Int32.toInt (txL q_2 p1) ∧ Int32.toInt (txL q_2 p1) ≤ 400 := tx_L hTq_2 g_5
    have w_24 : Int32.toInt (txL q_1 p1) = Int32.toInt (txL q p1) := tx_eqL (by rw [eq_1]; rfl)
    have w_25 : Int32.toInt (txL q_2 p1) = Int32.toInt (txL q_1 p1) := tx_eqL (by rw [eq_2]; rfl)
    have w_26 : Int32.toInt (txL q_8 p1) = Int32.toInt (txL q_2 p1) := tx_eqL a_15.2
    have hn_32 : ∀ (q_27 : dK) (x5_28 : Int32) (x6_29 : Int32) (x7_30 : Int32) (x8_31 : Int32), TC q_27 → cFr [19] [(18, 1)] q_2 q_27 → (0 ≤ Int32.toInt x5_28) → (Int32.toInt x5_28 ≤ 64) → (0 ≤ Int32.toInt x6_29) → (0 ≤ Int32.toInt x8_31) → (Int32.toInt x8_31 < Int32.toInt x7_30) → (Int32.toInt x7_30 ≤ 400) → (Int32.toInt x7_30 ≤ Int32.toInt (txL q_27 p1)) → (Int32.toInt x8_31 = Int32.toInt x8_13) → (Int32.toInt x7_30 = Int32.toInt x7_12) → dOk (zX2_valueOf_s18_l_s21_322 (fun q x1 x5 x6 x7 x8 => k_7 (q, x1, x5, x6, x7, x8)) q_27 p1 x5_28 x6_29 x7_30 x8_31 ) (fun (o : Int32 × dK) => (TC o.2) ∧ (cFr [19] [(18, 1)] q o.2)) := by
      intro q_27 x5_28 x6_29 x7_30 x8_31 hT_42 hF_43 b_33 b_34 b_35 b_36 b_37 b_38 b_39 b_40 b_41
      unfold zX2_valueOf_s18_l_s21_322
      have hFq_27 : cFr [19] [(18, 1)] q q_27 := hFq_2.t hF_43 (by decide) (by decide)
      obtain ⟨y_44, hy_44⟩ : ∃ y : Int32, x8_31 + 1 = y := ⟨_, rfl⟩
      have t_45 : Int32.toInt y_44 = Int32.toInt x8_31 + 1 := by rw [← hy_44]; exact ti_add rfl (by decide) (by omega) (by omega)
      rw [hy_44]
      clear hy_44
      have w_46 : Int32.toInt (txL q_27 p1) = Int32.toInt (txL q_2 p1) := tx_eqL hF_43.2
      exact hk_6 (q_27, p1, x5_28, x6_29, x7_30, y_44) (show (TC q_27) ∧ (cFr [19] [(18, 1)] q_2 q_27) ∧ (p1 = p1) ∧ (0 ≤ Int32.toInt x5_28) ∧ (Int32.toInt x5_28 ≤ 64) ∧ (0 ≤ Int32.toInt x6_29) ∧ (0 ≤ Int32.toInt y_44) ∧ (Int32.toInt x7_30 ≤ 400) ∧ (Int32.toInt x7_30 ≤ Int32.toInt (txL q_27 p1)) from ⟨hT_42, ((cFr.rf : cFr [19] [(18, 1)] q_2 q_2).t hF_43 (by decide) (by decide)), rfl, by omega, by omega, by omega, by omega, by omega, by omega⟩) (show (Int32.toInt x7_30 - Int32.toInt y_44).toNat < (Int32.toInt x7_12 - Int32.toInt x8_13).toNat by omega)
    have hn_52 : ∀ (q_47 : dK) (x6_48 : Int32) (x7_49 : Int32) (x8_50 : Int32) (y0_51 : Int32), TC q_47 → cFr [19] [(18, 1)] q_2 q_47 → (0 ≤ Int32.toInt y0_51) → (Int32.toInt y0_51 ≤ 64) → (0 ≤ Int32.toInt x6_48) → (0 ≤ Int32.toInt x8_50) → (Int32.toInt x8_50 < Int32.toInt x7_49) → (Int32.toInt x7_49 ≤ 400) → (Int32.toInt x7_49 ≤ Int32.toInt (txL q_47 p1)) → (Int32.toInt x8_50 = Int32.toInt x8_13) → (Int32.toInt x7_49 = Int32.toInt x7_12) → dOk (zX2_valueOf_s18_l_s21_281 (fun q x1 x5 x6 x7 x8 => k_7 (q, x1, x5, x6, x7, x8)) q_47 p1 x6_48 x7_49 x8_50 y0_51 ) (fun (o : Int32 × dK) => (TC o.2) ∧ (cFr [19] [(18, 1)] q o.2)) := by
      intro q_47 x6_48 x7_49 x8_50 y0_51 hT_62 hF_63 b_53 b_54 b_55 b_56 b_57 b_58 b_59 b_60 b_61
      unfold zX2_valueOf_s18_l_s21_281
      have hFq_47 : cFr [19] [(18, 1)] q q_47 := hFq_2.t hF_63 (by decide) (by decide)
      have w_64 : Int32.toInt (txL q_47 p1) = Int32.toInt (txL q_2 p1) := tx_eqL hF_63.2
      exact hn_32 q_47 y0_51 x6_48 x7_49 x8_50 hT_62 ((cFr.rf : cFr [19] [(18, 1)] q_2 q_2).t hF_63 (by decide) (by decide)) (show 0 ≤ Int32.toInt y0_51 by omega) (show Int32.toInt y0_51 ≤ 64 by omega) (show 0 ≤ Int32.toInt x6_48 by omega) (show 0 ≤ Int32.toInt x8_50 by omega) (show Int32.toInt x8_50 < Int32.toInt x7_49 by omega) (show Int32.toInt x7_49 ≤ 400 by omega) (show Int32.toInt x7_49 ≤ Int32.toInt (txL q_47 p1) by omega) (show Int32.toInt x8_50 = Int32.toInt x8_13 by omega) (show Int32.toInt x7_49 = Int32.toInt x7_12 by omega)
    have hn_71 : ∀ (q_65 : dK) (x5_66 : Int32) (x7_67 : Int32) (x8_68 : Int32) (x12_69 : Int32) (y0_70 : Int32), TC q_65 → cFr [19] [(18, 1)] q_2 q_65 → (1 ≤ Int32.toInt x5_66) → (Int32.toInt x5_66 ≤ 63) → (0 ≤ Int32.toInt y0_70) → (0 ≤ Int32.toInt x8_68) → (Int32.toInt x8_68 < Int32.toInt x7_67) → (Int32.toInt x7_67 ≤ 400) → (Int32.toInt x7_67 ≤ Int32.toInt (txL q_65 p1)) → (Int32.toInt x8_68 = Int32.toInt x8_13) → (Int32.toInt x7_67 = Int32.toInt x7_12) → dOk (zX2_valueOf_s18_l_s21_265 (fun q x1 x5 x6 x7 x8 => k_7 (q, x1, x5, x6, x7, x8)) q_65 p1 x5_66 x7_67 x8_68 x12_69 y0_70 ) (fun (o : Int32 × dK) => (TC o.2) ∧ (cFr [19] [(18, 1)] q o.2)) := by
      intro q_65 x5_66 x7_67 x8_68 x12_69 y0_70 hT_81 hF_82 b_72 b_73 b_74 b_75 b_76 b_77 b_78 b_79 b_80
      unfold zX2_valueOf_s18_l_s21_265
      have hFq_65 : cFr [19] [(18, 1)] q q_65 := hFq_2.t hF_82 (by decide) (by decide)
      refine dOk_eq (A := Int32.toInt x12_69) (B := 0) rfl (by decide) (fun c_83z c_83 => ?_) (fun c_84z c_84 => ?_)
      · obtain ⟨y_86, hy_86⟩ : ∃ y : Int32, (x5_66 - 1 : Int32) = y := ⟨_, rfl⟩
        have t_87 : Int32.toInt y_86 = Int32.toInt x5_66 - 1 := by rw [← hy_86]; exact ti_sub rfl (by decide) (by omega) (by omega)
        try rw [hy_86]
        clear hy_86
        have w_88 : Int32.toInt (txL q_65 p1) = Int32.toInt (txL q_2 p1) := tx_eqL hF_82.2
        exact hn_52 q_65 y0_70 x7_67 x8_68 y_86 hT_81 ((cFr.rf : cFr [19] [(18, 1)] q_2 q_2).t hF_82 (by decide) (by decide)) (show 0 ≤ Int32.toInt y_86 by omega) (show Int32.toInt y_86 ≤ 64 by omega) (show 0 ≤ Int32.toInt y0_70 by omega) (show 0 ≤ Int32.toInt x8_68 by omega) (show Int32.toInt x8_68 < Int32.toInt x7_67 by omega) (show Int32.toInt x7_67 ≤ 400 by omega) (show Int32.toInt x7_67 ≤ Int32.toInt (txL q_65 p1) by omega) (show Int32.toInt x8_68 = Int32.toInt x8_13 by omega) (show Int32.toInt x7_67 = Int32.toInt x7_12 by omega)
      · have w_89 : Int32.toInt (txL q_65 p1) = Int32.toInt (txL q_2 p1) := tx_eqL hF_82.2
        exact hn_52 q_65 y0_70 x7_67 x8_68 x5_66 hT_81 ((cFr.rf : cFr [19] [(18, 1)] q_2 q_2).t hF_82 (by decide) (by decide)) (show 0 ≤ Int32.toInt x5_66 by omega) (show Int32.toInt x5_66 ≤ 64 by omega) (show 0 ≤ Int32.toInt y0_70 by omega) (show 0 ≤ Int32.toInt x8_68 by omega) (show Int32.toInt x8_68 < Int32.toInt x7_67 by omega) (show Int32.toInt x7_67 ≤ 400 by omega) (show Int32.toInt x7_67 ≤ Int32.toInt (txL q_65 p1) by omega) (show Int32.toInt x8_68 = Int32.toInt x8_13 by omega) (show Int32.toInt x7_67 = Int32.toInt x7_12 by omega)
    have hn_97 : ∀ (q_90 : dK) (x5_91 : Int32) (x6_92 : Int32) (x7_93 : Int32) (x8_94 : Int32) (x10_95 : Int32) (y0_96 : Int32), TC q_90 → cFr [19] [(18, 1)] q_2 q_90 → (1 ≤ Int32.toInt x5_91) → (Int32.toInt x5_91 ≤ 63) → (0 ≤ Int32.toInt x6_92) → (0 ≤ Int32.toInt x8_94) → (Int32.toInt x8_94 < Int32.toInt x7_93) → (0 ≤ Int32.toInt x10_95) → (Int32.toInt x7_93 ≤ 400) → (Int32.toInt x7_93 ≤ Int32.toInt (txL q_90 p1)) → (Int32.toInt x8_94 = Int32.toInt x8_13) → (Int32.toInt x7_93 = Int32.toInt x7_12) → dOk (zX2_valueOf_s18_l_s21_251 (fun q x1 x5 x6 x7 x8 => k_7 (q, x1, x5, x6, x7, x8)) q_90 p1 x5_91 x6_92 x7_93 x8_94 x10_95 y0_96 ) (fun (o : Int32 × dK) => (TC o.2) ∧ (cFr [19] [(18, 1)] q o.2)) := by
      intro q_90 x5_91 x6_92 x7_93 x8_94 x10_95 y0_96 hT_108 hF_109 b_98 b_99 b_100 b_101 b_102 b_103 b_104 b_105 b_106 b_107
      unfold zX2_valueOf_s18_l_s21_251
      have hFq_90 : cFr [19] [(18, 1)] q q_90 := hFq_2.t hF_109 (by decide) (by decide)
      refine dOk_eq (A := Int32.toInt y0_96) (B := 0) rfl (by decide) (fun c_110z c_110 => ?_) (fun c_111z c_111 => ?_)
      · have w_113 : Int32.toInt (txL q_90 p1) = Int32.toInt (txL q_2 p1) := tx_eqL hF_109.2
        exact hn_71 q_90 x5_91 x7_93 x8_94 y0_96 x6_92 hT_108 ((cFr.rf : cFr [19] [(18, 1)] q_2 q_2).t hF_109 (by decide) (by decide)) (show 1 ≤ Int32.toInt x5_91 by omega) (show Int32.toInt x5_91 ≤ 63 by omega) (show 0 ≤ Int32.toInt x6_92 by omega) (show 0 ≤ Int32.toInt x8_94 by omega) (show Int32.toInt x8_94 < Int32.toInt x7_93 by omega) (show Int32.toInt x7_93 ≤ 400 by omega) (show Int32.toInt x7_93 ≤ Int32.toInt (txL q_90 p1) by omega) (show Int32.toInt x8_94 = Int32.toInt x8_13 by omega) (show Int32.toInt x7_93 = Int32.toInt x7_12 by omega)
      · have w_114 : Int32.toInt (txL q_90 p1) = Int32.toInt (txL q_2 p1) := tx_eqL hF_109.2
        exact hn_71 q_90 x5_91 x7_93 x8_94 y0_96 x10_95 hT_108 ((cFr.rf : cFr [19] [(18, 1)] q_2 q_2).t hF_109 (by decide) (by decide)) (show 1 ≤ Int32.toInt x5_91 by omega) (show Int32.toInt x5_91 ≤ 63 by omega) (show 0 ≤ Int32.toInt x10_95 by omega) (show 0 ≤ Int32.toInt x8_94 by omega) (show Int32.toInt x8_94 < Int32.toInt x7_93 by omega) (show Int32.toInt x7_93 ≤ 400 by omega) (show Int32.toInt x7_93 ≤ Int32.toInt (txL q_90 p1) by omega) (show Int32.toInt x8_94 = Int32.toInt x8_13 by omega) (show Int32.toInt x7_93 = Int32.toInt x7_12 by omega)
    have hn_123 : ∀ (q_115 : dK) (x5_116 : Int32) (x6_117 : Int32) (x7_118 : Int32) (x8_119 : Int32) (x10_120 : Int32) (y0_121 : Int32) (y1_122 : Int32), TC q_115 → cFr [19] [(18, 1)] q_2 q_115 → (1 ≤ Int32.toInt x5_116) → (Int32.toInt x5_116 ≤ 63) → (0 ≤ Int32.toInt x6_117) → (0 ≤ Int32.toInt x8_119) → (Int32.toInt x8_119 < Int32.toInt x7_118) → (0 ≤ Int32.toInt x10_120) → (Int32.toInt x7_118 ≤ 400) → (Int32.toInt x7_118 ≤ Int32.toInt (txL q_115 p1)) → (Int32.toInt x8_119 = Int32.toInt x8_13) → (Int32.toInt x7_118 = Int32.toInt x7_12) → dOk (zX2_valueOf_s18_l_s21_243 (fun q x1 x5 x6 x7 x8 => k_7 (q, x1, x5, x6, x7, x8)) q_115 p1 x5_116 x6_117 x7_118 x8_119 x10_120 y0_121 y1_122 ) (fun (o : Int32 × dK) => (TC o.2) ∧ (cFr [19] [(18, 1)] q o.2)) := by
      intro q_115 x5_116 x6_117 x7_118 x8_119 x10_120 y0_121 y1_122 hT_134 hF_135 b_124 b_125 b_126 b_127 b_128 b_129 b_130 b_131 b_132 b_133
      unfold zX2_valueOf_s18_l_s21_243
      have hFq_115 : cFr [19] [(18, 1)] q q_115 := hFq_2.t hF_135 (by decide) (by decide)
      refine dOk_eq (A := Int32.toInt y1_122) (B := Int32.toInt y0_121) rfl rfl (fun c_136z c_136 => ?_) (fun c_137z c_137 => ?_)
      · have w_139 : Int32.toInt (txL q_115 p1) = Int32.toInt (txL q_2 p1) := tx_eqL hF_135.2
        exact hn_97 q_115 x5_116 x6_117 x7_118 x8_119 x10_120 1 hT_134 ((cFr.rf : cFr [19] [(18, 1)] q_2 q_2).t hF_135 (by decide) (by decide)) (show 1 ≤ Int32.toInt x5_116 by omega) (show Int32.toInt x5_116 ≤ 63 by omega) (show 0 ≤ Int32.toInt x6_117 by omega) (show 0 ≤ Int32.toInt x8_119 by omega) (show Int32.toInt x8_119 < Int32.toInt x7_118 by omega) (show 0 ≤ Int32.toInt x10_120 by omega) (show Int32.toInt x7_118 ≤ 400 by omega) (show Int32.toInt x7_118 ≤ Int32.toInt (txL q_115 p1) by omega) (show Int32.toInt x8_119 = Int32.toInt x8_13 by omega) (show Int32.toInt x7_118 = Int32.toInt x7_12 by omega)
      · have w_140 : Int32.toInt (txL q_115 p1) = Int32.toInt (txL q_2 p1) := tx_eqL hF_135.2
        exact hn_97 q_115 x5_116 x6_117 x7_118 x8_119 x10_120 0 hT_134 ((cFr.rf : cFr [19] [(18, 1)] q_2 q_2).t hF_135 (by decide) (by decide)) (show 1 ≤ Int32.toInt x5_116 by omega) (show Int32.toInt x5_116 ≤ 63 by omega) (show 0 ≤ Int32.toInt x6_117 by omega) (show 0 ≤ Int32.toInt x8_119 by omega) (show Int32.toInt x8_119 < Int32.toInt x7_118 by omega) (show 0 ≤ Int32.toInt x10_120 by omega) (show Int32.toInt x7_118 ≤ 400 by omega) (show Int32.toInt x7_118 ≤ Int32.toInt (txL q_115 p1) by omega) (show Int32.toInt x8_119 = Int32.toInt x8_13 by omega) (show Int32.toInt x7_118 = Int32.toInt x7_12 by omega)
    have hn_148 : ∀ (q_141 : dK) (x5_142 : Int32) (x6_143 : Int32) (x7_144 : Int32) (x8_145 : Int32) (x9_146 : Int32) (x10_147 : Int32), TC q_141 → cFr [19] [(18, 1)] q_2 q_141 → (1 ≤ Int32.toInt x5_142) → (Int32.toInt x5_142 ≤ 63) → (0 ≤ Int32.toInt x6_143) → (0 ≤ Int32.toInt x8_145) → (Int32.toInt x8_145 < Int32.toInt x7_144) → (0 ≤ Int32.toInt x10_147) → (Int32.toInt x7_144 ≤ 400) → (Int32.toInt x7_144 ≤ Int32.toInt (txL q_141 p1)) → (Int32.toInt x8_145 = Int32.toInt x8_13) → (Int32.toInt x7_144 = Int32.toInt x7_12) → dOk (zX2_valueOf_s18_l_s21_222 (fun q x1 x5 x6 x7 x8 => k_7 (q, x1, x5, x6, x7, x8)) q_141 p1 x5_142 x6_143 x7_144 x8_145 x9_146 x10_147 ) (fun (o : Int32 × dK) => (TC o.2) ∧ (cFr [19] [(18, 1)] q o.2)) := by
      intro q_141 x5_142 x6_143 x7_144 x8_145 x9_146 x10_147 hT_159 hF_160 b_149 b_150 b_151 b_152 b_153 b_154 b_155 b_156 b_157 b_158
      unfold zX2_valueOf_s18_l_s21_222
      have hFq_141 : cFr [19] [(18, 1)] q q_141 := hFq_2.t hF_160 (by decide) (by decide)
      obtain ⟨y_161, hy_161⟩ : ∃ y : Int32, (x5_142 - 1 : Int32) = y := ⟨_, rfl⟩
      have t_162 : Int32.toInt y_161 = Int32.toInt x5_142 - 1 := by rw [← hy_161]; exact ti_sub rfl (by decide) (by omega) (by omega)
      try rw [hy_161]
      clear hy_161
      refine dOk_G (dg_ok (show 0 ≤ Int32.toInt y_161 by omega) (show Int32.toInt y_161 < ((64 : Nat) : Int) by omega)) ?_
      have n_163 : ((Int32.toNatClampNeg y_161 : Nat) : Int) = Int32.toInt y_161 := cl_eq (by omega)
      refine dOk_L (fun v_164 ev_164 => ?_)
      refine dOk_eq (A := Int32.toInt x9_146) (B := 12) rfl (by decide) (fun c_165z c_165 => ?_) (fun c_166z c_166 => ?_)
      · have w_168 : Int32.toInt (txL q_141 p1) = Int32.toInt (txL q_2 p1) := tx_eqL hF_160.2
        exact hn_123 q_141 x5_142 x6_143 x7_144 x8_145 x10_147 1 v_164 hT_159 ((cFr.rf : cFr [19] [(18, 1)] q_2 q_2).t hF_160 (by decide) (by decide)) (show 1 ≤ Int32.toInt x5_142 by omega) (show Int32.toInt x5_142 ≤ 63 by omega) (show 0 ≤ Int32.toInt x6_143 by omega) (show 0 ≤ Int32.toInt x8_145 by omega) (show Int32.toInt x8_145 < Int32.toInt x7_144 by omega) (show 0 ≤ Int32.toInt x10_147 by omega) (show Int32.toInt x7_144 ≤ 400 by omega) (show Int32.toInt x7_144 ≤ Int32.toInt (txL q_141 p1) by omega) (show Int32.toInt x8_145 = Int32.toInt x8_13 by omega) (show Int32.toInt x7_144 = Int32.toInt x7_12 by omega)
      · have w_169 : Int32.toInt (txL q_141 p1) = Int32.toInt (txL q_2 p1) := tx_eqL hF_160.2
        exact hn_123 q_141 x5_142 x6_143 x7_144 x8_145 x10_147 0 v_164 hT_159 ((cFr.rf : cFr [19] [(18, 1)] q_2 q_2).t hF_160 (by decide) (by decide)) (show 1 ≤ Int32.toInt x5_142 by omega) (show Int32.toInt x5_142 ≤ 63 by omega) (show 0 ≤ Int32.toInt x6_143 by omega) (show 0 ≤ Int32.toInt x8_145 by omega) (show Int32.toInt x8_145 < Int32.toInt x7_144 by omega) (show 0 ≤ Int32.toInt x10_147 by omega) (show Int32.toInt x7_144 ≤ 400 by omega) (show Int32.toInt x7_144 ≤ Int32.toInt (txL q_141 p1) by omega) (show Int32.toInt x8_145 = Int32.toInt x8_13 by omega) (show Int32.toInt x7_144 = Int32.toInt x7_12 by omega)
    have hn_177 : ∀ (q_170 : dK) (x5_171 : Int32) (x6_172 : Int32) (x7_173 : Int32) (x8_174 : Int32) (y0_175 : Int32) (y1_176 : Int32), TC q_170 → cFr [19] [(18, 1)] q_2 q_170 → (0 ≤ Int32.toInt x5_171) → (Int32.toInt x5_171 ≤ 63) → (Int32.toInt y1_176 = Int32.toInt x5_171) → (0 ≤ Int32.toInt x6_172) → (0 ≤ Int32.toInt x8_174) → (Int32.toInt x8_174 < Int32.toInt x7_173) → (Int32.toInt x7_173 ≤ 400) → (Int32.toInt x7_173 ≤ Int32.toInt (txL q_170 p1)) → (Int32.toInt x8_174 = Int32.toInt x8_13) → (Int32.toInt x7_173 = Int32.toInt x7_12) → dOk (zX2_valueOf_s18_l_s21_171 (fun q x1 x5 x6 x7 x8 => k_7 (q, x1, x5, x6, x7, x8)) q_170 p1 x5_171 x6_172 x7_173 x8_174 y0_175 y1_176 ) (fun (o : Int32 × dK) => (TC o.2) ∧ (cFr [19] [(18, 1)] q o.2)) := by
      intro q_170 x5_171 x6_172 x7_173 x8_174 y0_175 y1_176 hT_188 hF_189 b_178 b_179 b_180 b_181 b_182 b_183 b_184 b_185 b_186 b_187
      unfold zX2_valueOf_s18_l_s21_171
      have hFq_170 : cFr [19] [(18, 1)] q q_170 := hFq_2.t hF_189 (by decide) (by decide)
      refine dOk_G (dg_ok (show 0 ≤ Int32.toInt y1_176 by omega) (show Int32.toInt y1_176 < ((64 : Nat) : Int) by omega)) ?_
      have n_190 : ((Int32.toNatClampNeg y1_176 : Nat) : Int) = Int32.toInt y1_176 := cl_eq (by omega)
      refine dOk_L (fun q_191 eq_191 => ?_)
      have hTq_191 : TC q_191 := by rw [eq_191]; exact sa_19 hT_188
      have hFq_191 : cFr [19] [(18, 1)] q q_191 := by rw [eq_191]; exact hFq_170.i (by decide)
      obtain ⟨y_192, hy_192⟩ : ∃ y : Int32, (x5_171 + 1 : Int32) = y := ⟨_, rfl⟩
      have t_193 : Int32.toInt y_192 = Int32.toInt x5_171 + 1 := by rw [← hy_192]; exact ti_add rfl (by decide) (by omega) (by omega)
      try rw [hy_192]
      clear hy_192
      have w_194 : Int32.toInt (txL q_170 p1) = Int32.toInt (txL q_2 p1) := tx_eqL hF_189.2
      have w_195 : Int32.toInt (txL q_191 p1) = Int32.toInt (txL q_170 p1) := tx_eqL (by rw [eq_191]; rfl)
      exact hn_32 q_191 y_192 x6_172 x7_173 x8_174 hTq_191 (by rw [eq_191]; exact (((cFr.rf : cFr [19] [(18, 1)] q_2 q_2).t hF_189 (by decide) (by decide)) : cFr [19] [(18, 1)] q_2 q_170).i (by decide)) (show 0 ≤ Int32.toInt y_192 by omega) (show Int32.toInt y_192 ≤ 64 by omega) (show 0 ≤ Int32.toInt x6_172 by omega) (show 0 ≤ Int32.toInt x8_174 by omega) (show Int32.toInt x8_174 < Int32.toInt x7_173 by omega) (show Int32.toInt x7_173 ≤ 400 by omega) (show Int32.toInt x7_173 ≤ Int32.toInt (txL q_191 p1) by omega) (show Int32.toInt x8_174 = Int32.toInt x8_13 by omega) (show Int32.toInt x7_173 = Int32.toInt x7_12 by omega)
    have hn_203 : ∀ (q_196 : dK) (x5_197 : Int32) (x6_198 : Int32) (x7_199 : Int32) (x8_200 : Int32) (x9_201 : Int32) (x10_202 : Int32), TC q_196 → cFr [19] [(18, 1)] q_2 q_196 → (0 ≤ Int32.toInt x5_197) → (Int32.toInt x5_197 ≤ 63) → (0 ≤ Int32.toInt x6_198) → (0 ≤ Int32.toInt x8_200) → (Int32.toInt x8_200 < Int32.toInt x7_199) → (0 ≤ Int32.toInt x10_202) → (Int32.toInt x9_201 = 0 ∨ Int32.toInt x10_202 < 9) → (Int32.toInt x7_199 ≤ 400) → (Int32.toInt x7_199 ≤ Int32.toInt (txL q_196 p1)) → (Int32.toInt x8_200 = Int32.toInt x8_13) → (Int32.toInt x7_199 = Int32.toInt x7_12) → dOk (zX2_valueOf_s18_l_s21_150 (fun q x1 x5 x6 x7 x8 => k_7 (q, x1, x5, x6, x7, x8)) q_196 p1 x5_197 x6_198 x7_199 x8_200 x9_201 x10_202 ) (fun (o : Int32 × dK) => (TC o.2) ∧ (cFr [19] [(18, 1)] q o.2)) := by
      intro q_196 x5_197 x6_198 x7_199 x8_200 x9_201 x10_202 hT_215 hF_216 b_204 b_205 b_206 b_207 b_208 b_209 b_210 b_211 b_212 b_213 b_214
      unfold zX2_valueOf_s18_l_s21_150
      have hFq_196 : cFr [19] [(18, 1)] q q_196 := hFq_2.t hF_216 (by decide) (by decide)
      refine dOk_eq (A := Int32.toInt x9_201) (B := 0) rfl (by decide) (fun c_217z c_217 => ?_) (fun c_218z c_218 => ?_)
      · have w_220 : Int32.toInt (txL q_196 p1) = Int32.toInt (txL q_2 p1) := tx_eqL hF_216.2
        exact hn_177 q_196 x5_197 x6_198 x7_199 x8_200 x10_202 x5_197 hT_215 ((cFr.rf : cFr [19] [(18, 1)] q_2 q_2).t hF_216 (by decide) (by decide)) (show 0 ≤ Int32.toInt x5_197 by omega) (show Int32.toInt x5_197 ≤ 63 by omega) (show Int32.toInt x5_197 = Int32.toInt x5_197 by omega) (show 0 ≤ Int32.toInt x6_198 by omega) (show 0 ≤ Int32.toInt x8_200 by omega) (show Int32.toInt x8_200 < Int32.toInt x7_199 by omega) (show Int32.toInt x7_199 ≤ 400 by omega) (show Int32.toInt x7_199 ≤ Int32.toInt (txL q_196 p1) by omega) (show Int32.toInt x8_200 = Int32.toInt x8_13 by omega) (show Int32.toInt x7_199 = Int32.toInt x7_12 by omega)
      · refine dOk_G (dg_ok (show 0 ≤ Int32.toInt x10_202 by omega) (show Int32.toInt x10_202 < ((9 : Nat) : Int) by omega)) ?_
        have n_221 : ((Int32.toNatClampNeg x10_202 : Nat) : Int) = Int32.toInt x10_202 := cl_eq (by omega)
        refine dOk_L (fun v_222 ev_222 => ?_)
        have w_223 : Int32.toInt (txL q_196 p1) = Int32.toInt (txL q_2 p1) := tx_eqL hF_216.2
        exact hn_177 q_196 x5_197 x6_198 x7_199 x8_200 v_222 x5_197 hT_215 ((cFr.rf : cFr [19] [(18, 1)] q_2 q_2).t hF_216 (by decide) (by decide)) (show 0 ≤ Int32.toInt x5_197 by omega) (show Int32.toInt x5_197 ≤ 63 by omega) (show Int32.toInt x5_197 = Int32.toInt x5_197 by omega) (show 0 ≤ Int32.toInt x6_198 by omega) (show 0 ≤ Int32.toInt x8_200 by omega) (show Int32.toInt x8_200 < Int32.toInt x7_199 by omega) (show Int32.toInt x7_199 ≤ 400 by omega) (show Int32.toInt x7_199 ≤ Int32.toInt (txL q_196 p1) by omega) (show Int32.toInt x8_200 = Int32.toInt x8_13 by omega) (show Int32.toInt x7_199 = Int32.toInt x7_12 by omega)
    have hn_229 : ∀ (q_224 : dK) (x5_225 : Int32) (x6_226 : Int32) (x7_227 : Int32) (x8_228 : Int32), TC q_224 → cFr [19] [(18, 1)] q_2 q_224 → (0 ≤ Int32.toInt x5_225) → (Int32.toInt x5_225 ≤ 64) → (0 ≤ Int32.toInt x6_226) → (0 ≤ Int32.toInt x8_228) → (Int32.toInt x8_228 < Int32.toInt x7_227) → (Int32.toInt x7_227 ≤ 400) → (Int32.toInt x7_227 ≤ Int32.toInt (txL q_224 p1)) → (Int32.toInt x8_228 = Int32.toInt x8_13) → (Int32.toInt x7_227 = Int32.toInt x7_12) → dOk (zX2_valueOf_s18_l_s21_131 (fun q x1 x5 x6 x7 x8 => k_7 (q, x1, x5, x6, x7, x8)) q_224 p1 x5_225 x6_226 x7_227 x8_228 ) (fun (o : Int32 × dK) => (TC o.2) ∧ (cFr [19] [(18, 1)] q o.2)) := by
      intro q_224 x5_225 x6_226 x7_227 x8_228 hT_239 hF_240 b_230 b_231 b_232 b_233 b_234 b_235 b_236 b_237 b_238
      unfold zX2_valueOf_s18_l_s21_131
      have hFq_224 : cFr [19] [(18, 1)] q q_224 := hFq_2.t hF_240 (by decide) (by decide)
      refine dOk_L (fun q_241 eq_241 => ?_)
      have hTq_241 : TC q_241 := by rw [eq_241]; exact st_18_1 hT_239 (show (0 : Int) ≤ (1 : Int) by omega) (show (1 : Int) ≤ (1 : Int) by omega)
      have hFq_241 : cFr [19] [(18, 1)] q q_241 := by rw [eq_241]; exact hFq_224.f (by decide)
      have w_242 : Int32.toInt (txL q_224 p1) = Int32.toInt (txL q_2 p1) := tx_eqL hF_240.2
      have w_243 : Int32.toInt (txL q_241 p1) = Int32.toInt (txL q_224 p1) := tx_eqL (by rw [eq_241]; rfl)
      exact hn_32 q_241 x5_225 x6_226 x7_227 x8_228 hTq_241 (by rw [eq_241]; exact (((cFr.rf : cFr [19] [(18, 1)] q_2 q_2).t hF_240 (by decide) (by decide)) : cFr [19] [(18, 1)] q_2 q_224).f (by decide)) (show 0 ≤ Int32.toInt x5_225 by omega) (show Int32.toInt x5_225 ≤ 64 by omega) (show 0 ≤ Int32.toInt x6_226 by omega) (show 0 ≤ Int32.toInt x8_228 by omega) (show Int32.toInt x8_228 < Int32.toInt x7_227 by omega) (show Int32.toInt x7_227 ≤ 400 by omega) (show Int32.toInt x7_227 ≤ Int32.toInt (txL q_241 p1) by omega) (show Int32.toInt x8_228 = Int32.toInt x8_13 by omega) (show Int32.toInt x7_227 = Int32.toInt x7_12 by omega)
    have hn_251 : ∀ (q_244 : dK) (x5_245 : Int32) (x6_246 : Int32) (x7_247 : Int32) (x8_248 : Int32) (x9_249 : Int32) (x10_250 : Int32), TC q_244 → cFr [19] [(18, 1)] q_2 q_244 → (0 ≤ Int32.toInt x5_245) → (Int32.toInt x5_245 ≤ 63) → (0 ≤ Int32.toInt x6_246) → (0 ≤ Int32.toInt x8_248) → (Int32.toInt x8_248 < Int32.toInt x7_247) → (0 ≤ Int32.toInt x10_250) → ((Int32.toInt x9_249 = 0 ∨ (Int32.toInt x9_249 = 1 ∧ Int32.toInt x10_250 < 9) ∨ (2 ≤ Int32.toInt x9_249 ∧ Int32.toInt x9_249 ≤ 9 ∧ 2 ≤ Int32.toInt x5_245) ∨ (10 ≤ Int32.toInt x9_249 ∧ Int32.toInt x9_249 ≤ 12 ∧ 1 ≤ Int32.toInt x5_245))) → (Int32.toInt x7_247 ≤ 400) → (Int32.toInt x7_247 ≤ Int32.toInt (txL q_244 p1)) → (Int32.toInt x8_248 = Int32.toInt x8_13) → (Int32.toInt x7_247 = Int32.toInt x7_12) → dOk (zX2_valueOf_s18_l_s21_139 (fun q x1 x5 x6 x7 x8 => k_7 (q, x1, x5, x6, x7, x8)) q_244 p1 x5_245 x6_246 x7_247 x8_248 x9_249 x10_250 ) (fun (o : Int32 × dK) => (TC o.2) ∧ (cFr [19] [(18, 1)] q o.2)) := by
      intro q_244 x5_245 x6_246 x7_247 x8_248 x9_249 x10_250 hT_263 hF_264 b_252 b_253 b_254 b_255 b_256 b_257 b_258 b_259 b_260 b_261 b_262
      unfold zX2_valueOf_s18_l_s21_139
      have hFq_244 : cFr [19] [(18, 1)] q q_244 := hFq_2.t hF_264 (by decide) (by decide)
      refine dOk_eq (A := Int32.toInt x9_249) (B := 0) rfl (by decide) (fun c_265z c_265 => ?_) (fun c_266z c_266 => ?_)
      · have w_268 : Int32.toInt (txL q_244 p1) = Int32.toInt (txL q_2 p1) := tx_eqL hF_264.2
        exact hn_203 q_244 x5_245 x6_246 x7_247 x8_248 x9_249 x10_250 hT_263 ((cFr.rf : cFr [19] [(18, 1)] q_2 q_2).t hF_264 (by decide) (by decide)) (show 0 ≤ Int32.toInt x5_245 by omega) (show Int32.toInt x5_245 ≤ 63 by omega) (show 0 ≤ Int32.toInt x6_246 by omega) (show 0 ≤ Int32.toInt x8_248 by omega) (show Int32.toInt x8_248 < Int32.toInt x7_247 by omega) (show 0 ≤ Int32.toInt x10_250 by omega) (show Int32.toInt x9_249 = 0 ∨ Int32.toInt x10_250 < 9 by omega) (show Int32.toInt x7_247 ≤ 400 by omega) (show Int32.toInt x7_247 ≤ Int32.toInt (txL q_244 p1) by omega) (show Int32.toInt x8_248 = Int32.toInt x8_13 by omega) (show Int32.toInt x7_247 = Int32.toInt x7_12 by omega)
      · refine dOk_eq (A := Int32.toInt x9_249) (B := 1) rfl (by decide) (fun c_269z c_269 => ?_) (fun c_270z c_270 => ?_)
        · have w_272 : Int32.toInt (txL q_244 p1) = Int32.toInt (txL q_2 p1) := tx_eqL hF_264.2
          exact hn_203 q_244 x5_245 x6_246 x7_247 x8_248 x9_249 x10_250 hT_263 ((cFr.rf : cFr [19] [(18, 1)] q_2 q_2).t hF_264 (by decide) (by decide)) (show 0 ≤ Int32.toInt x5_245 by omega) (show Int32.toInt x5_245 ≤ 63 by omega) (show 0 ≤ Int32.toInt x6_246 by omega) (show 0 ≤ Int32.toInt x8_248 by omega) (show Int32.toInt x8_248 < Int32.toInt x7_247 by omega) (show 0 ≤ Int32.toInt x10_250 by omega) (show Int32.toInt x9_249 = 0 ∨ Int32.toInt x10_250 < 9 by omega) (show Int32.toInt x7_247 ≤ 400 by omega) (show Int32.toInt x7_247 ≤ Int32.toInt (txL q_244 p1) by omega) (show Int32.toInt x8_248 = Int32.toInt x8_13 by omega) (show Int32.toInt x7_247 = Int32.toInt x7_12 by omega)
        · refine dOk_eq (A := Int32.toInt x9_249) (B := 10) rfl (by decide) (fun c_273z c_273 => ?_) (fun c_274z c_274 => ?_)
          · obtain ⟨y_276, hy_276⟩ : ∃ y : Int32, (x5_245 - 1 : Int32) = y := ⟨_, rfl⟩
            have t_277 : Int32.toInt y_276 = Int32.toInt x5_245 - 1 := by rw [← hy_276]; exact ti_sub rfl (by decide) (by omega) (by omega)
            try rw [hy_276]
            clear hy_276
            refine dOk_G (dg_ok (show 0 ≤ Int32.toInt y_276 by omega) (show Int32.toInt y_276 < ((64 : Nat) : Int) by omega)) ?_
            have n_278 : ((Int32.toNatClampNeg y_276 : Nat) : Int) = Int32.toInt y_276 := cl_eq (by omega)
            refine dOk_L (fun v_279 ev_279 => ?_)
            refine dOk_G (dg_ok (show 0 ≤ Int32.toInt y_276 by omega) (show Int32.toInt y_276 < ((64 : Nat) : Int) by omega)) ?_
            refine dOk_L (fun q_280 eq_280 => ?_)
            have hTq_280 : TC q_280 := by rw [eq_280]; exact sa_19 hT_263
            have hFq_280 : cFr [19] [(18, 1)] q q_280 := by rw [eq_280]; exact hFq_244.i (by decide)
            have w_281 : Int32.toInt (txL q_244 p1) = Int32.toInt (txL q_2 p1) := tx_eqL hF_264.2
            have w_282 : Int32.toInt (txL q_280 p1) = Int32.toInt (txL q_244 p1) := tx_eqL (by rw [eq_280]; rfl)
            exact hn_32 q_280 x5_245 x6_246 x7_247 x8_248 hTq_280 (by rw [eq_280]; exact (((cFr.rf : cFr [19] [(18, 1)] q_2 q_2).t hF_264 (by decide) (by decide)) : cFr [19] [(18, 1)] q_2 q_244).i (by decide)) (show 0 ≤ Int32.toInt x5_245 by omega) (show Int32.toInt x5_245 ≤ 64 by omega) (show 0 ≤ Int32.toInt x6_246 by omega) (show 0 ≤ Int32.toInt x8_248 by omega) (show Int32.toInt x8_248 < Int32.toInt x7_247 by omega) (show Int32.toInt x7_247 ≤ 400 by omega) (show Int32.toInt x7_247 ≤ Int32.toInt (txL q_280 p1) by omega) (show Int32.toInt x8_248 = Int32.toInt x8_13 by omega) (show Int32.toInt x7_247 = Int32.toInt x7_12 by omega)
          · refine dOk_eq (A := Int32.toInt x9_249) (B := 11) rfl (by decide) (fun c_283z c_283 => ?_) (fun c_284z c_284 => ?_)
            · have w_286 : Int32.toInt (txL q_244 p1) = Int32.toInt (txL q_2 p1) := tx_eqL hF_264.2
              exact hn_148 q_244 x5_245 x6_246 x7_247 x8_248 x9_249 x10_250 hT_263 ((cFr.rf : cFr [19] [(18, 1)] q_2 q_2).t hF_264 (by decide) (by decide)) (show 1 ≤ Int32.toInt x5_245 by omega) (show Int32.toInt x5_245 ≤ 63 by omega) (show 0 ≤ Int32.toInt x6_246 by omega) (show 0 ≤ Int32.toInt x8_248 by omega) (show Int32.toInt x8_248 < Int32.toInt x7_247 by omega) (show 0 ≤ Int32.toInt x10_250 by omega) (show Int32.toInt x7_247 ≤ 400 by omega) (show Int32.toInt x7_247 ≤ Int32.toInt (txL q_244 p1) by omega) (show Int32.toInt x8_248 = Int32.toInt x8_13 by omega) (show Int32.toInt x7_247 = Int32.toInt x7_12 by omega)
            · refine dOk_eq (A := Int32.toInt x9_249) (B := 12) rfl (by decide) (fun c_287z c_287 => ?_) (fun c_288z c_288 => ?_)
              · have w_290 : Int32.toInt (txL q_244 p1) = Int32.toInt (txL q_2 p1) := tx_eqL hF_264.2
                exact hn_148 q_244 x5_245 x6_246 x7_247 x8_248 x9_249 x10_250 hT_263 ((cFr.rf : cFr [19] [(18, 1)] q_2 q_2).t hF_264 (by decide) (by decide)) (show 1 ≤ Int32.toInt x5_245 by omega) (show Int32.toInt x5_245 ≤ 63 by omega) (show 0 ≤ Int32.toInt x6_246 by omega) (show 0 ≤ Int32.toInt x8_248 by omega) (show Int32.toInt x8_248 < Int32.toInt x7_247 by omega) (show 0 ≤ Int32.toInt x10_250 by omega) (show Int32.toInt x7_247 ≤ 400 by omega) (show Int32.toInt x7_247 ≤ Int32.toInt (txL q_244 p1) by omega) (show Int32.toInt x8_248 = Int32.toInt x8_13 by omega) (show Int32.toInt x7_247 = Int32.toInt x7_12 by omega)
              · obtain ⟨y_291, hy_291⟩ : ∃ y : Int32, (x5_245 + (-1) : Int32) = y := ⟨_, rfl⟩
                have t_292 : Int32.toInt y_291 = Int32.toInt x5_245 + (-1) := by rw [← hy_291]; exact ti_add rfl (by decide) (by omega) (by omega)
                try rw [hy_291]
                clear hy_291
                obtain ⟨y_293, hy_293⟩ : ∃ y : Int32, (y_291 - 1 : Int32) = y := ⟨_, rfl⟩
                have t_294 : Int32.toInt y_293 = Int32.toInt y_291 - 1 := by rw [← hy_293]; exact ti_sub rfl (by decide) (by omega) (by omega)
                try rw [hy_293]
                clear hy_293
                refine dOk_G (dg_ok (show 0 ≤ Int32.toInt y_293 by omega) (show Int32.toInt y_293 < ((64 : Nat) : Int) by omega)) ?_
                have n_295 : ((Int32.toNatClampNeg y_293 : Nat) : Int) = Int32.toInt y_293 := cl_eq (by omega)
                refine dOk_L (fun v_296 ev_296 => ?_)
                refine dOk_G (dg_ok (show 0 ≤ Int32.toInt y_291 by omega) (show Int32.toInt y_291 < ((64 : Nat) : Int) by omega)) ?_
                have n_297 : ((Int32.toNatClampNeg y_291 : Nat) : Int) = Int32.toInt y_291 := cl_eq (by omega)
                refine dOk_L (fun v_298 ev_298 => ?_)
                refine dOk_B (ok_X2_join_s18 q_244 x9_249 (Int32.toInt64 v_296) (Int32.toInt64 v_298) hT_263) (fun r_299 q_300 h_301 => ?_)
                replace h_301 : (TC q_300) ∧ (cFr [] [(18, 1)] q_244 q_300) := h_301
                obtain ⟨i_302, i_303⟩ := h_301
                have hFq_300 : cFr [19] [(18, 1)] q q_300 := hFq_244.t i_303 (by decide) (by decide)
                refine dOk_G (dg_ok (show 0 ≤ Int32.toInt y_293 by omega) (show Int32.toInt y_293 < ((64 : Nat) : Int) by omega)) ?_
                refine dOk_L (fun q_304 eq_304 => ?_)
                have hTq_304 : TC q_304 := by rw [eq_304]; exact sa_19 i_302
                have hFq_304 : cFr [19] [(18, 1)] q q_304 := by rw [eq_304]; exact hFq_300.i (by decide)
                have w_305 : Int32.toInt (txL q_244 p1) = Int32.toInt (txL q_2 p1) := tx_eqL hF_264.2
                have w_306 : Int32.toInt (txL q_300 p1) = Int32.toInt (txL q_244 p1) := tx_eqL i_303.2
                have w_307 : Int32.toInt (txL q_304 p1) = Int32.toInt (txL q_300 p1) := tx_eqL (by rw [eq_304]; rfl)
                exact hn_32 q_304 y_291 x6_246 x7_247 x8_248 hTq_304 (by rw [eq_304]; exact (((((cFr.rf : cFr [19] [(18, 1)] q_2 q_2).t hF_264 (by decide) (by decide)) : cFr [19] [(18, 1)] q_2 q_244).t i_303 (by decide) (by decide)) : cFr [19] [(18, 1)] q_2 q_300).i (by decide)) (show 0 ≤ Int32.toInt y_291 by omega) (show Int32.toInt y_291 ≤ 64 by omega) (show 0 ≤ Int32.toInt x6_246 by omega) (show 0 ≤ Int32.toInt x8_248 by omega) (show Int32.toInt x8_248 < Int32.toInt x7_247 by omega) (show Int32.toInt x7_247 ≤ 400 by omega) (show Int32.toInt x7_247 ≤ Int32.toInt (txL q_304 p1) by omega) (show Int32.toInt x8_248 = Int32.toInt x8_13 by omega) (show Int32.toInt x7_247 = Int32.toInt x7_12 by omega)
    have hn_316 : ∀ (q_308 : dK) (x5_309 : Int32) (x6_310 : Int32) (x7_311 : Int32) (x8_312 : Int32) (x9_313 : Int32) (x10_314 : Int32) (y0_315 : Int32), TC q_308 → cFr [19] [(18, 1)] q_2 q_308 → (0 ≤ Int32.toInt x5_309) → (Int32.toInt x5_309 ≤ 64) → (0 ≤ Int32.toInt x6_310) → (Int32.toInt x6_310 < Int32.toInt x7_311) → (0 ≤ Int32.toInt x8_312) → (Int32.toInt x8_312 < Int32.toInt x7_311) → (0 ≤ Int32.toInt x10_314) → (((0 ≤ Int32.toInt x9_313 ∧ Int32.toInt x9_313 ≤ 1 ∧ Int32.toInt y0_315 = 0) ∨ (2 ≤ Int32.toInt x9_313 ∧ Int32.toInt x9_313 ≤ 9 ∧ Int32.toInt y0_315 = 2) ∨ (10 ≤ Int32.toInt x9_313 ∧ Int32.toInt x9_313 ≤ 12 ∧ Int32.toInt y0_315 = 1))) → (Int32.toInt x7_311 ≤ 400) → (Int32.toInt x7_311 ≤ Int32.toInt (txL q_308 p1)) → (Int32.toInt x8_312 = Int32.toInt x8_13) → (Int32.toInt x7_311 = Int32.toInt x7_12) → dOk (zX2_valueOf_s18_l_s21_98 (fun q x1 x5 x6 x7 x8 => k_7 (q, x1, x5, x6, x7, x8)) q_308 p1 x5_309 x6_310 x7_311 x8_312 x9_313 x10_314 y0_315 ) (fun (o : Int32 × dK) => (TC o.2) ∧ (cFr [19] [(18, 1)] q o.2)) := by
      intro q_308 x5_309 x6_310 x7_311 x8_312 x9_313 x10_314 y0_315 hT_329 hF_330 b_317 b_318 b_319 b_320 b_321 b_322 b_323 b_324 b_325 b_326 b_327 b_328
      unfold zX2_valueOf_s18_l_s21_98
      have hFq_308 : cFr [19] [(18, 1)] q q_308 := hFq_2.t hF_330 (by decide) (by decide)
      refine dOk_lt (A := Int32.toInt x5_309) (B := Int32.toInt y0_315) rfl rfl (fun c_331 => ?_) (fun c_332 => ?_)
      · obtain ⟨y_333, hy_333⟩ : ∃ y : Int32, (x6_310 + 1 : Int32) = y := ⟨_, rfl⟩
        have t_334 : Int32.toInt y_333 = Int32.toInt x6_310 + 1 := by rw [← hy_333]; exact ti_add rfl (by decide) (by omega) (by omega)
        try rw [hy_333]
        clear hy_333
        have w_335 : Int32.toInt (txL q_308 p1) = Int32.toInt (txL q_2 p1) := tx_eqL hF_330.2
        exact hn_229 q_308 x5_309 y_333 x7_311 x8_312 hT_329 ((cFr.rf : cFr [19] [(18, 1)] q_2 q_2).t hF_330 (by decide) (by decide)) (show 0 ≤ Int32.toInt x5_309 by omega) (show Int32.toInt x5_309 ≤ 64 by omega) (show 0 ≤ Int32.toInt y_333 by omega) (show 0 ≤ Int32.toInt x8_312 by omega) (show Int32.toInt x8_312 < Int32.toInt x7_311 by omega) (show Int32.toInt x7_311 ≤ 400 by omega) (show Int32.toInt x7_311 ≤ Int32.toInt (txL q_308 p1) by omega) (show Int32.toInt x8_312 = Int32.toInt x8_13 by omega) (show Int32.toInt x7_311 = Int32.toInt x7_12 by omega)
      · refine dOk_le (A := 64) (B := Int32.toInt x5_309) (by decide) rfl (fun c_336 => ?_) (fun c_337 => ?_)
        · obtain ⟨y_338, hy_338⟩ : ∃ y : Int32, (x6_310 + 1 : Int32) = y := ⟨_, rfl⟩
          have t_339 : Int32.toInt y_338 = Int32.toInt x6_310 + 1 := by rw [← hy_338]; exact ti_add rfl (by decide) (by omega) (by omega)
          try rw [hy_338]
          clear hy_338
          have w_340 : Int32.toInt (txL q_308 p1) = Int32.toInt (txL q_2 p1) := tx_eqL hF_330.2
          exact hn_229 q_308 x5_309 y_338 x7_311 x8_312 hT_329 ((cFr.rf : cFr [19] [(18, 1)] q_2 q_2).t hF_330 (by decide) (by decide)) (show 0 ≤ Int32.toInt x5_309 by omega) (show Int32.toInt x5_309 ≤ 64 by omega) (show 0 ≤ Int32.toInt y_338 by omega) (show 0 ≤ Int32.toInt x8_312 by omega) (show Int32.toInt x8_312 < Int32.toInt x7_311 by omega) (show Int32.toInt x7_311 ≤ 400 by omega) (show Int32.toInt x7_311 ≤ Int32.toInt (txL q_308 p1) by omega) (show Int32.toInt x8_312 = Int32.toInt x8_13 by omega) (show Int32.toInt x7_311 = Int32.toInt x7_12 by omega)
        · refine dOk_eq (A := Int32.toInt x9_313) (B := 1) rfl (by decide) (fun c_341z c_341 => ?_) (fun c_342z c_342 => ?_)
          · refine dOk_lt (A := Int32.toInt x10_314) (B := 9) rfl (by decide) (fun c_344 => ?_) (fun c_345 => ?_)
            · obtain ⟨y_346, hy_346⟩ : ∃ y : Int32, (x6_310 + 1 : Int32) = y := ⟨_, rfl⟩
              have t_347 : Int32.toInt y_346 = Int32.toInt x6_310 + 1 := by rw [← hy_346]; exact ti_add rfl (by decide) (by omega) (by omega)
              try rw [hy_346]
              clear hy_346
              have w_348 : Int32.toInt (txL q_308 p1) = Int32.toInt (txL q_2 p1) := tx_eqL hF_330.2
              exact hn_251 q_308 x5_309 y_346 x7_311 x8_312 x9_313 x10_314 hT_329 ((cFr.rf : cFr [19] [(18, 1)] q_2 q_2).t hF_330 (by decide) (by decide)) (show 0 ≤ Int32.toInt x5_309 by omega) (show Int32.toInt x5_309 ≤ 63 by omega) (show 0 ≤ Int32.toInt y_346 by omega) (show 0 ≤ Int32.toInt x8_312 by omega) (show Int32.toInt x8_312 < Int32.toInt x7_311 by omega) (show 0 ≤ Int32.toInt x10_314 by omega) (show (Int32.toInt x9_313 = 0 ∨ (Int32.toInt x9_313 = 1 ∧ Int32.toInt x10_314 < 9) ∨ (2 ≤ Int32.toInt x9_313 ∧ Int32.toInt x9_313 ≤ 9 ∧ 2 ≤ Int32.toInt x5_309) ∨ (10 ≤ Int32.toInt x9_313 ∧ Int32.toInt x9_313 ≤ 12 ∧ 1 ≤ Int32.toInt x5_309)) by omega) (show Int32.toInt x7_311 ≤ 400 by omega) (show Int32.toInt x7_311 ≤ Int32.toInt (txL q_308 p1) by omega) (show Int32.toInt x8_312 = Int32.toInt x8_13 by omega) (show Int32.toInt x7_311 = Int32.toInt x7_12 by omega)
            · obtain ⟨y_349, hy_349⟩ : ∃ y : Int32, (x6_310 + 1 : Int32) = y := ⟨_, rfl⟩
              have t_350 : Int32.toInt y_349 = Int32.toInt x6_310 + 1 := by rw [← hy_349]; exact ti_add rfl (by decide) (by omega) (by omega)
              try rw [hy_349]
              clear hy_349
              have w_351 : Int32.toInt (txL q_308 p1) = Int32.toInt (txL q_2 p1) := tx_eqL hF_330.2
              exact hn_229 q_308 x5_309 y_349 x7_311 x8_312 hT_329 ((cFr.rf : cFr [19] [(18, 1)] q_2 q_2).t hF_330 (by decide) (by decide)) (show 0 ≤ Int32.toInt x5_309 by omega) (show Int32.toInt x5_309 ≤ 64 by omega) (show 0 ≤ Int32.toInt y_349 by omega) (show 0 ≤ Int32.toInt x8_312 by omega) (show Int32.toInt x8_312 < Int32.toInt x7_311 by omega) (show Int32.toInt x7_311 ≤ 400 by omega) (show Int32.toInt x7_311 ≤ Int32.toInt (txL q_308 p1) by omega) (show Int32.toInt x8_312 = Int32.toInt x8_13 by omega) (show Int32.toInt x7_311 = Int32.toInt x7_12 by omega)
          · obtain ⟨y_352, hy_352⟩ : ∃ y : Int32, (x6_310 + 1 : Int32) = y := ⟨_, rfl⟩
            have t_353 : Int32.toInt y_352 = Int32.toInt x6_310 + 1 := by rw [← hy_352]; exact ti_add rfl (by decide) (by omega) (by omega)
            try rw [hy_352]
            clear hy_352
            have w_354 : Int32.toInt (txL q_308 p1) = Int32.toInt (txL q_2 p1) := tx_eqL hF_330.2
            exact hn_251 q_308 x5_309 y_352 x7_311 x8_312 x9_313 x10_314 hT_329 ((cFr.rf : cFr [19] [(18, 1)] q_2 q_2).t hF_330 (by decide) (by decide)) (show 0 ≤ Int32.toInt x5_309 by omega) (show Int32.toInt x5_309 ≤ 63 by omega) (show 0 ≤ Int32.toInt y_352 by omega) (show 0 ≤ Int32.toInt x8_312 by omega) (show Int32.toInt x8_312 < Int32.toInt x7_311 by omega) (show 0 ≤ Int32.toInt x10_314 by omega) (show (Int32.toInt x9_313 = 0 ∨ (Int32.toInt x9_313 = 1 ∧ Int32.toInt x10_314 < 9) ∨ (2 ≤ Int32.toInt x9_313 ∧ Int32.toInt x9_313 ≤ 9 ∧ 2 ≤ Int32.toInt x5_309) ∨ (10 ≤ Int32.toInt x9_313 ∧ Int32.toInt x9_313 ≤ 12 ∧ 1 ≤ Int32.toInt x5_309)) by omega) (show Int32.toInt x7_311 ≤ 400 by omega) (show Int32.toInt x7_311 ≤ Int32.toInt (txL q_308 p1) by omega) (show Int32.toInt x8_312 = Int32.toInt x8_13 by omega) (show Int32.toInt x7_311 = Int32.toInt x7_12 by omega)
    refine dOk_le (A := Int32.toInt x7_12) (B := Int32.toInt x8_13) rfl rfl (fun c_355 => ?_) (fun c_356 => ?_)
    · unfold zX2_valueOf_s18_l_s21_328
      have f_357 : 0 ≤ Int32.toInt (q_8.1 18 1) ∧ Int32.toInt (q_8.1 18 1) ≤ 1 := rg_18_1 a_14
      refine dOk_eq (A := Int32.toInt (q_8.1 18 1)) (B := 0) rfl (by decide) (fun c_358z c_358 => ?_) (fun c_359z c_359 => ?_)
      · unfold zX2_valueOf_s18_l_s21_345
        exact dOk_some (show (TC q_8) ∧ (cFr [19] [(18, 1)] q q_8) from ⟨a_14, hFq_8⟩)
      · unfold zX2_valueOf_s18_l_s21_345
        exact dOk_some (show (TC q_8) ∧ (cFr [19] [(18, 1)] q q_8) from ⟨a_14, hFq_8⟩)
    · refine dOk_le (A := Int32.toInt x7_12) (B := Int32.toInt x6_11) rfl rfl (fun c_361 => ?_) (fun c_362 => ?_)
      · unfold zX2_valueOf_s18_l_s21_328
        have f_363 : 0 ≤ Int32.toInt (q_8.1 18 1) ∧ Int32.toInt (q_8.1 18 1) ≤ 1 := rg_18_1 a_14
        refine dOk_eq (A := Int32.toInt (q_8.1 18 1)) (B := 0) rfl (by decide) (fun c_364z c_364 => ?_) (fun c_365z c_365 => ?_)
        · unfold zX2_valueOf_s18_l_s21_345
          exact dOk_some (show (TC q_8) ∧ (cFr [19] [(18, 1)] q q_8) from ⟨a_14, hFq_8⟩)
        · unfold zX2_valueOf_s18_l_s21_345
          exact dOk_some (show (TC q_8) ∧ (cFr [19] [(18, 1)] q q_8) from ⟨a_14, hFq_8⟩)
      · have f_367 : 0 ≤ Int32.toInt (q_8.1 18 1) ∧ Int32.toInt (q_8.1 18 1) ≤ 1 := rg_18_1 a_14
        refine dOk_eq (A := Int32.toInt (q_8.1 18 1)) (B := 0) rfl (by decide) (fun c_368z c_368 => ?_) (fun c_369z c_369 => ?_)
        · have n_371 : q_8.2.2.length = q_2.2.2.length := (congrArg List.length a_15.2)
          have g_372 : dlg q_8 p1 = true := tc_dlg a_14 (show ¬ Int32.toInt p1 = 0 by omega) (show 0 ≤ Int32.toInt p1 by omega) (show Int32.toInt p1 ≤ (q_8.2.2.length : Int) by omega)
          refine dOk_G g_372 ?_
          refine dOk_G g_372 ?_
          have f_373 : 0 ≤ Int32.toInt (txK q_8 p1) ∧ Int32.toInt (txK q_8 p1) ≤ 400 := tx_K a_14 g_372
          have w_374 : Int32.toInt (txK q_8 p1) = Int32.toInt (txL q_8 p1) := tx_K2 a_14 g_372
          have f_375 : 0 ≤ Int32.toInt (txK q_2 p1) ∧ Int32.toInt (txK q_2 p1) ≤ 400 := tx_K hTq_2 g_5
          have w_376 : Int32.toInt (txK q_2 p1) = Int32.toInt (txL q_2 p1) := tx_K2 hTq_2 g_5
          have w_377 : Int32.toInt (txK q_1 p1) = Int32.toInt (txK q p1) := tx_eqK (by rw [eq_1]; rfl)
          have w_378 : Int32.toInt (txK q_2 p1) = Int32.toInt (txK q_1 p1) := tx_eqK (by rw [eq_2]; rfl)
          have w_379 : Int32.toInt (txK q_8 p1) = Int32.toInt (txK q_2 p1) := tx_eqK a_15.2
          refine dOk_G (dg_ok (show 0 ≤ Int32.toInt x6_11 by omega) (show Int32.toInt x6_11 < ((Int32.toNatClampNeg (txK q_8 p1) : Nat) : Int) by rw [cl_eq (show 0 ≤ Int32.toInt (txK q_8 p1) by omega)]; omega)) ?_
          refine dOk_L (fun v_380 ev_380 => ?_)
          have f_381 : 0 ≤ Int32.toInt v_380 := by rw [ev_380]; exact tx_R a_14 g_372 _ _ (by decide)
          have hOv_380 : cOp v_380 := by rw [ev_380]; exact tx_O a_14 g_372 _
          refine dOk_G g_372 ?_
          refine dOk_G g_372 ?_
          refine dOk_G (dg_ok (show 0 ≤ Int32.toInt x6_11 by omega) (show Int32.toInt x6_11 < ((Int32.toNatClampNeg (txK q_8 p1) : Nat) : Int) by rw [cl_eq (show 0 ≤ Int32.toInt (txK q_8 p1) by omega)]; omega)) ?_
          refine dOk_L (fun v_382 ev_382 => ?_)
          have f_383 : 0 ≤ Int32.toInt v_382 := by rw [ev_382]; exact tx_R a_14 g_372 _ _ (by decide)
          have hOv_382 : cOp v_382 := by rw [ev_382]; exact tx_O a_14 g_372 _
          obtain ⟨y_384, hy_384⟩ : ∃ y : Int32, (v_380 &&& 15 : Int32) = y := ⟨_, rfl⟩
          have t_385 : 0 ≤ Int32.toInt y_384 ∧ Int32.toInt y_384 ≤ 15 := by rw [← hy_384]; exact ti_and15 _
          have t_386 : Int32.toInt y_384 ≤ 12 := by rw [← hy_384]; exact hOv_380
          try rw [hy_384]
          clear hy_384
          refine dOk_lt (A := 1) (B := Int32.toInt y_384) (by decide) rfl (fun c_387 => ?_) (fun c_388 => ?_)
          · refine dOk_le (A := 10) (B := Int32.toInt y_384) (by decide) rfl (fun c_389 => ?_) (fun c_390 => ?_)
            · obtain ⟨y_391, hy_391⟩ : ∃ y : Int32, (v_382 >>> ((4 : Int32) &&& 31) : Int32) = y := ⟨_, rfl⟩
              have t_392 : 0 ≤ Int32.toInt y_391 := by rw [← hy_391]; exact (ti_shr (by omega)).1
              try rw [hy_391]
              clear hy_391
              exact hn_316 q_8 x5_10 x6_11 x7_12 x8_13 y_384 y_391 1 a_14 ((cFr.rf : cFr [19] [(18, 1)] q_2 q_2).t a_15 (by decide) (by decide)) (show 0 ≤ Int32.toInt x5_10 by omega) (show Int32.toInt x5_10 ≤ 64 by omega) (show 0 ≤ Int32.toInt x6_11 by omega) (show Int32.toInt x6_11 < Int32.toInt x7_12 by omega) (show 0 ≤ Int32.toInt x8_13 by omega) (show Int32.toInt x8_13 < Int32.toInt x7_12 by omega) (show 0 ≤ Int32.toInt y_391 by omega) (show ((0 ≤ Int32.toInt y_384 ∧ Int32.toInt y_384 ≤ 1 ∧ (1 : Int) = 0) ∨ (2 ≤ Int32.toInt y_384 ∧ Int32.toInt y_384 ≤ 9 ∧ (1 : Int) = 2) ∨ (10 ≤ Int32.toInt y_384 ∧ Int32.toInt y_384 ≤ 12 ∧ (1 : Int) = 1)) by omega) (show Int32.toInt x7_12 ≤ 400 by omega) (show Int32.toInt x7_12 ≤ Int32.toInt (txL q_8 p1) by omega) (show Int32.toInt x8_13 = Int32.toInt x8_13 by omega) (show Int32.toInt x7_12 = Int32.toInt x7_12 by omega)
            · obtain ⟨y_393, hy_393⟩ : ∃ y : Int32, (v_382 >>> ((4 : Int32) &&& 31) : Int32) = y := ⟨_, rfl⟩
              have t_394 : 0 ≤ Int32.toInt y_393 := by rw [← hy_393]; exact (ti_shr (by omega)).1
              try rw [hy_393]
              clear hy_393
              exact hn_316 q_8 x5_10 x6_11 x7_12 x8_13 y_384 y_393 2 a_14 ((cFr.rf : cFr [19] [(18, 1)] q_2 q_2).t a_15 (by decide) (by decide)) (show 0 ≤ Int32.toInt x5_10 by omega) (show Int32.toInt x5_10 ≤ 64 by omega) (show 0 ≤ Int32.toInt x6_11 by omega) (show Int32.toInt x6_11 < Int32.toInt x7_12 by omega) (show 0 ≤ Int32.toInt x8_13 by omega) (show Int32.toInt x8_13 < Int32.toInt x7_12 by omega) (show 0 ≤ Int32.toInt y_393 by omega) (show ((0 ≤ Int32.toInt y_384 ∧ Int32.toInt y_384 ≤ 1 ∧ (2 : Int) = 0) ∨ (2 ≤ Int32.toInt y_384 ∧ Int32.toInt y_384 ≤ 9 ∧ (2 : Int) = 2) ∨ (10 ≤ Int32.toInt y_384 ∧ Int32.toInt y_384 ≤ 12 ∧ (2 : Int) = 1)) by omega) (show Int32.toInt x7_12 ≤ 400 by omega) (show Int32.toInt x7_12 ≤ Int32.toInt (txL q_8 p1) by omega) (show Int32.toInt x8_13 = Int32.toInt x8_13 by omega) (show Int32.toInt x7_12 = Int32.toInt x7_12 by omega)
          · obtain ⟨y_395, hy_395⟩ : ∃ y : Int32, (v_382 >>> ((4 : Int32) &&& 31) : Int32) = y := ⟨_, rfl⟩
            have t_396 : 0 ≤ Int32.toInt y_395 := by rw [← hy_395]; exact (ti_shr (by omega)).1
            try rw [hy_395]
            clear hy_395
            exact hn_316 q_8 x5_10 x6_11 x7_12 x8_13 y_384 y_395 0 a_14 ((cFr.rf : cFr [19] [(18, 1)] q_2 q_2).t a_15 (by decide) (by decide)) (show 0 ≤ Int32.toInt x5_10 by omega) (show Int32.toInt x5_10 ≤ 64 by omega) (show 0 ≤ Int32.toInt x6_11 by omega) (show Int32.toInt x6_11 < Int32.toInt x7_12 by omega) (show 0 ≤ Int32.toInt x8_13 by omega) (show Int32.toInt x8_13 < Int32.toInt x7_12 by omega) (show 0 ≤ Int32.toInt y_395 by omega) (show ((0 ≤ Int32.toInt y_384 ∧ Int32.toInt y_384 ≤ 1 ∧ (0 : Int) = 0) ∨ (2 ≤ Int32.toInt y_384 ∧ Int32.toInt y_384 ≤ 9 ∧ (0 : Int) = 2) ∨ (10 ≤ Int32.toInt y_384 ∧ Int32.toInt y_384 ≤ 12 ∧ (0 : Int) = 1)) by omega) (show Int32.toInt x7_12 ≤ 400 by omega) (show Int32.toInt x7_12 ≤ Int32.toInt (txL q_8 p1) by omega) (show Int32.toInt x8_13 = Int32.toInt x8_13 by omega) (show Int32.toInt x7_12 = Int32.toInt x7_12 by omega)
        · unfold zX2_valueOf_s18_l_s21_328
          refine dOk_eq (A := Int32.toInt (q_8.1 18 1)) (B := 0) rfl (by decide) (fun c_397z c_397 => ?_) (fun c_398z c_398 => ?_)
          · unfold zX2_valueOf_s18_l_s21_345
            exact dOk_some (show (TC q_8) ∧ (cFr [19] [(18, 1)] q q_8) from ⟨a_14, hFq_8⟩)
          · unfold zX2_valueOf_s18_l_s21_345
            exact dOk_some (show (TC q_8) ∧ (cFr [19] [(18, 1)] q q_8) from ⟨a_14, hFq_8⟩)
  · have f_400 : 0 ≤ Int32.toInt (txK q_2 p1) ∧ Int32.toInt (txK q_2 p1) ≤ 400 := tx_K hTq_2 g_5
    have w_401 : Int32.toInt (txK q_2 p1) = Int32.toInt (txL q_2 p1) := tx_K2 hTq_2 g_5
    have w_402 : Int32.toInt (txK q_1 p1) = Int32.toInt (txK q p1) := tx_eqK (by rw [eq_1]; rfl)
    have w_403 : Int32.toInt (txK q_2 p1) = Int32.toInt (txK q_1 p1) := tx_eqK (by rw [eq_2]; rfl)
    try have w_404 : Int32.toInt (Int32.ofNat (Int32.toNatClampNeg (txK q_2 p1))) = Int32.toInt (txK q_2 p1) := of_cl (by omega)
    have t_405 : Int32.toInt (mnI p3 (Int32.ofNat (Int32.toNatClampNeg (txK q_2 p1)))) ≤ Int32.toInt p3 ∧ Int32.toInt (mnI p3 (Int32.ofNat (Int32.toNatClampNeg (txK q_2 p1)))) ≤ Int32.toInt (Int32.ofNat (Int32.toNatClampNeg (txK q_2 p1))) ∧ (Int32.toInt (mnI p3 (Int32.ofNat (Int32.toNatClampNeg (txK q_2 p1)))) = Int32.toInt p3 ∨ Int32.toInt (mnI p3 (Int32.ofNat (Int32.toNatClampNeg (txK q_2 p1)))) = Int32.toInt (Int32.ofNat (Int32.toNatClampNeg (txK q_2 p1)))) := mn_le
    have f_406 : 0 ≤ Int32.toInt (txL q_2 p1) ∧ Int32.toInt (txL q_2 p1) ≤ 400 := tx_L hTq_2 g_5
    have w_407 : Int32.toInt (txL q_1 p1) = Int32.toInt (txL q p1) := tx_eqL (by rw [eq_1]; rfl)
    have w_408 : Int32.toInt (txL q_2 p1) = Int32.toInt (txL q_1 p1) := tx_eqL (by rw [eq_2]; rfl)
    exact (show (TC q_2) ∧ (cFr [19] [(18, 1)] q_2 q_2) ∧ (p1 = p1) ∧ (0 ≤ (0 : Int)) ∧ ((0 : Int) ≤ 64) ∧ (0 ≤ Int32.toInt p2) ∧ (0 ≤ Int32.toInt p2) ∧ (Int32.toInt (mnI p3 (Int32.ofNat (Int32.toNatClampNeg (txK q_2 p1)))) ≤ 400) ∧ (Int32.toInt (mnI p3 (Int32.ofNat (Int32.toNatClampNeg (txK q_2 p1)))) ≤ Int32.toInt (txL q_2 p1)) from ⟨hTq_2, cFr.rf, rfl, by omega, by omega, by omega, by omega, by omega, by omega⟩)
  · have f_409 : 0 ≤ Int32.toInt (txK q_2 p1) ∧ Int32.toInt (txK q_2 p1) ≤ 400 := tx_K hTq_2 g_5
    have w_410 : Int32.toInt (txK q_2 p1) = Int32.toInt (txL q_2 p1) := tx_K2 hTq_2 g_5
    have w_411 : Int32.toInt (txK q_1 p1) = Int32.toInt (txK q p1) := tx_eqK (by rw [eq_1]; rfl)
    have w_412 : Int32.toInt (txK q_2 p1) = Int32.toInt (txK q_1 p1) := tx_eqK (by rw [eq_2]; rfl)
    try have w_413 : Int32.toInt (Int32.ofNat (Int32.toNatClampNeg (txK q_2 p1))) = Int32.toInt (txK q_2 p1) := of_cl (by omega)
    have t_414 : Int32.toInt (mnI p3 (Int32.ofNat (Int32.toNatClampNeg (txK q_2 p1)))) ≤ Int32.toInt p3 ∧ Int32.toInt (mnI p3 (Int32.ofNat (Int32.toNatClampNeg (txK q_2 p1)))) ≤ Int32.toInt (Int32.ofNat (Int32.toNatClampNeg (txK q_2 p1))) ∧ (Int32.toInt (mnI p3 (Int32.ofNat (Int32.toNatClampNeg (txK q_2 p1)))) = Int32.toInt p3 ∨ Int32.toInt (mnI p3 (Int32.ofNat (Int32.toNatClampNeg (txK q_2 p1)))) = Int32.toInt (Int32.ofNat (Int32.toNatClampNeg (txK q_2 p1)))) := mn_le
    show (Int32.toInt (mnI p3 (Int32.ofNat (Int32.toNatClampNeg (txK q_2 p1)))) - Int32.toInt p2).toNat < 1000000000000
    omega
