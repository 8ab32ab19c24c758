set_option maxHeartbeats 4000000 in
set_option maxRecDepth 100000 in
theorem ok_X4_readClause_s24 (q : dK) (hT : TC q) (hp0 : ¬ Int32.toInt (q.1 24 0) = 0) (hp1 : ¬ Int32.toInt (q.1 24 3) = 0) : dOk (zX4_readClause_s24 q) (fun (o : dK) => (TC o) ∧ (cFr [26, 27, 28, 29, 30, 31] [(24, 4), (24, 5), (24, 6), (24, 7), (24, 8), (24, 9), (24, 10), (25, 6), (25, 7)] q o)) := by
  unfold zX4_readClause_s24
  have hn_2 : ∀ (q_1 : dK), TC q_1 → cFr [26, 27, 28, 29, 30, 31] [(24, 4), (24, 5), (24, 6), (24, 7), (24, 8), (24, 9), (24, 10), (25, 6), (25, 7)] q q_1 → (¬ Int32.toInt (q_1.1 24 0) = 0) → (¬ Int32.toInt (q_1.1 24 3) = 0) → dOk (zX4_readClause_s24_103 q_1) (fun (o : dK) => (TC o) ∧ (cFr [26, 27, 28, 29, 30, 31] [(24, 4), (24, 5), (24, 6), (24, 7), (24, 8), (24, 9), (24, 10), (25, 6), (25, 7)] q o)) := by
    intro q_1 hT_5 hF_6 b_3 b_4
    unfold zX4_readClause_s24_103
    have f_7 : 0 ≤ Int32.toInt (q_1.1 24 0) ∧ Int32.toInt (q_1.1 24 0) ≤ 1 := rg_24_0 hT_5
    have f_8 : 0 ≤ Int32.toInt (q.1 24 0) ∧ Int32.toInt (q.1 24 0) ≤ 1 := rg_24_0 hT
    have w_9 : Int32.toInt (q_1.1 24 0) = Int32.toInt (q.1 24 0) := by rw [hF_6.1 24 0 (by decide) (by decide)]
    have f_10 : 0 ≤ Int32.toInt (q_1.1 24 3) ∧ Int32.toInt (q_1.1 24 3) ≤ 1 := rg_24_3 hT_5
    have f_11 : 0 ≤ Int32.toInt (q.1 24 3) ∧ Int32.toInt (q.1 24 3) ≤ 1 := rg_24_3 hT
    have w_12 : Int32.toInt (q_1.1 24 3) = Int32.toInt (q.1 24 3) := by rw [hF_6.1 24 3 (by decide) (by decide)]
    refine dOk_eq (A := Int32.toInt (q_1.1 24 10)) (B := (-1)) rfl (by decide) (fun c_13z c_13 => ?_) (fun c_14z c_14 => ?_)
    · refine dOk_B (ok_X4_isWord_s24_t7 q_1 hT_5 (show ¬ Int32.toInt (q_1.1 24 0) = 0 by omega)) (fun r_16 q_17 h_18 => ?_)
      replace h_18 : (q_17 = q_1) ∧ ((Int32.toInt r_16 = 0 ∨ Int32.toInt r_16 = 1)) := h_18
      obtain ⟨i_19, i_20⟩ := h_18
      subst q_17
      refine dOk_eq (A := Int32.toInt r_16) (B := 0) rfl (by decide) (fun c_21z c_21 => ?_) (fun c_22z c_22 => ?_)
      · unfold zX4_readClause_s24_135
        exact dOk_some (show (TC q_1) ∧ (cFr [26, 27, 28, 29, 30, 31] [(24, 4), (24, 5), (24, 6), (24, 7), (24, 8), (24, 9), (24, 10), (25, 6), (25, 7)] q q_1) from ⟨hT_5, hF_6⟩)
      · refine dOk_V (ok_X4_step_s24 q_1 hT_5 (show ¬ Int32.toInt (q_1.1 24 0) = 0 by omega)) (fun q_24 h_25 => ?_)
        replace h_25 : (TC q_24) ∧ (cFr [] [(24, 4), (24, 5), (24, 6), (24, 7)] q_1 q_24) := h_25
        obtain ⟨i_26, i_27⟩ := h_25
        have hFq_24 : cFr [26, 27, 28, 29, 30, 31] [(24, 4), (24, 5), (24, 6), (24, 7), (24, 8), (24, 9), (24, 10), (25, 6), (25, 7)] q q_24 := hF_6.t i_27 (by decide) (by decide)
        have f_28 : 0 ≤ Int32.toInt (q_24.1 24 0) ∧ Int32.toInt (q_24.1 24 0) ≤ 1 := rg_24_0 i_26
        have w_29 : Int32.toInt (q_24.1 24 0) = Int32.toInt (q_1.1 24 0) := by rw [i_27.1 24 0 (by decide) (by decide)]
        have f_30 : 0 ≤ Int32.toInt (q_24.1 24 3) ∧ Int32.toInt (q_24.1 24 3) ≤ 1 := rg_24_3 i_26
        have w_31 : Int32.toInt (q_24.1 24 3) = Int32.toInt (q_1.1 24 3) := by rw [i_27.1 24 3 (by decide) (by decide)]
        have f_32 : 0 ≤ Int32.toInt (q_24.1 24 9) ∧ Int32.toInt (q_24.1 24 9) ≤ 8 := rg_24_9 i_26
        have f_33 : 0 ≤ Int32.toInt (q_1.1 24 9) ∧ Int32.toInt (q_1.1 24 9) ≤ 8 := rg_24_9 hT_5
        have w_34 : Int32.toInt (q_24.1 24 9) = Int32.toInt (q_1.1 24 9) := by rw [i_27.1 24 9 (by decide) (by decide)]
        refine dOk_V (ok_X4_readTest_s24 10 q_24 i_26 (show ¬ Int32.toInt (q_24.1 24 0) = 0 by omega) (show ¬ Int32.toInt (q_24.1 24 3) = 0 by omega) (show 9 - Int32.toInt (q_24.1 24 9) ≤ (10 : Int) by omega)) (fun q_35 h_36 => ?_)
        replace h_36 : (TC q_35) ∧ (cFr [31] [(24, 4), (24, 5), (24, 6), (24, 7), (24, 8), (24, 9), (24, 10), (25, 7)] q_24 q_35) ∧ (Int32.toInt (q_35.1 24 9) = Int32.toInt (q_24.1 24 9)) := h_36
        obtain ⟨i_37, i_38, i_39⟩ := h_36
        have hFq_35 : cFr [26, 27, 28, 29, 30, 31] [(24, 4), (24, 5), (24, 6), (24, 7), (24, 8), (24, 9), (24, 10), (25, 6), (25, 7)] q q_35 := hFq_24.t i_38 (by decide) (by decide)
        have f_40 : 0 ≤ Int32.toInt (q_35.1 24 9) ∧ Int32.toInt (q_35.1 24 9) ≤ 8 := rg_24_9 i_37
        have f_41 : 0 ≤ Int32.toInt (q_35.1 24 3) ∧ Int32.toInt (q_35.1 24 3) ≤ 1 := rg_24_3 i_37
        have w_42 : Int32.toInt (q_35.1 24 3) = Int32.toInt (q_24.1 24 3) := by rw [i_38.1 24 3 (by decide) (by decide)]
        refine dOk_G (dnz_ok (show ¬ Int32.toInt (q_35.1 24 3) = 0 by omega)) ?_
        refine dOk_V (ok_X7_endTest_s25 q_35 i_37) (fun q_43 h_44 => ?_)
        replace h_44 : (TC q_43) ∧ (cFr [30] [] q_35 q_43) := h_44
        obtain ⟨i_45, i_46⟩ := h_44
        have hFq_43 : cFr [26, 27, 28, 29, 30, 31] [(24, 4), (24, 5), (24, 6), (24, 7), (24, 8), (24, 9), (24, 10), (25, 6), (25, 7)] q q_43 := hFq_35.t i_46 (by decide) (by decide)
        unfold zX4_readClause_s24_135
        exact dOk_some (show (TC q_43) ∧ (cFr [26, 27, 28, 29, 30, 31] [(24, 4), (24, 5), (24, 6), (24, 7), (24, 8), (24, 9), (24, 10), (25, 6), (25, 7)] q q_43) from ⟨i_45, hFq_43⟩)
    · unfold zX4_readClause_s24_135
      exact dOk_some (show (TC q_1) ∧ (cFr [26, 27, 28, 29, 30, 31] [(24, 4), (24, 5), (24, 6), (24, 7), (24, 8), (24, 9), (24, 10), (25, 6), (25, 7)] q q_1) from ⟨hT_5, hF_6⟩)
  have hn_48 : ∀ (q_47 : dK), TC q_47 → cFr [26, 27, 28, 29, 30, 31] [(24, 4), (24, 5), (24, 6), (24, 7), (24, 8), (24, 9), (24, 10), (25, 6), (25, 7)] q q_47 → (¬ Int32.toInt (q_47.1 24 0) = 0) → (¬ Int32.toInt (q_47.1 24 3) = 0) → dOk (zX4_readClause_s24_71 q_47) (fun (o : dK) => (TC o) ∧ (cFr [26, 27, 28, 29, 30, 31] [(24, 4), (24, 5), (24, 6), (24, 7), (24, 8), (24, 9), (24, 10), (25, 6), (25, 7)] q o)) := by
    intro q_47 hT_51 hF_52 b_49 b_50
    unfold zX4_readClause_s24_71
    have f_53 : 0 ≤ Int32.toInt (q_47.1 24 0) ∧ Int32.toInt (q_47.1 24 0) ≤ 1 := rg_24_0 hT_51
    have f_54 : 0 ≤ Int32.toInt (q.1 24 0) ∧ Int32.toInt (q.1 24 0) ≤ 1 := rg_24_0 hT
    have w_55 : Int32.toInt (q_47.1 24 0) = Int32.toInt (q.1 24 0) := by rw [hF_52.1 24 0 (by decide) (by decide)]
    have f_56 : 0 ≤ Int32.toInt (q_47.1 24 3) ∧ Int32.toInt (q_47.1 24 3) ≤ 1 := rg_24_3 hT_51
    have f_57 : 0 ≤ Int32.toInt (q.1 24 3) ∧ Int32.toInt (q.1 24 3) ≤ 1 := rg_24_3 hT
    have w_58 : Int32.toInt (q_47.1 24 3) = Int32.toInt (q.1 24 3) := by rw [hF_52.1 24 3 (by decide) (by decide)]
    have f_59 : 0 ≤ Int32.toInt (q_47.1 24 2) ∧ Int32.toInt (q_47.1 24 2) ≤ 1 := rg_24_2 hT_51
    have f_60 : 0 ≤ Int32.toInt (q.1 24 2) ∧ Int32.toInt (q.1 24 2) ≤ 1 := rg_24_2 hT
    have w_61 : Int32.toInt (q_47.1 24 2) = Int32.toInt (q.1 24 2) := by rw [hF_52.1 24 2 (by decide) (by decide)]
    refine dOk_eq (A := Int32.toInt (q_47.1 24 2)) (B := 0) rfl (by decide) (fun c_62z c_62 => ?_) (fun c_63z c_63 => ?_)
    · exact hn_2 q_47 hT_51 ((cFr.rf : cFr [26, 27, 28, 29, 30, 31] [(24, 4), (24, 5), (24, 6), (24, 7), (24, 8), (24, 9), (24, 10), (25, 6), (25, 7)] q q).t hF_52 (by decide) (by decide)) (show ¬ Int32.toInt (q_47.1 24 0) = 0 by omega) (show ¬ Int32.toInt (q_47.1 24 3) = 0 by omega)
    · refine dOk_eq (A := Int32.toInt (q_47.1 24 10)) (B := (-1)) rfl (by decide) (fun c_65z c_65 => ?_) (fun c_66z c_66 => ?_)
      · refine dOk_B (ok_X4_isWord_s24_t6 q_47 hT_51 (show ¬ Int32.toInt (q_47.1 24 0) = 0 by omega)) (fun r_68 q_69 h_70 => ?_)
        replace h_70 : (q_69 = q_47) ∧ ((Int32.toInt r_68 = 0 ∨ Int32.toInt r_68 = 1)) := h_70
        obtain ⟨i_71, i_72⟩ := h_70
        subst q_69
        refine dOk_eq (A := Int32.toInt r_68) (B := 0) rfl (by decide) (fun c_73z c_73 => ?_) (fun c_74z c_74 => ?_)
        · exact hn_2 q_47 hT_51 ((cFr.rf : cFr [26, 27, 28, 29, 30, 31] [(24, 4), (24, 5), (24, 6), (24, 7), (24, 8), (24, 9), (24, 10), (25, 6), (25, 7)] q q).t hF_52 (by decide) (by decide)) (show ¬ Int32.toInt (q_47.1 24 0) = 0 by omega) (show ¬ Int32.toInt (q_47.1 24 3) = 0 by omega)
        · refine dOk_V (ok_X4_step_s24 q_47 hT_51 (show ¬ Int32.toInt (q_47.1 24 0) = 0 by omega)) (fun q_76 h_77 => ?_)
          replace h_77 : (TC q_76) ∧ (cFr [] [(24, 4), (24, 5), (24, 6), (24, 7)] q_47 q_76) := h_77
          obtain ⟨i_78, i_79⟩ := h_77
          have hFq_76 : cFr [26, 27, 28, 29, 30, 31] [(24, 4), (24, 5), (24, 6), (24, 7), (24, 8), (24, 9), (24, 10), (25, 6), (25, 7)] q q_76 := hF_52.t i_79 (by decide) (by decide)
          have f_80 : 0 ≤ Int32.toInt (q_76.1 24 0) ∧ Int32.toInt (q_76.1 24 0) ≤ 1 := rg_24_0 i_78
          have w_81 : Int32.toInt (q_76.1 24 0) = Int32.toInt (q_47.1 24 0) := by rw [i_79.1 24 0 (by decide) (by decide)]
          have f_82 : 0 ≤ Int32.toInt (q_76.1 24 3) ∧ Int32.toInt (q_76.1 24 3) ≤ 1 := rg_24_3 i_78
          have w_83 : Int32.toInt (q_76.1 24 3) = Int32.toInt (q_47.1 24 3) := by rw [i_79.1 24 3 (by decide) (by decide)]
          refine dOk_V (ok_X4_readTimes_s24 q_76 i_78 (show ¬ Int32.toInt (q_76.1 24 0) = 0 by omega) (show ¬ Int32.toInt (q_76.1 24 3) = 0 by omega)) (fun q_84 h_85 => ?_)
          replace h_85 : (TC q_84) ∧ (cFr [27] [(24, 4), (24, 5), (24, 6), (24, 7), (24, 10)] q_76 q_84) := h_85
          obtain ⟨i_86, i_87⟩ := h_85
          have hFq_84 : cFr [26, 27, 28, 29, 30, 31] [(24, 4), (24, 5), (24, 6), (24, 7), (24, 8), (24, 9), (24, 10), (25, 6), (25, 7)] q q_84 := hFq_76.t i_87 (by decide) (by decide)
          have f_88 : 0 ≤ Int32.toInt (q_84.1 24 0) ∧ Int32.toInt (q_84.1 24 0) ≤ 1 := rg_24_0 i_86
          have w_89 : Int32.toInt (q_84.1 24 0) = Int32.toInt (q_76.1 24 0) := by rw [i_87.1 24 0 (by decide) (by decide)]
          have f_90 : 0 ≤ Int32.toInt (q_84.1 24 3) ∧ Int32.toInt (q_84.1 24 3) ≤ 1 := rg_24_3 i_86
          have w_91 : Int32.toInt (q_84.1 24 3) = Int32.toInt (q_76.1 24 3) := by rw [i_87.1 24 3 (by decide) (by decide)]
          exact hn_2 q_84 i_86 ((((((cFr.rf : cFr [26, 27, 28, 29, 30, 31] [(24, 4), (24, 5), (24, 6), (24, 7), (24, 8), (24, 9), (24, 10), (25, 6), (25, 7)] q q).t hF_52 (by decide) (by decide)) : cFr [26, 27, 28, 29, 30, 31] [(24, 4), (24, 5), (24, 6), (24, 7), (24, 8), (24, 9), (24, 10), (25, 6), (25, 7)] q q_47).t i_79 (by decide) (by decide)) : cFr [26, 27, 28, 29, 30, 31] [(24, 4), (24, 5), (24, 6), (24, 7), (24, 8), (24, 9), (24, 10), (25, 6), (25, 7)] q q_76).t i_87 (by decide) (by decide)) (show ¬ Int32.toInt (q_84.1 24 0) = 0 by omega) (show ¬ Int32.toInt (q_84.1 24 3) = 0 by omega)
      · exact hn_2 q_47 hT_51 ((cFr.rf : cFr [26, 27, 28, 29, 30, 31] [(24, 4), (24, 5), (24, 6), (24, 7), (24, 8), (24, 9), (24, 10), (25, 6), (25, 7)] q q).t hF_52 (by decide) (by decide)) (show ¬ Int32.toInt (q_47.1 24 0) = 0 by omega) (show ¬ Int32.toInt (q_47.1 24 3) = 0 by omega)
  have hn_93 : ∀ (q_92 : dK), TC q_92 → cFr [26, 27, 28, 29, 30, 31] [(24, 4), (24, 5), (24, 6), (24, 7), (24, 8), (24, 9), (24, 10), (25, 6), (25, 7)] q q_92 → (¬ Int32.toInt (q_92.1 24 0) = 0) → (¬ Int32.toInt (q_92.1 24 3) = 0) → dOk (zX4_readClause_s24_60 q_92) (fun (o : dK) => (TC o) ∧ (cFr [26, 27, 28, 29, 30, 31] [(24, 4), (24, 5), (24, 6), (24, 7), (24, 8), (24, 9), (24, 10), (25, 6), (25, 7)] q o)) := by
    intro q_92 hT_96 hF_97 b_94 b_95
    unfold zX4_readClause_s24_60
    have f_98 : 0 ≤ Int32.toInt (q_92.1 24 0) ∧ Int32.toInt (q_92.1 24 0) ≤ 1 := rg_24_0 hT_96
    have f_99 : 0 ≤ Int32.toInt (q.1 24 0) ∧ Int32.toInt (q.1 24 0) ≤ 1 := rg_24_0 hT
    have w_100 : Int32.toInt (q_92.1 24 0) = Int32.toInt (q.1 24 0) := by rw [hF_97.1 24 0 (by decide) (by decide)]
    have f_101 : 0 ≤ Int32.toInt (q_92.1 24 3) ∧ Int32.toInt (q_92.1 24 3) ≤ 1 := rg_24_3 hT_96
    have f_102 : 0 ≤ Int32.toInt (q.1 24 3) ∧ Int32.toInt (q.1 24 3) ≤ 1 := rg_24_3 hT
    have w_103 : Int32.toInt (q_92.1 24 3) = Int32.toInt (q.1 24 3) := by rw [hF_97.1 24 3 (by decide) (by decide)]
    have f_104 : 0 ≤ Int32.toInt (q_92.1 24 9) ∧ Int32.toInt (q_92.1 24 9) ≤ 8 := rg_24_9 hT_96
    refine dOk_V (ok_X4_readSum_s24 10 q_92 hT_96 (show ¬ Int32.toInt (q_92.1 24 0) = 0 by omega) (show ¬ Int32.toInt (q_92.1 24 3) = 0 by omega) (show 9 - Int32.toInt (q_92.1 24 9) ≤ (10 : Int) by omega)) (fun q_105 h_106 => ?_)
    replace h_106 : (TC q_105) ∧ (cFr [31] [(24, 4), (24, 5), (24, 6), (24, 7), (24, 8), (24, 9), (24, 10), (25, 7)] q_92 q_105) ∧ (Int32.toInt (q_105.1 24 9) = Int32.toInt (q_92.1 24 9)) := h_106
    obtain ⟨i_107, i_108, i_109⟩ := h_106
    have hFq_105 : cFr [26, 27, 28, 29, 30, 31] [(24, 4), (24, 5), (24, 6), (24, 7), (24, 8), (24, 9), (24, 10), (25, 6), (25, 7)] q q_105 := hF_97.t i_108 (by decide) (by decide)
    have f_110 : 0 ≤ Int32.toInt (q_105.1 24 9) ∧ Int32.toInt (q_105.1 24 9) ≤ 8 := rg_24_9 i_107
    have f_111 : 0 ≤ Int32.toInt (q_105.1 24 3) ∧ Int32.toInt (q_105.1 24 3) ≤ 1 := rg_24_3 i_107
    have w_112 : Int32.toInt (q_105.1 24 3) = Int32.toInt (q_92.1 24 3) := by rw [i_108.1 24 3 (by decide) (by decide)]
    refine dOk_G (dnz_ok (show ¬ Int32.toInt (q_105.1 24 3) = 0 by omega)) ?_
    refine dOk_V (ok_X7_endSum_s25 q_105 i_107) (fun q_113 h_114 => ?_)
    replace h_114 : (TC q_113) ∧ (cFr [29, 30] [] q_105 q_113) := h_114
    obtain ⟨i_115, i_116⟩ := h_114
    have hFq_113 : cFr [26, 27, 28, 29, 30, 31] [(24, 4), (24, 5), (24, 6), (24, 7), (24, 8), (24, 9), (24, 10), (25, 6), (25, 7)] q q_113 := hFq_105.t i_116 (by decide) (by decide)
    have f_117 : 0 ≤ Int32.toInt (q_113.1 24 0) ∧ Int32.toInt (q_113.1 24 0) ≤ 1 := rg_24_0 i_115
    have f_118 : 0 ≤ Int32.toInt (q_105.1 24 0) ∧ Int32.toInt (q_105.1 24 0) ≤ 1 := rg_24_0 i_107
    have w_119 : Int32.toInt (q_105.1 24 0) = Int32.toInt (q_92.1 24 0) := by rw [i_108.1 24 0 (by decide) (by decide)]
    have w_120 : Int32.toInt (q_113.1 24 0) = Int32.toInt (q_105.1 24 0) := by rw [i_116.1 24 0 (by decide) (by decide)]
    have f_121 : 0 ≤ Int32.toInt (q_113.1 24 3) ∧ Int32.toInt (q_113.1 24 3) ≤ 1 := rg_24_3 i_115
    have w_122 : Int32.toInt (q_113.1 24 3) = Int32.toInt (q_105.1 24 3) := by rw [i_116.1 24 3 (by decide) (by decide)]
    exact hn_48 q_113 i_115 ((((((cFr.rf : cFr [26, 27, 28, 29, 30, 31] [(24, 4), (24, 5), (24, 6), (24, 7), (24, 8), (24, 9), (24, 10), (25, 6), (25, 7)] q q).t hF_97 (by decide) (by decide)) : cFr [26, 27, 28, 29, 30, 31] [(24, 4), (24, 5), (24, 6), (24, 7), (24, 8), (24, 9), (24, 10), (25, 6), (25, 7)] q q_92).t i_108 (by decide) (by decide)) : cFr [26, 27, 28, 29, 30, 31] [(24, 4), (24, 5), (24, 6), (24, 7), (24, 8), (24, 9), (24, 10), (25, 6), (25, 7)] q q_105).t i_116 (by decide) (by decide)) (show ¬ Int32.toInt (q_113.1 24 0) = 0 by omega) (show ¬ Int32.toInt (q_113.1 24 3) = 0 by omega)
  have f_123 : 0 ≤ Int32.toInt (q.1 24 2) ∧ Int32.toInt (q.1 24 2) ≤ 1 := rg_24_2 hT
  refine dOk_eq (A := Int32.toInt (q.1 24 2)) (B := 0) rfl (by decide) (fun c_124z c_124 => ?_) (fun c_125z c_125 => ?_)
  · unfold zX4_readClause_s24_15
    have f_127 : 0 ≤ Int32.toInt (q.1 24 0) ∧ Int32.toInt (q.1 24 0) ≤ 1 := rg_24_0 hT
    refine dOk_B (ok_X4_wordIn_s24_t1 q hT (show ¬ Int32.toInt (q.1 24 0) = 0 by omega)) (fun r_128 q_129 h_130 => ?_)
    replace h_130 : (q_129 = q) ∧ (-1 ≤ Int32.toInt r_128 ∧ Int32.toInt r_128 ≤ 15) := h_130
    obtain ⟨i_131, i_132⟩ := h_130
    subst q_129
    refine dOk_eq (A := Int32.toInt r_128) (B := (-1)) rfl (by decide) (fun c_133z c_133 => ?_) (fun c_134z c_134 => ?_)
    · refine dOk_V (ok_X4_fail_s24 q hT) (fun q_136 h_137 => ?_)
      replace h_137 : (TC q_136) ∧ (cFr [] [(24, 10)] q q_136) := h_137
      obtain ⟨i_138, i_139⟩ := h_137
      have hFq_136 : cFr [26, 27, 28, 29, 30, 31] [(24, 4), (24, 5), (24, 6), (24, 7), (24, 8), (24, 9), (24, 10), (25, 6), (25, 7)] q q_136 := (cFr.rf (q := q)).t i_139 (by decide) (by decide)
      exact dOk_some (show (TC q_136) ∧ (cFr [26, 27, 28, 29, 30, 31] [(24, 4), (24, 5), (24, 6), (24, 7), (24, 8), (24, 9), (24, 10), (25, 6), (25, 7)] q q_136) from ⟨i_138, hFq_136⟩)
    · have f_140 : 0 ≤ Int32.toInt (q.1 24 3) ∧ Int32.toInt (q.1 24 3) ≤ 1 := rg_24_3 hT
      refine dOk_G (dnz_ok (show ¬ Int32.toInt (q.1 24 3) = 0 by omega)) ?_
      refine dOk_V (ok_X7_beginClause_s25 q r_128 hT) (fun q_141 h_142 => ?_)
      replace h_142 : (TC q_141) ∧ (cFr [26, 27, 28, 29, 30] [(25, 6)] q q_141) := h_142
      obtain ⟨i_143, i_144⟩ := h_142
      have hFq_141 : cFr [26, 27, 28, 29, 30, 31] [(24, 4), (24, 5), (24, 6), (24, 7), (24, 8), (24, 9), (24, 10), (25, 6), (25, 7)] q q_141 := (cFr.rf (q := q)).t i_144 (by decide) (by decide)
      have f_145 : 0 ≤ Int32.toInt (q_141.1 24 0) ∧ Int32.toInt (q_141.1 24 0) ≤ 1 := rg_24_0 i_143
      have w_146 : Int32.toInt (q_141.1 24 0) = Int32.toInt (q.1 24 0) := by rw [i_144.1 24 0 (by decide) (by decide)]
      refine dOk_V (ok_X4_step_s24 q_141 i_143 (show ¬ Int32.toInt (q_141.1 24 0) = 0 by omega)) (fun q_147 h_148 => ?_)
      replace h_148 : (TC q_147) ∧ (cFr [] [(24, 4), (24, 5), (24, 6), (24, 7)] q_141 q_147) := h_148
      obtain ⟨i_149, i_150⟩ := h_148
      have hFq_147 : cFr [26, 27, 28, 29, 30, 31] [(24, 4), (24, 5), (24, 6), (24, 7), (24, 8), (24, 9), (24, 10), (25, 6), (25, 7)] q q_147 := hFq_141.t i_150 (by decide) (by decide)
      have f_151 : 0 ≤ Int32.toInt (q_147.1 24 2) ∧ Int32.toInt (q_147.1 24 2) ≤ 1 := rg_24_2 i_149
      have f_152 : 0 ≤ Int32.toInt (q_141.1 24 2) ∧ Int32.toInt (q_141.1 24 2) ≤ 1 := rg_24_2 i_143
      have w_153 : Int32.toInt (q_141.1 24 2) = Int32.toInt (q.1 24 2) := by rw [i_144.1 24 2 (by decide) (by decide)]
      have w_154 : Int32.toInt (q_147.1 24 2) = Int32.toInt (q_141.1 24 2) := by rw [i_150.1 24 2 (by decide) (by decide)]
      refine dOk_eq (A := Int32.toInt (q_147.1 24 2)) (B := 0) rfl (by decide) (fun c_155z c_155 => ?_) (fun c_156z c_156 => ?_)
      · refine dOk_eq (A := Int32.toInt r_128) (B := 0) rfl (by decide) (fun c_158z c_158 => ?_) (fun c_159z c_159 => ?_)
        · have f_161 : 0 ≤ Int32.toInt (q_147.1 24 0) ∧ Int32.toInt (q_147.1 24 0) ≤ 1 := rg_24_0 i_149
          have w_162 : Int32.toInt (q_147.1 24 0) = Int32.toInt (q_141.1 24 0) := by rw [i_150.1 24 0 (by decide) (by decide)]
          have f_163 : 0 ≤ Int32.toInt (q_147.1 24 3) ∧ Int32.toInt (q_147.1 24 3) ≤ 1 := rg_24_3 i_149
          have f_164 : 0 ≤ Int32.toInt (q_141.1 24 3) ∧ Int32.toInt (q_141.1 24 3) ≤ 1 := rg_24_3 i_143
          have w_165 : Int32.toInt (q_141.1 24 3) = Int32.toInt (q.1 24 3) := by rw [i_144.1 24 3 (by decide) (by decide)]
          have w_166 : Int32.toInt (q_147.1 24 3) = Int32.toInt (q_141.1 24 3) := by rw [i_150.1 24 3 (by decide) (by decide)]
          exact hn_93 q_147 i_149 ((((cFr.rf : cFr [26, 27, 28, 29, 30, 31] [(24, 4), (24, 5), (24, 6), (24, 7), (24, 8), (24, 9), (24, 10), (25, 6), (25, 7)] q q).t i_144 (by decide) (by decide)) : cFr [26, 27, 28, 29, 30, 31] [(24, 4), (24, 5), (24, 6), (24, 7), (24, 8), (24, 9), (24, 10), (25, 6), (25, 7)] q q_141).t i_150 (by decide) (by decide)) (show ¬ Int32.toInt (q_147.1 24 0) = 0 by omega) (show ¬ Int32.toInt (q_147.1 24 3) = 0 by omega)
        · have f_167 : 0 ≤ Int32.toInt (q_147.1 24 0) ∧ Int32.toInt (q_147.1 24 0) ≤ 1 := rg_24_0 i_149
          have w_168 : Int32.toInt (q_147.1 24 0) = Int32.toInt (q_141.1 24 0) := by rw [i_150.1 24 0 (by decide) (by decide)]
          have f_169 : 0 ≤ Int32.toInt (q_147.1 24 3) ∧ Int32.toInt (q_147.1 24 3) ≤ 1 := rg_24_3 i_149
          have f_170 : 0 ≤ Int32.toInt (q_141.1 24 3) ∧ Int32.toInt (q_141.1 24 3) ≤ 1 := rg_24_3 i_143
          have w_171 : Int32.toInt (q_141.1 24 3) = Int32.toInt (q.1 24 3) := by rw [i_144.1 24 3 (by decide) (by decide)]
          have w_172 : Int32.toInt (q_147.1 24 3) = Int32.toInt (q_141.1 24 3) := by rw [i_150.1 24 3 (by decide) (by decide)]
          exact hn_48 q_147 i_149 ((((cFr.rf : cFr [26, 27, 28, 29, 30, 31] [(24, 4), (24, 5), (24, 6), (24, 7), (24, 8), (24, 9), (24, 10), (25, 6), (25, 7)] q q).t i_144 (by decide) (by decide)) : cFr [26, 27, 28, 29, 30, 31] [(24, 4), (24, 5), (24, 6), (24, 7), (24, 8), (24, 9), (24, 10), (25, 6), (25, 7)] q q_141).t i_150 (by decide) (by decide)) (show ¬ Int32.toInt (q_147.1 24 0) = 0 by omega) (show ¬ Int32.toInt (q_147.1 24 3) = 0 by omega)
      · refine dOk_eq (A := Int32.toInt r_128) (B := 3) rfl (by decide) (fun c_173z c_173 => ?_) (fun c_174z c_174 => ?_)
        · have f_176 : 0 ≤ Int32.toInt (q_147.1 24 0) ∧ Int32.toInt (q_147.1 24 0) ≤ 1 := rg_24_0 i_149
          have w_177 : Int32.toInt (q_147.1 24 0) = Int32.toInt (q_141.1 24 0) := by rw [i_150.1 24 0 (by decide) (by decide)]
          have f_178 : 0 ≤ Int32.toInt (q_147.1 24 3) ∧ Int32.toInt (q_147.1 24 3) ≤ 1 := rg_24_3 i_149
          have f_179 : 0 ≤ Int32.toInt (q_141.1 24 3) ∧ Int32.toInt (q_141.1 24 3) ≤ 1 := rg_24_3 i_143
          have w_180 : Int32.toInt (q_141.1 24 3) = Int32.toInt (q.1 24 3) := by rw [i_144.1 24 3 (by decide) (by decide)]
          have w_181 : Int32.toInt (q_147.1 24 3) = Int32.toInt (q_141.1 24 3) := by rw [i_150.1 24 3 (by decide) (by decide)]
          exact hn_48 q_147 i_149 ((((cFr.rf : cFr [26, 27, 28, 29, 30, 31] [(24, 4), (24, 5), (24, 6), (24, 7), (24, 8), (24, 9), (24, 10), (25, 6), (25, 7)] q q).t i_144 (by decide) (by decide)) : cFr [26, 27, 28, 29, 30, 31] [(24, 4), (24, 5), (24, 6), (24, 7), (24, 8), (24, 9), (24, 10), (25, 6), (25, 7)] q q_141).t i_150 (by decide) (by decide)) (show ¬ Int32.toInt (q_147.1 24 0) = 0 by omega) (show ¬ Int32.toInt (q_147.1 24 3) = 0 by omega)
        · have f_182 : 0 ≤ Int32.toInt (q_147.1 24 0) ∧ Int32.toInt (q_147.1 24 0) ≤ 1 := rg_24_0 i_149
          have w_183 : Int32.toInt (q_147.1 24 0) = Int32.toInt (q_141.1 24 0) := by rw [i_150.1 24 0 (by decide) (by decide)]
          have f_184 : 0 ≤ Int32.toInt (q_147.1 24 3) ∧ Int32.toInt (q_147.1 24 3) ≤ 1 := rg_24_3 i_149
          have f_185 : 0 ≤ Int32.toInt (q_141.1 24 3) ∧ Int32.toInt (q_141.1 24 3) ≤ 1 := rg_24_3 i_143
          have w_186 : Int32.toInt (q_141.1 24 3) = Int32.toInt (q.1 24 3) := by rw [i_144.1 24 3 (by decide) (by decide)]
          have w_187 : Int32.toInt (q_147.1 24 3) = Int32.toInt (q_141.1 24 3) := by rw [i_150.1 24 3 (by decide) (by decide)]
          exact hn_93 q_147 i_149 ((((cFr.rf : cFr [26, 27, 28, 29, 30, 31] [(24, 4), (24, 5), (24, 6), (24, 7), (24, 8), (24, 9), (24, 10), (25, 6), (25, 7)] q q).t i_144 (by decide) (by decide)) : cFr [26, 27, 28, 29, 30, 31] [(24, 4), (24, 5), (24, 6), (24, 7), (24, 8), (24, 9), (24, 10), (25, 6), (25, 7)] q q_141).t i_150 (by decide) (by decide)) (show ¬ Int32.toInt (q_147.1 24 0) = 0 by omega) (show ¬ Int32.toInt (q_147.1 24 3) = 0 by omega)
  · have f_188 : 0 ≤ Int32.toInt (q.1 24 0) ∧ Int32.toInt (q.1 24 0) ≤ 1 := rg_24_0 hT
    refine dOk_B (ok_X4_wordIn_s24_t0 q hT (show ¬ Int32.toInt (q.1 24 0) = 0 by omega)) (fun r_189 q_190 h_191 => ?_)
    replace h_191 : (q_190 = q) ∧ (-1 ≤ Int32.toInt r_189 ∧ Int32.toInt r_189 ≤ 21) := h_191
    obtain ⟨i_192, i_193⟩ := h_191
    subst q_190
    refine dOk_eq (A := Int32.toInt r_189) (B := (-1)) rfl (by decide) (fun c_194z c_194 => ?_) (fun c_195z c_195 => ?_)
    · refine dOk_V (ok_X4_fail_s24 q hT) (fun q_197 h_198 => ?_)
      replace h_198 : (TC q_197) ∧ (cFr [] [(24, 10)] q q_197) := h_198
      obtain ⟨i_199, i_200⟩ := h_198
      have hFq_197 : cFr [26, 27, 28, 29, 30, 31] [(24, 4), (24, 5), (24, 6), (24, 7), (24, 8), (24, 9), (24, 10), (25, 6), (25, 7)] q q_197 := (cFr.rf (q := q)).t i_200 (by decide) (by decide)
      exact dOk_some (show (TC q_197) ∧ (cFr [26, 27, 28, 29, 30, 31] [(24, 4), (24, 5), (24, 6), (24, 7), (24, 8), (24, 9), (24, 10), (25, 6), (25, 7)] q q_197) from ⟨i_199, hFq_197⟩)
    · have f_201 : 0 ≤ Int32.toInt (q.1 24 3) ∧ Int32.toInt (q.1 24 3) ≤ 1 := rg_24_3 hT
      refine dOk_G (dnz_ok (show ¬ Int32.toInt (q.1 24 3) = 0 by omega)) ?_
      refine dOk_V (ok_X7_beginClause_s25 q r_189 hT) (fun q_202 h_203 => ?_)
      replace h_203 : (TC q_202) ∧ (cFr [26, 27, 28, 29, 30] [(25, 6)] q q_202) := h_203
      obtain ⟨i_204, i_205⟩ := h_203
      have hFq_202 : cFr [26, 27, 28, 29, 30, 31] [(24, 4), (24, 5), (24, 6), (24, 7), (24, 8), (24, 9), (24, 10), (25, 6), (25, 7)] q q_202 := (cFr.rf (q := q)).t i_205 (by decide) (by decide)
      have f_206 : 0 ≤ Int32.toInt (q_202.1 24 0) ∧ Int32.toInt (q_202.1 24 0) ≤ 1 := rg_24_0 i_204
      have w_207 : Int32.toInt (q_202.1 24 0) = Int32.toInt (q.1 24 0) := by rw [i_205.1 24 0 (by decide) (by decide)]
      refine dOk_V (ok_X4_step_s24 q_202 i_204 (show ¬ Int32.toInt (q_202.1 24 0) = 0 by omega)) (fun q_208 h_209 => ?_)
      replace h_209 : (TC q_208) ∧ (cFr [] [(24, 4), (24, 5), (24, 6), (24, 7)] q_202 q_208) := h_209
      obtain ⟨i_210, i_211⟩ := h_209
      have hFq_208 : cFr [26, 27, 28, 29, 30, 31] [(24, 4), (24, 5), (24, 6), (24, 7), (24, 8), (24, 9), (24, 10), (25, 6), (25, 7)] q q_208 := hFq_202.t i_211 (by decide) (by decide)
      have f_212 : 0 ≤ Int32.toInt (q_208.1 24 2) ∧ Int32.toInt (q_208.1 24 2) ≤ 1 := rg_24_2 i_210
      have f_213 : 0 ≤ Int32.toInt (q_202.1 24 2) ∧ Int32.toInt (q_202.1 24 2) ≤ 1 := rg_24_2 i_204
      have w_214 : Int32.toInt (q_202.1 24 2) = Int32.toInt (q.1 24 2) := by rw [i_205.1 24 2 (by decide) (by decide)]
      have w_215 : Int32.toInt (q_208.1 24 2) = Int32.toInt (q_202.1 24 2) := by rw [i_211.1 24 2 (by decide) (by decide)]
      refine dOk_eq (A := Int32.toInt (q_208.1 24 2)) (B := 0) rfl (by decide) (fun c_216z c_216 => ?_) (fun c_217z c_217 => ?_)
      · refine dOk_eq (A := Int32.toInt r_189) (B := 0) rfl (by decide) (fun c_219z c_219 => ?_) (fun c_220z c_220 => ?_)
        · have f_222 : 0 ≤ Int32.toInt (q_208.1 24 0) ∧ Int32.toInt (q_208.1 24 0) ≤ 1 := rg_24_0 i_210
          have w_223 : Int32.toInt (q_208.1 24 0) = Int32.toInt (q_202.1 24 0) := by rw [i_211.1 24 0 (by decide) (by decide)]
          have f_224 : 0 ≤ Int32.toInt (q_208.1 24 3) ∧ Int32.toInt (q_208.1 24 3) ≤ 1 := rg_24_3 i_210
          have f_225 : 0 ≤ Int32.toInt (q_202.1 24 3) ∧ Int32.toInt (q_202.1 24 3) ≤ 1 := rg_24_3 i_204
          have w_226 : Int32.toInt (q_202.1 24 3) = Int32.toInt (q.1 24 3) := by rw [i_205.1 24 3 (by decide) (by decide)]
          have w_227 : Int32.toInt (q_208.1 24 3) = Int32.toInt (q_202.1 24 3) := by rw [i_211.1 24 3 (by decide) (by decide)]
          exact hn_93 q_208 i_210 ((((cFr.rf : cFr [26, 27, 28, 29, 30, 31] [(24, 4), (24, 5), (24, 6), (24, 7), (24, 8), (24, 9), (24, 10), (25, 6), (25, 7)] q q).t i_205 (by decide) (by decide)) : cFr [26, 27, 28, 29, 30, 31] [(24, 4), (24, 5), (24, 6), (24, 7), (24, 8), (24, 9), (24, 10), (25, 6), (25, 7)] q q_202).t i_211 (by decide) (by decide)) (show ¬ Int32.toInt (q_208.1 24 0) = 0 by omega) (show ¬ Int32.toInt (q_208.1 24 3) = 0 by omega)
        · have f_228 : 0 ≤ Int32.toInt (q_208.1 24 0) ∧ Int32.toInt (q_208.1 24 0) ≤ 1 := rg_24_0 i_210
          have w_229 : Int32.toInt (q_208.1 24 0) = Int32.toInt (q_202.1 24 0) := by rw [i_211.1 24 0 (by decide) (by decide)]
          have f_230 : 0 ≤ Int32.toInt (q_208.1 24 3) ∧ Int32.toInt (q_208.1 24 3) ≤ 1 := rg_24_3 i_210
          have f_231 : 0 ≤ Int32.toInt (q_202.1 24 3) ∧ Int32.toInt (q_202.1 24 3) ≤ 1 := rg_24_3 i_204
          have w_232 : Int32.toInt (q_202.1 24 3) = Int32.toInt (q.1 24 3) := by rw [i_205.1 24 3 (by decide) (by decide)]
          have w_233 : Int32.toInt (q_208.1 24 3) = Int32.toInt (q_202.1 24 3) := by rw [i_211.1 24 3 (by decide) (by decide)]
          exact hn_48 q_208 i_210 ((((cFr.rf : cFr [26, 27, 28, 29, 30, 31] [(24, 4), (24, 5), (24, 6), (24, 7), (24, 8), (24, 9), (24, 10), (25, 6), (25, 7)] q q).t i_205 (by decide) (by decide)) : cFr [26, 27, 28, 29, 30, 31] [(24, 4), (24, 5), (24, 6), (24, 7), (24, 8), (24, 9), (24, 10), (25, 6), (25, 7)] q q_202).t i_211 (by decide) (by decide)) (show ¬ Int32.toInt (q_208.1 24 0) = 0 by omega) (show ¬ Int32.toInt (q_208.1 24 3) = 0 by omega)
      · refine dOk_eq (A := Int32.toInt r_189) (B := 3) rfl (by decide) (fun c_234z c_234 => ?_) (fun c_235z c_235 => ?_)
        · have f_237 : 0 ≤ Int32.toInt (q_208.1 24 0) ∧ Int32.toInt (q_208.1 24 0) ≤ 1 := rg_24_0 i_210
          have w_238 : Int32.toInt (q_208.1 24 0) = Int32.toInt (q_202.1 24 0) := by rw [i_211.1 24 0 (by decide) (by decide)]
          have f_239 : 0 ≤ Int32.toInt (q_208.1 24 3) ∧ Int32.toInt (q_208.1 24 3) ≤ 1 := rg_24_3 i_210
          have f_240 : 0 ≤ Int32.toInt (q_202.1 24 3) ∧ Int32.toInt (q_202.1 24 3) ≤ 1 := rg_24_3 i_204
          have w_241 : Int32.toInt (q_202.1 24 3) = Int32.toInt (q.1 24 3) := by rw [i_205.1 24 3 (by decide) (by decide)]
          have w_242 : Int32.toInt (q_208.1 24 3) = Int32.toInt (q_202.1 24 3) := by rw [i_211.1 24 3 (by decide) (by decide)]
          exact hn_48 q_208 i_210 ((((cFr.rf : cFr [26, 27, 28, 29, 30, 31] [(24, 4), (24, 5), (24, 6), (24, 7), (24, 8), (24, 9), (24, 10), (25, 6), (25, 7)] q q).t i_205 (by decide) (by decide)) : cFr [26, 27, 28, 29, 30, 31] [(24, 4), (24, 5), (24, 6), (24, 7), (24, 8), (24, 9), (24, 10), (25, 6), (25, 7)] q q_202).t i_211 (by decide) (by decide)) (show ¬ Int32.toInt (q_208.1 24 0) = 0 by omega) (show ¬ Int32.toInt (q_208.1 24 3) = 0 by omega)
        · have f_243 : 0 ≤ Int32.toInt (q_208.1 24 0) ∧ Int32.toInt (q_208.1 24 0) ≤ 1 := rg_24_0 i_210
          have w_244 : Int32.toInt (q_208.1 24 0) = Int32.toInt (q_202.1 24 0) := by rw [i_211.1 24 0 (by decide) (by decide)]
          have f_245 : 0 ≤ Int32.toInt (q_208.1 24 3) ∧ Int32.toInt (q_208.1 24 3) ≤ 1 := rg_24_3 i_210
          have f_246 : 0 ≤ Int32.toInt (q_202.1 24 3) ∧ Int32.toInt (q_202.1 24 3) ≤ 1 := rg_24_3 i_204
          have w_247 : Int32.toInt (q_202.1 24 3) = Int32.toInt (q.1 24 3) := by rw [i_205.1 24 3 (by decide) (by decide)]
          have w_248 : Int32.toInt (q_208.1 24 3) = Int32.toInt (q_202.1 24 3) := by rw [i_211.1 24 3 (by decide) (by decide)]
          exact hn_93 q_208 i_210 ((((cFr.rf : cFr [26, 27, 28, 29, 30, 31] [(24, 4), (24, 5), (24, 6), (24, 7), (24, 8), (24, 9), (24, 10), (25, 6), (25, 7)] q q).t i_205 (by decide) (by decide)) : cFr [26, 27, 28, 29, 30, 31] [(24, 4), (24, 5), (24, 6), (24, 7), (24, 8), (24, 9), (24, 10), (25, 6), (25, 7)] q q_202).t i_211 (by decide) (by decide)) (show ¬ Int32.toInt (q_208.1 24 0) = 0 by omega) (show ¬ Int32.toInt (q_208.1 24 3) = 0 by omega)
