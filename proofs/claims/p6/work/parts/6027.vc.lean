set_option maxHeartbeats 4000000 in
set_option maxRecDepth 100000 in
theorem ok_X4_readPart_s24 (kS : dK → Option (dK)) (n : Nat) (hkS : ∀ q9 : dK, TC q9 → (¬ Int32.toInt (q9.1 24 0) = 0) → (¬ Int32.toInt (q9.1 24 3) = 0) → (9 - Int32.toInt (q9.1 24 9) ≤ (n : Int)) → dOk (kS q9) (fun (o : dK) => (TC o) ∧ (cFr [31] [(24, 4), (24, 5), (24, 6), (24, 7), (24, 8), (24, 9), (24, 10), (25, 7)] q9 o) ∧ (Int32.toInt (o.1 24 9) = Int32.toInt (q9.1 24 9)))) (q : dK) (hT : TC q) (hp0 : ¬ Int32.toInt (q.1 24 0) = 0) (hp1 : ¬ Int32.toInt (q.1 24 3) = 0) (hp2 : 9 - Int32.toInt (q.1 24 9) ≤ (n : Int) + 1) : dOk (zX4_readPart_s24 kS q) (fun (o : dK) => (TC o) ∧ (cFr [31] [(24, 4), (24, 5), (24, 6), (24, 7), (24, 8), (24, 9), (24, 10), (25, 7)] q o) ∧ (Int32.toInt (o.1 24 9) = Int32.toInt (q.1 24 9))) := by
  unfold zX4_readPart_s24
  have hn_2 : ∀ (q_1 : dK), TC q_1 → cFr [31] [(24, 4), (24, 5), (24, 6), (24, 7), (24, 8), (24, 9), (24, 10), (25, 7)] q q_1 → (¬ Int32.toInt (q_1.1 24 0) = 0) → (¬ Int32.toInt (q_1.1 24 3) = 0) → (Int32.toInt (q_1.1 24 9) = Int32.toInt (q.1 24 9)) → dOk (zX4_readPart_s24_177 kS q_1) (fun (o : dK) => (TC o) ∧ (cFr [31] [(24, 4), (24, 5), (24, 6), (24, 7), (24, 8), (24, 9), (24, 10), (25, 7)] q o) ∧ (Int32.toInt (o.1 24 9) = Int32.toInt (q.1 24 9))) := by
    intro q_1 hT_6 hF_7 b_3 b_4 b_5
    unfold zX4_readPart_s24_177
    have f_8 : 0 ≤ Int32.toInt (q_1.1 24 0) ∧ Int32.toInt (q_1.1 24 0) ≤ 1 := rg_24_0 hT_6
    have f_9 : 0 ≤ Int32.toInt (q.1 24 0) ∧ Int32.toInt (q.1 24 0) ≤ 1 := rg_24_0 hT
    have w_10 : Int32.toInt (q_1.1 24 0) = Int32.toInt (q.1 24 0) := by rw [hF_7.1 24 0 (by decide) (by decide)]
    have f_11 : 0 ≤ Int32.toInt (q_1.1 24 3) ∧ Int32.toInt (q_1.1 24 3) ≤ 1 := rg_24_3 hT_6
    have f_12 : 0 ≤ Int32.toInt (q.1 24 3) ∧ Int32.toInt (q.1 24 3) ≤ 1 := rg_24_3 hT
    have w_13 : Int32.toInt (q_1.1 24 3) = Int32.toInt (q.1 24 3) := by rw [hF_7.1 24 3 (by decide) (by decide)]
    have f_14 : 0 ≤ Int32.toInt (q_1.1 24 9) ∧ Int32.toInt (q_1.1 24 9) ≤ 8 := rg_24_9 hT_6
    have f_15 : 0 ≤ Int32.toInt (q.1 24 9) ∧ Int32.toInt (q.1 24 9) ≤ 8 := rg_24_9 hT
    exact dOk_some (show (TC q_1) ∧ (cFr [31] [(24, 4), (24, 5), (24, 6), (24, 7), (24, 8), (24, 9), (24, 10), (25, 7)] q q_1) ∧ (Int32.toInt (q_1.1 24 9) = Int32.toInt (q.1 24 9)) from ⟨hT_6, hF_7, by omega⟩)
  have hn_18 : ∀ (q_16 : dK) (x1_17 : Int32), TC q_16 → cFr [31] [(24, 4), (24, 5), (24, 6), (24, 7), (24, 8), (24, 9), (24, 10), (25, 7)] q q_16 → (¬ Int32.toInt (q_16.1 24 0) = 0) → (¬ Int32.toInt (q_16.1 24 3) = 0) → (Int32.toInt (q_16.1 24 9) = Int32.toInt (q.1 24 9)) → (0 ≤ Int32.toInt x1_17 ∧ Int32.toInt x1_17 ≤ 47) → dOk (zX4_readPart_s24_168 kS q_16 x1_17) (fun (o : dK) => (TC o) ∧ (cFr [31] [(24, 4), (24, 5), (24, 6), (24, 7), (24, 8), (24, 9), (24, 10), (25, 7)] q o) ∧ (Int32.toInt (o.1 24 9) = Int32.toInt (q.1 24 9))) := by
    intro q_16 x1_17 hT_23 hF_24 b_19 b_20 b_21 b_22
    unfold zX4_readPart_s24_168
    have f_25 : 0 ≤ Int32.toInt (q_16.1 24 0) ∧ Int32.toInt (q_16.1 24 0) ≤ 1 := rg_24_0 hT_23
    have f_26 : 0 ≤ Int32.toInt (q.1 24 0) ∧ Int32.toInt (q.1 24 0) ≤ 1 := rg_24_0 hT
    have w_27 : Int32.toInt (q_16.1 24 0) = Int32.toInt (q.1 24 0) := by rw [hF_24.1 24 0 (by decide) (by decide)]
    have f_28 : 0 ≤ Int32.toInt (q_16.1 24 3) ∧ Int32.toInt (q_16.1 24 3) ≤ 1 := rg_24_3 hT_23
    have f_29 : 0 ≤ Int32.toInt (q.1 24 3) ∧ Int32.toInt (q.1 24 3) ≤ 1 := rg_24_3 hT
    have w_30 : Int32.toInt (q_16.1 24 3) = Int32.toInt (q.1 24 3) := by rw [hF_24.1 24 3 (by decide) (by decide)]
    have f_31 : 0 ≤ Int32.toInt (q_16.1 24 9) ∧ Int32.toInt (q_16.1 24 9) ≤ 8 := rg_24_9 hT_23
    have f_32 : 0 ≤ Int32.toInt (q.1 24 9) ∧ Int32.toInt (q.1 24 9) ≤ 8 := rg_24_9 hT
    refine dOk_G (dnz_ok (show ¬ Int32.toInt (q_16.1 24 3) = 0 by omega)) ?_
    refine dOk_V (ok_X7_emit_s25 q_16 1 x1_17 hT_23 (show 0 ≤ (1 : Int) ∧ (1 : Int) ≤ 12 by omega) (show 0 ≤ Int32.toInt x1_17 ∧ Int32.toInt x1_17 ≤ 2000 by omega)) (fun q_33 h_34 => ?_)
    replace h_34 : (TC q_33) ∧ (cFr [31] [(25, 7)] q_16 q_33) := h_34
    obtain ⟨i_35, i_36⟩ := h_34
    have hFq_33 : cFr [31] [(24, 4), (24, 5), (24, 6), (24, 7), (24, 8), (24, 9), (24, 10), (25, 7)] q q_33 := hF_24.t i_36 (by decide) (by decide)
    have f_37 : 0 ≤ Int32.toInt (q_33.1 24 0) ∧ Int32.toInt (q_33.1 24 0) ≤ 1 := rg_24_0 i_35
    have w_38 : Int32.toInt (q_33.1 24 0) = Int32.toInt (q_16.1 24 0) := by rw [i_36.1 24 0 (by decide) (by decide)]
    have f_39 : 0 ≤ Int32.toInt (q_33.1 24 3) ∧ Int32.toInt (q_33.1 24 3) ≤ 1 := rg_24_3 i_35
    have w_40 : Int32.toInt (q_33.1 24 3) = Int32.toInt (q_16.1 24 3) := by rw [i_36.1 24 3 (by decide) (by decide)]
    have f_41 : 0 ≤ Int32.toInt (q_33.1 24 9) ∧ Int32.toInt (q_33.1 24 9) ≤ 8 := rg_24_9 i_35
    have w_42 : Int32.toInt (q_33.1 24 9) = Int32.toInt (q_16.1 24 9) := by rw [i_36.1 24 9 (by decide) (by decide)]
    exact hn_2 q_33 i_35 ((((cFr.rf : cFr [31] [(24, 4), (24, 5), (24, 6), (24, 7), (24, 8), (24, 9), (24, 10), (25, 7)] q q).t hF_24 (by decide) (by decide)) : cFr [31] [(24, 4), (24, 5), (24, 6), (24, 7), (24, 8), (24, 9), (24, 10), (25, 7)] q q_16).t i_36 (by decide) (by decide)) (show ¬ Int32.toInt (q_33.1 24 0) = 0 by omega) (show ¬ Int32.toInt (q_33.1 24 3) = 0 by omega) (show Int32.toInt (q_33.1 24 9) = Int32.toInt (q.1 24 9) by omega)
  have hn_45 : ∀ (q_43 : dK) (y0_44 : Int32), TC q_43 → cFr [31] [(24, 4), (24, 5), (24, 6), (24, 7), (24, 8), (24, 9), (24, 10), (25, 7)] q q_43 → (¬ Int32.toInt (q_43.1 24 0) = 0) → (¬ Int32.toInt (q_43.1 24 3) = 0) → (Int32.toInt (q_43.1 24 9) = Int32.toInt (q.1 24 9)) → (0 ≤ Int32.toInt y0_44 ∧ Int32.toInt y0_44 ≤ 100) → dOk (zX4_readPart_s24_162 kS q_43 y0_44) (fun (o : dK) => (TC o) ∧ (cFr [31] [(24, 4), (24, 5), (24, 6), (24, 7), (24, 8), (24, 9), (24, 10), (25, 7)] q o) ∧ (Int32.toInt (o.1 24 9) = Int32.toInt (q.1 24 9))) := by
    intro q_43 y0_44 hT_50 hF_51 b_46 b_47 b_48 b_49
    unfold zX4_readPart_s24_162
    have f_52 : 0 ≤ Int32.toInt (q_43.1 24 0) ∧ Int32.toInt (q_43.1 24 0) ≤ 1 := rg_24_0 hT_50
    have f_53 : 0 ≤ Int32.toInt (q.1 24 0) ∧ Int32.toInt (q.1 24 0) ≤ 1 := rg_24_0 hT
    have w_54 : Int32.toInt (q_43.1 24 0) = Int32.toInt (q.1 24 0) := by rw [hF_51.1 24 0 (by decide) (by decide)]
    have f_55 : 0 ≤ Int32.toInt (q_43.1 24 3) ∧ Int32.toInt (q_43.1 24 3) ≤ 1 := rg_24_3 hT_50
    have f_56 : 0 ≤ Int32.toInt (q.1 24 3) ∧ Int32.toInt (q.1 24 3) ≤ 1 := rg_24_3 hT
    have w_57 : Int32.toInt (q_43.1 24 3) = Int32.toInt (q.1 24 3) := by rw [hF_51.1 24 3 (by decide) (by decide)]
    have f_58 : 0 ≤ Int32.toInt (q_43.1 24 9) ∧ Int32.toInt (q_43.1 24 9) ≤ 8 := rg_24_9 hT_50
    have f_59 : 0 ≤ Int32.toInt (q.1 24 9) ∧ Int32.toInt (q.1 24 9) ≤ 8 := rg_24_9 hT
    refine dOk_V (ok_X4_readPlace_s24 q_43 y0_44 hT_50 (show ¬ Int32.toInt (q_43.1 24 0) = 0 by omega) (show ¬ Int32.toInt (q_43.1 24 3) = 0 by omega) (show 0 ≤ Int32.toInt y0_44 ∧ Int32.toInt y0_44 ≤ 100 by omega)) (fun q_60 h_61 => ?_)
    replace h_61 : (TC q_60) ∧ (cFr [31] [(24, 4), (24, 5), (24, 6), (24, 7), (24, 10), (25, 7)] q_43 q_60) := h_61
    obtain ⟨i_62, i_63⟩ := h_61
    have hFq_60 : cFr [31] [(24, 4), (24, 5), (24, 6), (24, 7), (24, 8), (24, 9), (24, 10), (25, 7)] q q_60 := hF_51.t i_63 (by decide) (by decide)
    have f_64 : 0 ≤ Int32.toInt (q_60.1 24 0) ∧ Int32.toInt (q_60.1 24 0) ≤ 1 := rg_24_0 i_62
    have w_65 : Int32.toInt (q_60.1 24 0) = Int32.toInt (q_43.1 24 0) := by rw [i_63.1 24 0 (by decide) (by decide)]
    have f_66 : 0 ≤ Int32.toInt (q_60.1 24 3) ∧ Int32.toInt (q_60.1 24 3) ≤ 1 := rg_24_3 i_62
    have w_67 : Int32.toInt (q_60.1 24 3) = Int32.toInt (q_43.1 24 3) := by rw [i_63.1 24 3 (by decide) (by decide)]
    have f_68 : 0 ≤ Int32.toInt (q_60.1 24 9) ∧ Int32.toInt (q_60.1 24 9) ≤ 8 := rg_24_9 i_62
    have w_69 : Int32.toInt (q_60.1 24 9) = Int32.toInt (q_43.1 24 9) := by rw [i_63.1 24 9 (by decide) (by decide)]
    exact hn_2 q_60 i_62 ((((cFr.rf : cFr [31] [(24, 4), (24, 5), (24, 6), (24, 7), (24, 8), (24, 9), (24, 10), (25, 7)] q q).t hF_51 (by decide) (by decide)) : cFr [31] [(24, 4), (24, 5), (24, 6), (24, 7), (24, 8), (24, 9), (24, 10), (25, 7)] q q_43).t i_63 (by decide) (by decide)) (show ¬ Int32.toInt (q_60.1 24 0) = 0 by omega) (show ¬ Int32.toInt (q_60.1 24 3) = 0 by omega) (show Int32.toInt (q_60.1 24 9) = Int32.toInt (q.1 24 9) by omega)
  have hn_73 : ∀ (q_70 : dK) (x1_71 : Int32) (x2_72 : Int32), TC q_70 → cFr [31] [(24, 4), (24, 5), (24, 6), (24, 7), (24, 8), (24, 9), (24, 10), (25, 7)] q q_70 → (¬ Int32.toInt (q_70.1 24 0) = 0) → (¬ Int32.toInt (q_70.1 24 3) = 0) → (Int32.toInt (q_70.1 24 9) = Int32.toInt (q.1 24 9)) → ((Int32.toInt x2_72 = 1 ∧ Int32.toInt (q_70.1 24 7) ≤ 1000) ∨ (Int32.toInt x2_72 = 0 ∧ 0 ≤ Int32.toInt x1_71)) → (Int32.toInt x1_71 ≤ 47) → dOk (zX4_readPart_s24_89 kS q_70 x1_71 x2_72) (fun (o : dK) => (TC o) ∧ (cFr [31] [(24, 4), (24, 5), (24, 6), (24, 7), (24, 8), (24, 9), (24, 10), (25, 7)] q o) ∧ (Int32.toInt (o.1 24 9) = Int32.toInt (q.1 24 9))) := by
    intro q_70 x1_71 x2_72 hT_79 hF_80 b_74 b_75 b_76 b_77 b_78
    unfold zX4_readPart_s24_89
    have f_81 : 0 ≤ Int32.toInt (q_70.1 24 0) ∧ Int32.toInt (q_70.1 24 0) ≤ 1 := rg_24_0 hT_79
    have f_82 : 0 ≤ Int32.toInt (q.1 24 0) ∧ Int32.toInt (q.1 24 0) ≤ 1 := rg_24_0 hT
    have w_83 : Int32.toInt (q_70.1 24 0) = Int32.toInt (q.1 24 0) := by rw [hF_80.1 24 0 (by decide) (by decide)]
    have f_84 : 0 ≤ Int32.toInt (q_70.1 24 3) ∧ Int32.toInt (q_70.1 24 3) ≤ 1 := rg_24_3 hT_79
    have f_85 : 0 ≤ Int32.toInt (q.1 24 3) ∧ Int32.toInt (q.1 24 3) ≤ 1 := rg_24_3 hT
    have w_86 : Int32.toInt (q_70.1 24 3) = Int32.toInt (q.1 24 3) := by rw [hF_80.1 24 3 (by decide) (by decide)]
    have f_87 : 0 ≤ Int32.toInt (q_70.1 24 9) ∧ Int32.toInt (q_70.1 24 9) ≤ 8 := rg_24_9 hT_79
    have f_88 : 0 ≤ Int32.toInt (q.1 24 9) ∧ Int32.toInt (q.1 24 9) ≤ 8 := rg_24_9 hT
    have f_89 : 0 ≤ Int32.toInt (q_70.1 24 7) ∧ Int32.toInt (q_70.1 24 7) ≤ 1001 := rg_24_7 hT_79
    have f_90 : 0 ≤ Int32.toInt (q_70.1 24 8) ∧ Int32.toInt (q_70.1 24 8) ≤ 50 := rg_24_8 hT_79
    refine dOk_lt (A := Int32.toInt (q_70.1 24 8)) (B := 50) rfl (by decide) (fun c_91 => ?_) (fun c_92 => ?_)
    · refine dOk_L (fun q_93 eq_93 => ?_)
      try have t_94 : Int32.toInt (q_70.1 24 8 + 1) = Int32.toInt (q_70.1 24 8) + 1 := ti_add rfl (by decide) (by omega) (by omega)
      have hTq_93 : TC q_93 := by rw [eq_93]; exact st_24_8 hT_79 (show (0 : Int) ≤ Int32.toInt (q_70.1 24 8 + 1) by omega) (show Int32.toInt (q_70.1 24 8 + 1) ≤ (50 : Int) by omega)
      have hFq_93 : cFr [31] [(24, 4), (24, 5), (24, 6), (24, 7), (24, 8), (24, 9), (24, 10), (25, 7)] q q_93 := by rw [eq_93]; exact hF_80.f (by decide)
      have f_95 : 0 ≤ Int32.toInt (q_93.1 24 0) ∧ Int32.toInt (q_93.1 24 0) ≤ 1 := rg_24_0 hTq_93
      have w_96 : Int32.toInt (q_93.1 24 0) = Int32.toInt (q_70.1 24 0) := by rw [eq_93, cui_n (by decide)]
      refine dOk_V (ok_X4_step_s24 q_93 hTq_93 (show ¬ Int32.toInt (q_93.1 24 0) = 0 by omega)) (fun q_97 h_98 => ?_)
      replace h_98 : (TC q_97) ∧ (cFr [] [(24, 4), (24, 5), (24, 6), (24, 7)] q_93 q_97) := h_98
      obtain ⟨i_99, i_100⟩ := h_98
      have hFq_97 : cFr [31] [(24, 4), (24, 5), (24, 6), (24, 7), (24, 8), (24, 9), (24, 10), (25, 7)] q q_97 := hFq_93.t i_100 (by decide) (by decide)
      refine dOk_eq (A := Int32.toInt x2_72) (B := 0) rfl (by decide) (fun c_101z c_101 => ?_) (fun c_102z c_102 => ?_)
      · have f_104 : 0 ≤ Int32.toInt (q_97.1 24 2) ∧ Int32.toInt (q_97.1 24 2) ≤ 1 := rg_24_2 i_99
        have f_105 : 0 ≤ Int32.toInt (q_93.1 24 2) ∧ Int32.toInt (q_93.1 24 2) ≤ 1 := rg_24_2 hTq_93
        have f_106 : 0 ≤ Int32.toInt (q_70.1 24 2) ∧ Int32.toInt (q_70.1 24 2) ≤ 1 := rg_24_2 hT_79
        have f_107 : 0 ≤ Int32.toInt (q.1 24 2) ∧ Int32.toInt (q.1 24 2) ≤ 1 := rg_24_2 hT
        have w_108 : Int32.toInt (q_70.1 24 2) = Int32.toInt (q.1 24 2) := by rw [hF_80.1 24 2 (by decide) (by decide)]
        have w_109 : Int32.toInt (q_93.1 24 2) = Int32.toInt (q_70.1 24 2) := by rw [eq_93, cui_n (by decide)]
        have w_110 : Int32.toInt (q_97.1 24 2) = Int32.toInt (q_93.1 24 2) := by rw [i_100.1 24 2 (by decide) (by decide)]
        refine dOk_eq (A := Int32.toInt (q_97.1 24 2)) (B := 0) rfl (by decide) (fun c_111z c_111 => ?_) (fun c_112z c_112 => ?_)
        · have f_114 : 0 ≤ Int32.toInt (q_97.1 24 0) ∧ Int32.toInt (q_97.1 24 0) ≤ 1 := rg_24_0 i_99
          have w_115 : Int32.toInt (q_97.1 24 0) = Int32.toInt (q_93.1 24 0) := by rw [i_100.1 24 0 (by decide) (by decide)]
          have f_116 : 0 ≤ Int32.toInt (q_97.1 24 3) ∧ Int32.toInt (q_97.1 24 3) ≤ 1 := rg_24_3 i_99
          have f_117 : 0 ≤ Int32.toInt (q_93.1 24 3) ∧ Int32.toInt (q_93.1 24 3) ≤ 1 := rg_24_3 hTq_93
          have w_118 : Int32.toInt (q_93.1 24 3) = Int32.toInt (q_70.1 24 3) := by rw [eq_93, cui_n (by decide)]
          have w_119 : Int32.toInt (q_97.1 24 3) = Int32.toInt (q_93.1 24 3) := by rw [i_100.1 24 3 (by decide) (by decide)]
          have f_120 : 0 ≤ Int32.toInt (q_97.1 24 9) ∧ Int32.toInt (q_97.1 24 9) ≤ 8 := rg_24_9 i_99
          have f_121 : 0 ≤ Int32.toInt (q_93.1 24 9) ∧ Int32.toInt (q_93.1 24 9) ≤ 8 := rg_24_9 hTq_93
          have w_122 : Int32.toInt (q_93.1 24 9) = Int32.toInt (q_70.1 24 9) := by rw [eq_93, cui_n (by decide)]
          have w_123 : Int32.toInt (q_97.1 24 9) = Int32.toInt (q_93.1 24 9) := by rw [i_100.1 24 9 (by decide) (by decide)]
          exact hn_18 q_97 x1_71 i_99 (((by rw [eq_93]; exact (((cFr.rf : cFr [31] [(24, 4), (24, 5), (24, 6), (24, 7), (24, 8), (24, 9), (24, 10), (25, 7)] q q).t hF_80 (by decide) (by decide)) : cFr [31] [(24, 4), (24, 5), (24, 6), (24, 7), (24, 8), (24, 9), (24, 10), (25, 7)] q q_70).f (by decide)) : cFr [31] [(24, 4), (24, 5), (24, 6), (24, 7), (24, 8), (24, 9), (24, 10), (25, 7)] q q_93).t i_100 (by decide) (by decide)) (show ¬ Int32.toInt (q_97.1 24 0) = 0 by omega) (show ¬ Int32.toInt (q_97.1 24 3) = 0 by omega) (show Int32.toInt (q_97.1 24 9) = Int32.toInt (q.1 24 9) by omega) (show 0 ≤ Int32.toInt x1_71 ∧ Int32.toInt x1_71 ≤ 47 by omega)
        · refine dOk_lt (A := Int32.toInt x1_71) (B := 5) rfl (by decide) (fun c_124 => ?_) (fun c_125 => ?_)
          · have f_126 : 0 ≤ Int32.toInt (q_97.1 24 0) ∧ Int32.toInt (q_97.1 24 0) ≤ 1 := rg_24_0 i_99
            have w_127 : Int32.toInt (q_97.1 24 0) = Int32.toInt (q_93.1 24 0) := by rw [i_100.1 24 0 (by decide) (by decide)]
            have f_128 : 0 ≤ Int32.toInt (q_97.1 24 3) ∧ Int32.toInt (q_97.1 24 3) ≤ 1 := rg_24_3 i_99
            have f_129 : 0 ≤ Int32.toInt (q_93.1 24 3) ∧ Int32.toInt (q_93.1 24 3) ≤ 1 := rg_24_3 hTq_93
            have w_130 : Int32.toInt (q_93.1 24 3) = Int32.toInt (q_70.1 24 3) := by rw [eq_93, cui_n (by decide)]
            have w_131 : Int32.toInt (q_97.1 24 3) = Int32.toInt (q_93.1 24 3) := by rw [i_100.1 24 3 (by decide) (by decide)]
            have f_132 : 0 ≤ Int32.toInt (q_97.1 24 9) ∧ Int32.toInt (q_97.1 24 9) ≤ 8 := rg_24_9 i_99
            have f_133 : 0 ≤ Int32.toInt (q_93.1 24 9) ∧ Int32.toInt (q_93.1 24 9) ≤ 8 := rg_24_9 hTq_93
            have w_134 : Int32.toInt (q_93.1 24 9) = Int32.toInt (q_70.1 24 9) := by rw [eq_93, cui_n (by decide)]
            have w_135 : Int32.toInt (q_97.1 24 9) = Int32.toInt (q_93.1 24 9) := by rw [i_100.1 24 9 (by decide) (by decide)]
            exact hn_18 q_97 x1_71 i_99 (((by rw [eq_93]; exact (((cFr.rf : cFr [31] [(24, 4), (24, 5), (24, 6), (24, 7), (24, 8), (24, 9), (24, 10), (25, 7)] q q).t hF_80 (by decide) (by decide)) : cFr [31] [(24, 4), (24, 5), (24, 6), (24, 7), (24, 8), (24, 9), (24, 10), (25, 7)] q q_70).f (by decide)) : cFr [31] [(24, 4), (24, 5), (24, 6), (24, 7), (24, 8), (24, 9), (24, 10), (25, 7)] q q_93).t i_100 (by decide) (by decide)) (show ¬ Int32.toInt (q_97.1 24 0) = 0 by omega) (show ¬ Int32.toInt (q_97.1 24 3) = 0 by omega) (show Int32.toInt (q_97.1 24 9) = Int32.toInt (q.1 24 9) by omega) (show 0 ≤ Int32.toInt x1_71 ∧ Int32.toInt x1_71 ≤ 47 by omega)
          · refine dOk_eq (A := Int32.toInt x1_71) (B := 5) rfl (by decide) (fun c_136z c_136 => ?_) (fun c_137z c_137 => ?_)
            · have f_139 : 0 ≤ Int32.toInt (q_97.1 24 0) ∧ Int32.toInt (q_97.1 24 0) ≤ 1 := rg_24_0 i_99
              have w_140 : Int32.toInt (q_97.1 24 0) = Int32.toInt (q_93.1 24 0) := by rw [i_100.1 24 0 (by decide) (by decide)]
              have f_141 : 0 ≤ Int32.toInt (q_97.1 24 3) ∧ Int32.toInt (q_97.1 24 3) ≤ 1 := rg_24_3 i_99
              have f_142 : 0 ≤ Int32.toInt (q_93.1 24 3) ∧ Int32.toInt (q_93.1 24 3) ≤ 1 := rg_24_3 hTq_93
              have w_143 : Int32.toInt (q_93.1 24 3) = Int32.toInt (q_70.1 24 3) := by rw [eq_93, cui_n (by decide)]
              have w_144 : Int32.toInt (q_97.1 24 3) = Int32.toInt (q_93.1 24 3) := by rw [i_100.1 24 3 (by decide) (by decide)]
              have f_145 : 0 ≤ Int32.toInt (q_97.1 24 9) ∧ Int32.toInt (q_97.1 24 9) ≤ 8 := rg_24_9 i_99
              have f_146 : 0 ≤ Int32.toInt (q_93.1 24 9) ∧ Int32.toInt (q_93.1 24 9) ≤ 8 := rg_24_9 hTq_93
              have w_147 : Int32.toInt (q_93.1 24 9) = Int32.toInt (q_70.1 24 9) := by rw [eq_93, cui_n (by decide)]
              have w_148 : Int32.toInt (q_97.1 24 9) = Int32.toInt (q_93.1 24 9) := by rw [i_100.1 24 9 (by decide) (by decide)]
              exact hn_45 q_97 5 i_99 (((by rw [eq_93]; exact (((cFr.rf : cFr [31] [(24, 4), (24, 5), (24, 6), (24, 7), (24, 8), (24, 9), (24, 10), (25, 7)] q q).t hF_80 (by decide) (by decide)) : cFr [31] [(24, 4), (24, 5), (24, 6), (24, 7), (24, 8), (24, 9), (24, 10), (25, 7)] q q_70).f (by decide)) : cFr [31] [(24, 4), (24, 5), (24, 6), (24, 7), (24, 8), (24, 9), (24, 10), (25, 7)] q q_93).t i_100 (by decide) (by decide)) (show ¬ Int32.toInt (q_97.1 24 0) = 0 by omega) (show ¬ Int32.toInt (q_97.1 24 3) = 0 by omega) (show Int32.toInt (q_97.1 24 9) = Int32.toInt (q.1 24 9) by omega) (show 0 ≤ (5 : Int) ∧ (5 : Int) ≤ 100 by omega)
            · have f_149 : 0 ≤ Int32.toInt (q_97.1 24 0) ∧ Int32.toInt (q_97.1 24 0) ≤ 1 := rg_24_0 i_99
              have w_150 : Int32.toInt (q_97.1 24 0) = Int32.toInt (q_93.1 24 0) := by rw [i_100.1 24 0 (by decide) (by decide)]
              have f_151 : 0 ≤ Int32.toInt (q_97.1 24 3) ∧ Int32.toInt (q_97.1 24 3) ≤ 1 := rg_24_3 i_99
              have f_152 : 0 ≤ Int32.toInt (q_93.1 24 3) ∧ Int32.toInt (q_93.1 24 3) ≤ 1 := rg_24_3 hTq_93
              have w_153 : Int32.toInt (q_93.1 24 3) = Int32.toInt (q_70.1 24 3) := by rw [eq_93, cui_n (by decide)]
              have w_154 : Int32.toInt (q_97.1 24 3) = Int32.toInt (q_93.1 24 3) := by rw [i_100.1 24 3 (by decide) (by decide)]
              have f_155 : 0 ≤ Int32.toInt (q_97.1 24 9) ∧ Int32.toInt (q_97.1 24 9) ≤ 8 := rg_24_9 i_99
              have f_156 : 0 ≤ Int32.toInt (q_93.1 24 9) ∧ Int32.toInt (q_93.1 24 9) ≤ 8 := rg_24_9 hTq_93
              have w_157 : Int32.toInt (q_93.1 24 9) = Int32.toInt (q_70.1 24 9) := by rw [eq_93, cui_n (by decide)]
              have w_158 : Int32.toInt (q_97.1 24 9) = Int32.toInt (q_93.1 24 9) := by rw [i_100.1 24 9 (by decide) (by decide)]
              exact hn_45 q_97 11 i_99 (((by rw [eq_93]; exact (((cFr.rf : cFr [31] [(24, 4), (24, 5), (24, 6), (24, 7), (24, 8), (24, 9), (24, 10), (25, 7)] q q).t hF_80 (by decide) (by decide)) : cFr [31] [(24, 4), (24, 5), (24, 6), (24, 7), (24, 8), (24, 9), (24, 10), (25, 7)] q q_70).f (by decide)) : cFr [31] [(24, 4), (24, 5), (24, 6), (24, 7), (24, 8), (24, 9), (24, 10), (25, 7)] q q_93).t i_100 (by decide) (by decide)) (show ¬ Int32.toInt (q_97.1 24 0) = 0 by omega) (show ¬ Int32.toInt (q_97.1 24 3) = 0 by omega) (show Int32.toInt (q_97.1 24 9) = Int32.toInt (q.1 24 9) by omega) (show 0 ≤ (11 : Int) ∧ (11 : Int) ≤ 100 by omega)
      · have f_159 : 0 ≤ Int32.toInt (q_97.1 24 3) ∧ Int32.toInt (q_97.1 24 3) ≤ 1 := rg_24_3 i_99
        have f_160 : 0 ≤ Int32.toInt (q_93.1 24 3) ∧ Int32.toInt (q_93.1 24 3) ≤ 1 := rg_24_3 hTq_93
        have w_161 : Int32.toInt (q_93.1 24 3) = Int32.toInt (q_70.1 24 3) := by rw [eq_93, cui_n (by decide)]
        have w_162 : Int32.toInt (q_97.1 24 3) = Int32.toInt (q_93.1 24 3) := by rw [i_100.1 24 3 (by decide) (by decide)]
        refine dOk_G (dnz_ok (show ¬ Int32.toInt (q_97.1 24 3) = 0 by omega)) ?_
        have f_163 : 0 ≤ Int32.toInt (q_93.1 24 7) ∧ Int32.toInt (q_93.1 24 7) ≤ 1001 := rg_24_7 hTq_93
        have w_164 : Int32.toInt (q_93.1 24 7) = Int32.toInt (q_70.1 24 7) := by rw [eq_93, cui_n (by decide)]
        refine dOk_V (ok_X7_emit_s25 q_97 0 (q_93.1 24 7) i_99 (show 0 ≤ (0 : Int) ∧ (0 : Int) ≤ 12 by omega) (show 0 ≤ Int32.toInt (q_93.1 24 7) ∧ Int32.toInt (q_93.1 24 7) ≤ 2000 by omega)) (fun q_165 h_166 => ?_)
        replace h_166 : (TC q_165) ∧ (cFr [31] [(25, 7)] q_97 q_165) := h_166
        obtain ⟨i_167, i_168⟩ := h_166
        have hFq_165 : cFr [31] [(24, 4), (24, 5), (24, 6), (24, 7), (24, 8), (24, 9), (24, 10), (25, 7)] q q_165 := hFq_97.t i_168 (by decide) (by decide)
        have f_169 : 0 ≤ Int32.toInt (q_165.1 24 0) ∧ Int32.toInt (q_165.1 24 0) ≤ 1 := rg_24_0 i_167
        have f_170 : 0 ≤ Int32.toInt (q_97.1 24 0) ∧ Int32.toInt (q_97.1 24 0) ≤ 1 := rg_24_0 i_99
        have w_171 : Int32.toInt (q_97.1 24 0) = Int32.toInt (q_93.1 24 0) := by rw [i_100.1 24 0 (by decide) (by decide)]
        have w_172 : Int32.toInt (q_165.1 24 0) = Int32.toInt (q_97.1 24 0) := by rw [i_168.1 24 0 (by decide) (by decide)]
        have f_173 : 0 ≤ Int32.toInt (q_165.1 24 3) ∧ Int32.toInt (q_165.1 24 3) ≤ 1 := rg_24_3 i_167
        have w_174 : Int32.toInt (q_165.1 24 3) = Int32.toInt (q_97.1 24 3) := by rw [i_168.1 24 3 (by decide) (by decide)]
        have f_175 : 0 ≤ Int32.toInt (q_165.1 24 9) ∧ Int32.toInt (q_165.1 24 9) ≤ 8 := rg_24_9 i_167
        have f_176 : 0 ≤ Int32.toInt (q_97.1 24 9) ∧ Int32.toInt (q_97.1 24 9) ≤ 8 := rg_24_9 i_99
        have f_177 : 0 ≤ Int32.toInt (q_93.1 24 9) ∧ Int32.toInt (q_93.1 24 9) ≤ 8 := rg_24_9 hTq_93
        have w_178 : Int32.toInt (q_93.1 24 9) = Int32.toInt (q_70.1 24 9) := by rw [eq_93, cui_n (by decide)]
        have w_179 : Int32.toInt (q_97.1 24 9) = Int32.toInt (q_93.1 24 9) := by rw [i_100.1 24 9 (by decide) (by decide)]
        have w_180 : Int32.toInt (q_165.1 24 9) = Int32.toInt (q_97.1 24 9) := by rw [i_168.1 24 9 (by decide) (by decide)]
        exact hn_2 q_165 i_167 (((((by rw [eq_93]; exact (((cFr.rf : cFr [31] [(24, 4), (24, 5), (24, 6), (24, 7), (24, 8), (24, 9), (24, 10), (25, 7)] q q).t hF_80 (by decide) (by decide)) : cFr [31] [(24, 4), (24, 5), (24, 6), (24, 7), (24, 8), (24, 9), (24, 10), (25, 7)] q q_70).f (by decide)) : cFr [31] [(24, 4), (24, 5), (24, 6), (24, 7), (24, 8), (24, 9), (24, 10), (25, 7)] q q_93).t i_100 (by decide) (by decide)) : cFr [31] [(24, 4), (24, 5), (24, 6), (24, 7), (24, 8), (24, 9), (24, 10), (25, 7)] q q_97).t i_168 (by decide) (by decide)) (show ¬ Int32.toInt (q_165.1 24 0) = 0 by omega) (show ¬ Int32.toInt (q_165.1 24 3) = 0 by omega) (show Int32.toInt (q_165.1 24 9) = Int32.toInt (q.1 24 9) by omega)
    · unfold zX4_readPart_s24_98
      refine dOk_V (ok_X4_fail_s24 q_70 hT_79) (fun q_181 h_182 => ?_)
      replace h_182 : (TC q_181) ∧ (cFr [] [(24, 10)] q_70 q_181) := h_182
      obtain ⟨i_183, i_184⟩ := h_182
      have hFq_181 : cFr [31] [(24, 4), (24, 5), (24, 6), (24, 7), (24, 8), (24, 9), (24, 10), (25, 7)] q q_181 := hF_80.t i_184 (by decide) (by decide)
      have f_185 : 0 ≤ Int32.toInt (q_181.1 24 9) ∧ Int32.toInt (q_181.1 24 9) ≤ 8 := rg_24_9 i_183
      have w_186 : Int32.toInt (q_181.1 24 9) = Int32.toInt (q_70.1 24 9) := by rw [i_184.1 24 9 (by decide) (by decide)]
      exact dOk_some (show (TC q_181) ∧ (cFr [31] [(24, 4), (24, 5), (24, 6), (24, 7), (24, 8), (24, 9), (24, 10), (25, 7)] q q_181) ∧ (Int32.toInt (q_181.1 24 9) = Int32.toInt (q.1 24 9)) from ⟨i_183, hFq_181, by omega⟩)
  have hn_190 : ∀ (q_187 : dK) (x1_188 : Int32) (y0_189 : Int32), TC q_187 → cFr [31] [(24, 4), (24, 5), (24, 6), (24, 7), (24, 8), (24, 9), (24, 10), (25, 7)] q q_187 → (¬ Int32.toInt (q_187.1 24 0) = 0) → (¬ Int32.toInt (q_187.1 24 3) = 0) → (Int32.toInt (q_187.1 24 9) = Int32.toInt (q.1 24 9)) → ((Int32.toInt y0_189 = 1 ∧ Int32.toInt (q_187.1 24 7) ≤ 1000) ∨ Int32.toInt y0_189 = 0) → (-1 ≤ Int32.toInt x1_188) → (Int32.toInt x1_188 ≤ 47) → dOk (zX4_readPart_s24_79 kS q_187 x1_188 y0_189) (fun (o : dK) => (TC o) ∧ (cFr [31] [(24, 4), (24, 5), (24, 6), (24, 7), (24, 8), (24, 9), (24, 10), (25, 7)] q o) ∧ (Int32.toInt (o.1 24 9) = Int32.toInt (q.1 24 9))) := by
    intro q_187 x1_188 y0_189 hT_197 hF_198 b_191 b_192 b_193 b_194 b_195 b_196
    unfold zX4_readPart_s24_79
    have f_199 : 0 ≤ Int32.toInt (q_187.1 24 0) ∧ Int32.toInt (q_187.1 24 0) ≤ 1 := rg_24_0 hT_197
    have f_200 : 0 ≤ Int32.toInt (q.1 24 0) ∧ Int32.toInt (q.1 24 0) ≤ 1 := rg_24_0 hT
    have w_201 : Int32.toInt (q_187.1 24 0) = Int32.toInt (q.1 24 0) := by rw [hF_198.1 24 0 (by decide) (by decide)]
    have f_202 : 0 ≤ Int32.toInt (q_187.1 24 3) ∧ Int32.toInt (q_187.1 24 3) ≤ 1 := rg_24_3 hT_197
    have f_203 : 0 ≤ Int32.toInt (q.1 24 3) ∧ Int32.toInt (q.1 24 3) ≤ 1 := rg_24_3 hT
    have w_204 : Int32.toInt (q_187.1 24 3) = Int32.toInt (q.1 24 3) := by rw [hF_198.1 24 3 (by decide) (by decide)]
    have f_205 : 0 ≤ Int32.toInt (q_187.1 24 9) ∧ Int32.toInt (q_187.1 24 9) ≤ 8 := rg_24_9 hT_197
    have f_206 : 0 ≤ Int32.toInt (q.1 24 9) ∧ Int32.toInt (q.1 24 9) ≤ 8 := rg_24_9 hT
    have f_207 : 0 ≤ Int32.toInt (q_187.1 24 7) ∧ Int32.toInt (q_187.1 24 7) ≤ 1001 := rg_24_7 hT_197
    refine dOk_eq (A := Int32.toInt x1_188) (B := (-1)) rfl (by decide) (fun c_208z c_208 => ?_) (fun c_209z c_209 => ?_)
    · refine dOk_eq (A := Int32.toInt y0_189) (B := 0) rfl (by decide) (fun c_211z c_211 => ?_) (fun c_212z c_212 => ?_)
      · unfold zX4_readPart_s24_98
        refine dOk_V (ok_X4_fail_s24 q_187 hT_197) (fun q_214 h_215 => ?_)
        replace h_215 : (TC q_214) ∧ (cFr [] [(24, 10)] q_187 q_214) := h_215
        obtain ⟨i_216, i_217⟩ := h_215
        have hFq_214 : cFr [31] [(24, 4), (24, 5), (24, 6), (24, 7), (24, 8), (24, 9), (24, 10), (25, 7)] q q_214 := hF_198.t i_217 (by decide) (by decide)
        have f_218 : 0 ≤ Int32.toInt (q_214.1 24 9) ∧ Int32.toInt (q_214.1 24 9) ≤ 8 := rg_24_9 i_216
        have w_219 : Int32.toInt (q_214.1 24 9) = Int32.toInt (q_187.1 24 9) := by rw [i_217.1 24 9 (by decide) (by decide)]
        exact dOk_some (show (TC q_214) ∧ (cFr [31] [(24, 4), (24, 5), (24, 6), (24, 7), (24, 8), (24, 9), (24, 10), (25, 7)] q q_214) ∧ (Int32.toInt (q_214.1 24 9) = Int32.toInt (q.1 24 9)) from ⟨i_216, hFq_214, by omega⟩)
      · exact hn_73 q_187 x1_188 y0_189 hT_197 ((cFr.rf : cFr [31] [(24, 4), (24, 5), (24, 6), (24, 7), (24, 8), (24, 9), (24, 10), (25, 7)] q q).t hF_198 (by decide) (by decide)) (show ¬ Int32.toInt (q_187.1 24 0) = 0 by omega) (show ¬ Int32.toInt (q_187.1 24 3) = 0 by omega) (show Int32.toInt (q_187.1 24 9) = Int32.toInt (q.1 24 9) by omega) (show (Int32.toInt y0_189 = 1 ∧ Int32.toInt (q_187.1 24 7) ≤ 1000) ∨ (Int32.toInt y0_189 = 0 ∧ 0 ≤ Int32.toInt x1_188) by omega) (show Int32.toInt x1_188 ≤ 47 by omega)
    · exact hn_73 q_187 x1_188 y0_189 hT_197 ((cFr.rf : cFr [31] [(24, 4), (24, 5), (24, 6), (24, 7), (24, 8), (24, 9), (24, 10), (25, 7)] q q).t hF_198 (by decide) (by decide)) (show ¬ Int32.toInt (q_187.1 24 0) = 0 by omega) (show ¬ Int32.toInt (q_187.1 24 3) = 0 by omega) (show Int32.toInt (q_187.1 24 9) = Int32.toInt (q.1 24 9) by omega) (show (Int32.toInt y0_189 = 1 ∧ Int32.toInt (q_187.1 24 7) ≤ 1000) ∨ (Int32.toInt y0_189 = 0 ∧ 0 ≤ Int32.toInt x1_188) by omega) (show Int32.toInt x1_188 ≤ 47 by omega)
  have f_220 : 0 ≤ Int32.toInt (q.1 24 0) ∧ Int32.toInt (q.1 24 0) ≤ 1 := rg_24_0 hT
  refine dOk_B (ok_X4_isSign_s24 q 91 hT (show ¬ Int32.toInt (q.1 24 0) = 0 by omega)) (fun r_221 q_222 h_223 => ?_)
  replace h_223 : (q_222 = q) ∧ ((Int32.toInt r_221 = 0 ∨ Int32.toInt r_221 = 1)) := h_223
  obtain ⟨i_224, i_225⟩ := h_223
  subst q_222
  refine dOk_eq (A := Int32.toInt r_221) (B := 0) rfl (by decide) (fun c_226z c_226 => ?_) (fun c_227z c_227 => ?_)
  · have f_229 : 0 ≤ Int32.toInt (q.1 24 2) ∧ Int32.toInt (q.1 24 2) ≤ 1 := rg_24_2 hT
    refine dOk_eq (A := Int32.toInt (q.1 24 2)) (B := 0) rfl (by decide) (fun c_230z c_230 => ?_) (fun c_231z c_231 => ?_)
    · unfold zX4_readPart_s24_52
      refine dOk_B (ok_X4_wordIn_s24_t3 q hT (show ¬ Int32.toInt (q.1 24 0) = 0 by omega)) (fun r_233 q_234 h_235 => ?_)
      replace h_235 : (q_234 = q) ∧ (-1 ≤ Int32.toInt r_233 ∧ Int32.toInt r_233 ≤ 47) := h_235
      obtain ⟨i_236, i_237⟩ := h_235
      subst q_234
      refine dOk_eq (A := Int32.toInt (q.1 24 4)) (B := 2) rfl (by decide) (fun c_238z c_238 => ?_) (fun c_239z c_239 => ?_)
      · have f_241 : 0 ≤ Int32.toInt (q.1 24 7) ∧ Int32.toInt (q.1 24 7) ≤ 1001 := rg_24_7 hT
        refine dOk_lt (A := 1000) (B := Int32.toInt (q.1 24 7)) (by decide) rfl (fun c_242 => ?_) (fun c_243 => ?_)
        · unfold zX4_readPart_s24_78
          have f_244 : 0 ≤ Int32.toInt (q.1 24 3) ∧ Int32.toInt (q.1 24 3) ≤ 1 := rg_24_3 hT
          have f_245 : 0 ≤ Int32.toInt (q.1 24 9) ∧ Int32.toInt (q.1 24 9) ≤ 8 := rg_24_9 hT
          exact hn_190 q r_233 0 hT cFr.rf (show ¬ Int32.toInt (q.1 24 0) = 0 by omega) (show ¬ Int32.toInt (q.1 24 3) = 0 by omega) (show Int32.toInt (q.1 24 9) = Int32.toInt (q.1 24 9) by omega) (show ((0 : Int) = 1 ∧ Int32.toInt (q.1 24 7) ≤ 1000) ∨ (0 : Int) = 0 by omega) (show -1 ≤ Int32.toInt r_233 by omega) (show Int32.toInt r_233 ≤ 47 by omega)
        · have f_246 : 0 ≤ Int32.toInt (q.1 24 3) ∧ Int32.toInt (q.1 24 3) ≤ 1 := rg_24_3 hT
          have f_247 : 0 ≤ Int32.toInt (q.1 24 9) ∧ Int32.toInt (q.1 24 9) ≤ 8 := rg_24_9 hT
          exact hn_190 q r_233 1 hT cFr.rf (show ¬ Int32.toInt (q.1 24 0) = 0 by omega) (show ¬ Int32.toInt (q.1 24 3) = 0 by omega) (show Int32.toInt (q.1 24 9) = Int32.toInt (q.1 24 9) by omega) (show ((1 : Int) = 1 ∧ Int32.toInt (q.1 24 7) ≤ 1000) ∨ (1 : Int) = 0 by omega) (show -1 ≤ Int32.toInt r_233 by omega) (show Int32.toInt r_233 ≤ 47 by omega)
      · unfold zX4_readPart_s24_78
        have f_248 : 0 ≤ Int32.toInt (q.1 24 3) ∧ Int32.toInt (q.1 24 3) ≤ 1 := rg_24_3 hT
        have f_249 : 0 ≤ Int32.toInt (q.1 24 9) ∧ Int32.toInt (q.1 24 9) ≤ 8 := rg_24_9 hT
        have f_250 : 0 ≤ Int32.toInt (q.1 24 7) ∧ Int32.toInt (q.1 24 7) ≤ 1001 := rg_24_7 hT
        exact hn_190 q r_233 0 hT cFr.rf (show ¬ Int32.toInt (q.1 24 0) = 0 by omega) (show ¬ Int32.toInt (q.1 24 3) = 0 by omega) (show Int32.toInt (q.1 24 9) = Int32.toInt (q.1 24 9) by omega) (show ((0 : Int) = 1 ∧ Int32.toInt (q.1 24 7) ≤ 1000) ∨ (0 : Int) = 0 by omega) (show -1 ≤ Int32.toInt r_233 by omega) (show Int32.toInt r_233 ≤ 47 by omega)
    · refine dOk_B (ok_X4_wordIn_s24_t2 q hT (show ¬ Int32.toInt (q.1 24 0) = 0 by omega)) (fun r_251 q_252 h_253 => ?_)
      replace h_253 : (q_252 = q) ∧ (-1 ≤ Int32.toInt r_251 ∧ Int32.toInt r_251 ≤ 35) := h_253
      obtain ⟨i_254, i_255⟩ := h_253
      subst q_252
      refine dOk_eq (A := Int32.toInt (q.1 24 4)) (B := 2) rfl (by decide) (fun c_256z c_256 => ?_) (fun c_257z c_257 => ?_)
      · have f_259 : 0 ≤ Int32.toInt (q.1 24 7) ∧ Int32.toInt (q.1 24 7) ≤ 1001 := rg_24_7 hT
        refine dOk_lt (A := 1000) (B := Int32.toInt (q.1 24 7)) (by decide) rfl (fun c_260 => ?_) (fun c_261 => ?_)
        · unfold zX4_readPart_s24_78
          have f_262 : 0 ≤ Int32.toInt (q.1 24 3) ∧ Int32.toInt (q.1 24 3) ≤ 1 := rg_24_3 hT
          have f_263 : 0 ≤ Int32.toInt (q.1 24 9) ∧ Int32.toInt (q.1 24 9) ≤ 8 := rg_24_9 hT
          exact hn_190 q r_251 0 hT cFr.rf (show ¬ Int32.toInt (q.1 24 0) = 0 by omega) (show ¬ Int32.toInt (q.1 24 3) = 0 by omega) (show Int32.toInt (q.1 24 9) = Int32.toInt (q.1 24 9) by omega) (show ((0 : Int) = 1 ∧ Int32.toInt (q.1 24 7) ≤ 1000) ∨ (0 : Int) = 0 by omega) (show -1 ≤ Int32.toInt r_251 by omega) (show Int32.toInt r_251 ≤ 47 by omega)
        · have f_264 : 0 ≤ Int32.toInt (q.1 24 3) ∧ Int32.toInt (q.1 24 3) ≤ 1 := rg_24_3 hT
          have f_265 : 0 ≤ Int32.toInt (q.1 24 9) ∧ Int32.toInt (q.1 24 9) ≤ 8 := rg_24_9 hT
          exact hn_190 q r_251 1 hT cFr.rf (show ¬ Int32.toInt (q.1 24 0) = 0 by omega) (show ¬ Int32.toInt (q.1 24 3) = 0 by omega) (show Int32.toInt (q.1 24 9) = Int32.toInt (q.1 24 9) by omega) (show ((1 : Int) = 1 ∧ Int32.toInt (q.1 24 7) ≤ 1000) ∨ (1 : Int) = 0 by omega) (show -1 ≤ Int32.toInt r_251 by omega) (show Int32.toInt r_251 ≤ 47 by omega)
      · unfold zX4_readPart_s24_78
        have f_266 : 0 ≤ Int32.toInt (q.1 24 3) ∧ Int32.toInt (q.1 24 3) ≤ 1 := rg_24_3 hT
        have f_267 : 0 ≤ Int32.toInt (q.1 24 9) ∧ Int32.toInt (q.1 24 9) ≤ 8 := rg_24_9 hT
        have f_268 : 0 ≤ Int32.toInt (q.1 24 7) ∧ Int32.toInt (q.1 24 7) ≤ 1001 := rg_24_7 hT
        exact hn_190 q r_251 0 hT cFr.rf (show ¬ Int32.toInt (q.1 24 0) = 0 by omega) (show ¬ Int32.toInt (q.1 24 3) = 0 by omega) (show Int32.toInt (q.1 24 9) = Int32.toInt (q.1 24 9) by omega) (show ((0 : Int) = 1 ∧ Int32.toInt (q.1 24 7) ≤ 1000) ∨ (0 : Int) = 0 by omega) (show -1 ≤ Int32.toInt r_251 by omega) (show Int32.toInt r_251 ≤ 47 by omega)
  · refine dOk_B (ok_X4_openBracket_s24 q hT (show ¬ Int32.toInt (q.1 24 0) = 0 by omega)) (fun r_269 q_270 h_271 => ?_)
    replace h_271 : (TC q_270) ∧ (cFr [] [(24, 4), (24, 5), (24, 6), (24, 7), (24, 9), (24, 10)] q q_270) ∧ ((Int32.toInt r_269 = 1 ∧ Int32.toInt (q_270.1 24 9) = Int32.toInt (q.1 24 9) + 1 ∧ Int32.toInt (q.1 24 9) ≤ 7) ∨ (Int32.toInt r_269 = 0 ∧ Int32.toInt (q_270.1 24 9) = Int32.toInt (q.1 24 9))) := h_271
    obtain ⟨i_272, i_273, i_274⟩ := h_271
    have hFq_270 : cFr [31] [(24, 4), (24, 5), (24, 6), (24, 7), (24, 8), (24, 9), (24, 10), (25, 7)] q q_270 := (cFr.rf (q := q)).t i_273 (by decide) (by decide)
    have f_275 : 0 ≤ Int32.toInt (q_270.1 24 9) ∧ Int32.toInt (q_270.1 24 9) ≤ 8 := rg_24_9 i_272
    have f_276 : 0 ≤ Int32.toInt (q.1 24 9) ∧ Int32.toInt (q.1 24 9) ≤ 8 := rg_24_9 hT
    refine dOk_eq (A := Int32.toInt r_269) (B := 0) rfl (by decide) (fun c_277z c_277 => ?_) (fun c_278z c_278 => ?_)
    · unfold zX4_readPart_s24_36
      exact dOk_some (show (TC q_270) ∧ (cFr [31] [(24, 4), (24, 5), (24, 6), (24, 7), (24, 8), (24, 9), (24, 10), (25, 7)] q q_270) ∧ (Int32.toInt (q_270.1 24 9) = Int32.toInt (q.1 24 9)) from ⟨i_272, hFq_270, by omega⟩)
    · have f_280 : 0 ≤ Int32.toInt (q_270.1 24 0) ∧ Int32.toInt (q_270.1 24 0) ≤ 1 := rg_24_0 i_272
      have w_281 : Int32.toInt (q_270.1 24 0) = Int32.toInt (q.1 24 0) := by rw [i_273.1 24 0 (by decide) (by decide)]
      have f_282 : 0 ≤ Int32.toInt (q_270.1 24 3) ∧ Int32.toInt (q_270.1 24 3) ≤ 1 := rg_24_3 i_272
      have f_283 : 0 ≤ Int32.toInt (q.1 24 3) ∧ Int32.toInt (q.1 24 3) ≤ 1 := rg_24_3 hT
      have w_284 : Int32.toInt (q_270.1 24 3) = Int32.toInt (q.1 24 3) := by rw [i_273.1 24 3 (by decide) (by decide)]
      refine dOk_V (hkS q_270 i_272 (show ¬ Int32.toInt (q_270.1 24 0) = 0 by omega) (show ¬ Int32.toInt (q_270.1 24 3) = 0 by omega) (show 9 - Int32.toInt (q_270.1 24 9) ≤ (n : Int) by omega)) (fun q_285 h_286 => ?_)
      replace h_286 : (TC q_285) ∧ (cFr [31] [(24, 4), (24, 5), (24, 6), (24, 7), (24, 8), (24, 9), (24, 10), (25, 7)] q_270 q_285) ∧ (Int32.toInt (q_285.1 24 9) = Int32.toInt (q_270.1 24 9)) := h_286
      obtain ⟨i_287, i_288, i_289⟩ := h_286
      have hFq_285 : cFr [31] [(24, 4), (24, 5), (24, 6), (24, 7), (24, 8), (24, 9), (24, 10), (25, 7)] q q_285 := hFq_270.t i_288 (by decide) (by decide)
      have f_290 : 0 ≤ Int32.toInt (q_285.1 24 9) ∧ Int32.toInt (q_285.1 24 9) ≤ 8 := rg_24_9 i_287
      refine dOk_L (fun q_291 eq_291 => ?_)
      try have t_292 : Int32.toInt (q_285.1 24 9 - 1) = Int32.toInt (q_285.1 24 9) - 1 := ti_sub rfl (by decide) (by omega) (by omega)
      have hTq_291 : TC q_291 := by rw [eq_291]; exact st_24_9 i_287 (show (0 : Int) ≤ Int32.toInt (q_285.1 24 9 - 1) by omega) (show Int32.toInt (q_285.1 24 9 - 1) ≤ (8 : Int) by omega)
      have hFq_291 : cFr [31] [(24, 4), (24, 5), (24, 6), (24, 7), (24, 8), (24, 9), (24, 10), (25, 7)] q q_291 := by rw [eq_291]; exact hFq_285.f (by decide)
      have f_293 : 0 ≤ Int32.toInt (q_291.1 24 0) ∧ Int32.toInt (q_291.1 24 0) ≤ 1 := rg_24_0 hTq_291
      have f_294 : 0 ≤ Int32.toInt (q_285.1 24 0) ∧ Int32.toInt (q_285.1 24 0) ≤ 1 := rg_24_0 i_287
      have w_295 : Int32.toInt (q_285.1 24 0) = Int32.toInt (q_270.1 24 0) := by rw [i_288.1 24 0 (by decide) (by decide)]
      have w_296 : Int32.toInt (q_291.1 24 0) = Int32.toInt (q_285.1 24 0) := by rw [eq_291, cui_n (by decide)]
      refine dOk_V (ok_X4_expectSign_s24 q_291 93 hTq_291 (show ¬ Int32.toInt (q_291.1 24 0) = 0 by omega)) (fun q_297 h_298 => ?_)
      replace h_298 : (TC q_297) ∧ (cFr [] [(24, 4), (24, 5), (24, 6), (24, 7), (24, 10)] q_291 q_297) := h_298
      obtain ⟨i_299, i_300⟩ := h_298
      have hFq_297 : cFr [31] [(24, 4), (24, 5), (24, 6), (24, 7), (24, 8), (24, 9), (24, 10), (25, 7)] q q_297 := hFq_291.t i_300 (by decide) (by decide)
      unfold zX4_readPart_s24_36
      have f_301 : 0 ≤ Int32.toInt (q_297.1 24 9) ∧ Int32.toInt (q_297.1 24 9) ≤ 8 := rg_24_9 i_299
      have f_302 : 0 ≤ Int32.toInt (q_291.1 24 9) ∧ Int32.toInt (q_291.1 24 9) ≤ 8 := rg_24_9 hTq_291
      have w_303 : Int32.toInt (q_291.1 24 9) = Int32.toInt (q_285.1 24 9 - 1) := by rw [eq_291, cui_e]
      have w_304 : Int32.toInt (q_297.1 24 9) = Int32.toInt (q_291.1 24 9) := by rw [i_300.1 24 9 (by decide) (by decide)]
      exact dOk_some (show (TC q_297) ∧ (cFr [31] [(24, 4), (24, 5), (24, 6), (24, 7), (24, 8), (24, 9), (24, 10), (25, 7)] q q_297) ∧ (Int32.toInt (q_297.1 24 9) = Int32.toInt (q.1 24 9)) from ⟨i_299, hFq_297, by omega⟩)
