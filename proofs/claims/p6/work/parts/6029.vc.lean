set_option maxHeartbeats 4000000 in
set_option maxRecDepth 100000 in
theorem ok_X4_readPlain_s24 (kT : dK → Option (dK)) (n : Nat) (hkT : ∀ q9 : dK, TC q9 → (¬ Int32.toInt (q9.1 24 0) = 0) → (¬ Int32.toInt (q9.1 24 3) = 0) → (9 - Int32.toInt (q9.1 24 9) ≤ (n : Int)) → dOk (kT q9) (fun (o : dK) => (TC o) ∧ (cFr [31] [(24, 4), (24, 5), (24, 6), (24, 7), (24, 8), (24, 9), (24, 10), (25, 7)] q9 o) ∧ (Int32.toInt (o.1 24 9) = Int32.toInt (q9.1 24 9)))) (q : dK) (hT : TC q) (hp0 : ¬ Int32.toInt (q.1 24 0) = 0) (hp1 : ¬ Int32.toInt (q.1 24 3) = 0) (hp2 : 9 - Int32.toInt (q.1 24 9) ≤ (n : Int) + 1) : dOk (zX4_readPlain_s24 kT q) (fun (o : dK) => (TC o) ∧ (cFr [31] [(24, 4), (24, 5), (24, 6), (24, 7), (24, 8), (24, 9), (24, 10), (25, 7)] q o) ∧ (Int32.toInt (o.1 24 9) = Int32.toInt (q.1 24 9))) := by
  unfold zX4_readPlain_s24
  have hn_3 : ∀ (q_1 : dK) (x1_2 : Int32), TC q_1 → cFr [31] [(24, 4), (24, 5), (24, 6), (24, 7), (24, 8), (24, 9), (24, 10), (25, 7)] q q_1 → (¬ Int32.toInt (q_1.1 24 0) = 0) → (¬ Int32.toInt (q_1.1 24 3) = 0) → (Int32.toInt (q_1.1 24 9) = Int32.toInt (q.1 24 9)) → dOk (zX4_readPlain_s24_128 kT q_1 x1_2) (fun (o : dK) => (TC o) ∧ (cFr [31] [(24, 4), (24, 5), (24, 6), (24, 7), (24, 8), (24, 9), (24, 10), (25, 7)] q o) ∧ (Int32.toInt (o.1 24 9) = Int32.toInt (q.1 24 9))) := by
    intro q_1 x1_2 hT_7 hF_8 b_4 b_5 b_6
    unfold zX4_readPlain_s24_128
    have f_9 : 0 ≤ Int32.toInt (q_1.1 24 0) ∧ Int32.toInt (q_1.1 24 0) ≤ 1 := rg_24_0 hT_7
    have f_10 : 0 ≤ Int32.toInt (q.1 24 0) ∧ Int32.toInt (q.1 24 0) ≤ 1 := rg_24_0 hT
    have w_11 : Int32.toInt (q_1.1 24 0) = Int32.toInt (q.1 24 0) := by rw [hF_8.1 24 0 (by decide) (by decide)]
    have f_12 : 0 ≤ Int32.toInt (q_1.1 24 3) ∧ Int32.toInt (q_1.1 24 3) ≤ 1 := rg_24_3 hT_7
    have f_13 : 0 ≤ Int32.toInt (q.1 24 3) ∧ Int32.toInt (q.1 24 3) ≤ 1 := rg_24_3 hT
    have w_14 : Int32.toInt (q_1.1 24 3) = Int32.toInt (q.1 24 3) := by rw [hF_8.1 24 3 (by decide) (by decide)]
    have f_15 : 0 ≤ Int32.toInt (q_1.1 24 9) ∧ Int32.toInt (q_1.1 24 9) ≤ 8 := rg_24_9 hT_7
    have f_16 : 0 ≤ Int32.toInt (q.1 24 9) ∧ Int32.toInt (q.1 24 9) ≤ 8 := rg_24_9 hT
    refine dOk_eq (A := Int32.toInt x1_2) (B := 0) rfl (by decide) (fun c_17z c_17 => ?_) (fun c_18z c_18 => ?_)
    · unfold zX4_readPlain_s24_142
      exact dOk_some (show (TC q_1) ∧ (cFr [31] [(24, 4), (24, 5), (24, 6), (24, 7), (24, 8), (24, 9), (24, 10), (25, 7)] q q_1) ∧ (Int32.toInt (q_1.1 24 9) = Int32.toInt (q.1 24 9)) from ⟨hT_7, hF_8, by omega⟩)
    · refine dOk_G (dnz_ok (show ¬ Int32.toInt (q_1.1 24 3) = 0 by omega)) ?_
      refine dOk_V (ok_X7_emit_s25 q_1 10 0 hT_7 (show 0 ≤ (10 : Int) ∧ (10 : Int) ≤ 12 by omega) (show 0 ≤ (0 : Int) ∧ (0 : Int) ≤ 2000 by omega)) (fun q_20 h_21 => ?_)
      replace h_21 : (TC q_20) ∧ (cFr [31] [(25, 7)] q_1 q_20) := h_21
      obtain ⟨i_22, i_23⟩ := h_21
      have hFq_20 : cFr [31] [(24, 4), (24, 5), (24, 6), (24, 7), (24, 8), (24, 9), (24, 10), (25, 7)] q q_20 := hF_8.t i_23 (by decide) (by decide)
      unfold zX4_readPlain_s24_142
      have f_24 : 0 ≤ Int32.toInt (q_20.1 24 9) ∧ Int32.toInt (q_20.1 24 9) ≤ 8 := rg_24_9 i_22
      have w_25 : Int32.toInt (q_20.1 24 9) = Int32.toInt (q_1.1 24 9) := by rw [i_23.1 24 9 (by decide) (by decide)]
      exact dOk_some (show (TC q_20) ∧ (cFr [31] [(24, 4), (24, 5), (24, 6), (24, 7), (24, 8), (24, 9), (24, 10), (25, 7)] q q_20) ∧ (Int32.toInt (q_20.1 24 9) = Int32.toInt (q.1 24 9)) from ⟨i_22, hFq_20, by omega⟩)
  have hn_28 : ∀ (q_26 : dK) (x1_27 : Int32), TC q_26 → cFr [31] [(24, 4), (24, 5), (24, 6), (24, 7), (24, 8), (24, 9), (24, 10), (25, 7)] q q_26 → (¬ Int32.toInt (q_26.1 24 0) = 0) → (¬ Int32.toInt (q_26.1 24 3) = 0) → (Int32.toInt (q_26.1 24 9) = Int32.toInt (q.1 24 9)) → dOk (zX4_readPlain_s24_41 kT q_26 x1_27) (fun (o : dK) => (TC o) ∧ (cFr [31] [(24, 4), (24, 5), (24, 6), (24, 7), (24, 8), (24, 9), (24, 10), (25, 7)] q o) ∧ (Int32.toInt (o.1 24 9) = Int32.toInt (q.1 24 9))) := by
    intro q_26 x1_27 hT_32 hF_33 b_29 b_30 b_31
    unfold zX4_readPlain_s24_41
    have f_34 : 0 ≤ Int32.toInt (q_26.1 24 0) ∧ Int32.toInt (q_26.1 24 0) ≤ 1 := rg_24_0 hT_32
    have f_35 : 0 ≤ Int32.toInt (q.1 24 0) ∧ Int32.toInt (q.1 24 0) ≤ 1 := rg_24_0 hT
    have w_36 : Int32.toInt (q_26.1 24 0) = Int32.toInt (q.1 24 0) := by rw [hF_33.1 24 0 (by decide) (by decide)]
    have f_37 : 0 ≤ Int32.toInt (q_26.1 24 3) ∧ Int32.toInt (q_26.1 24 3) ≤ 1 := rg_24_3 hT_32
    have f_38 : 0 ≤ Int32.toInt (q.1 24 3) ∧ Int32.toInt (q.1 24 3) ≤ 1 := rg_24_3 hT
    have w_39 : Int32.toInt (q_26.1 24 3) = Int32.toInt (q.1 24 3) := by rw [hF_33.1 24 3 (by decide) (by decide)]
    have f_40 : 0 ≤ Int32.toInt (q_26.1 24 9) ∧ Int32.toInt (q_26.1 24 9) ≤ 8 := rg_24_9 hT_32
    have f_41 : 0 ≤ Int32.toInt (q.1 24 9) ∧ Int32.toInt (q.1 24 9) ≤ 8 := rg_24_9 hT
    refine dOk_B (ok_X4_isSign_s24 q_26 40 hT_32 (show ¬ Int32.toInt (q_26.1 24 0) = 0 by omega)) (fun r_42 q_43 h_44 => ?_)
    replace h_44 : (q_43 = q_26) ∧ ((Int32.toInt r_42 = 0 ∨ Int32.toInt r_42 = 1)) := h_44
    obtain ⟨i_45, i_46⟩ := h_44
    subst q_43
    refine dOk_eq (A := Int32.toInt r_42) (B := 0) rfl (by decide) (fun c_47z c_47 => ?_) (fun c_48z c_48 => ?_)
    · refine dOk_V (ok_X4_readSum_s24 10 q_26 hT_32 (show ¬ Int32.toInt (q_26.1 24 0) = 0 by omega) (show ¬ Int32.toInt (q_26.1 24 3) = 0 by omega) (show 9 - Int32.toInt (q_26.1 24 9) ≤ (10 : Int) by omega)) (fun q_50 h_51 => ?_)
      replace h_51 : (TC q_50) ∧ (cFr [31] [(24, 4), (24, 5), (24, 6), (24, 7), (24, 8), (24, 9), (24, 10), (25, 7)] q_26 q_50) ∧ (Int32.toInt (q_50.1 24 9) = Int32.toInt (q_26.1 24 9)) := h_51
      obtain ⟨i_52, i_53, i_54⟩ := h_51
      have hFq_50 : cFr [31] [(24, 4), (24, 5), (24, 6), (24, 7), (24, 8), (24, 9), (24, 10), (25, 7)] q q_50 := hF_33.t i_53 (by decide) (by decide)
      have f_55 : 0 ≤ Int32.toInt (q_50.1 24 9) ∧ Int32.toInt (q_50.1 24 9) ≤ 8 := rg_24_9 i_52
      have f_56 : 0 ≤ Int32.toInt (q_50.1 24 0) ∧ Int32.toInt (q_50.1 24 0) ≤ 1 := rg_24_0 i_52
      have w_57 : Int32.toInt (q_50.1 24 0) = Int32.toInt (q_26.1 24 0) := by rw [i_53.1 24 0 (by decide) (by decide)]
      refine dOk_B (ok_X4_signIn_s24_t9 q_50 7 i_52 (show ¬ Int32.toInt (q_50.1 24 0) = 0 by omega) (show 0 ≤ (7 : Int) by omega) (show (7 : Int) ≤ 10 by omega)) (fun r_58 q_59 h_60 => ?_)
      replace h_60 : (q_59 = q_50) ∧ (-1 ≤ Int32.toInt r_58) ∧ (Int32.toInt r_58 ≤ (7 : Int) + 2) := h_60
      obtain ⟨i_61, i_62, i_63⟩ := h_60
      subst q_59
      refine dOk_eq (A := Int32.toInt (q_50.1 24 10)) (B := (-1)) rfl (by decide) (fun c_64z c_64 => ?_) (fun c_65z c_65 => ?_)
      · refine dOk_eq (A := Int32.toInt r_58) (B := (-1)) rfl (by decide) (fun c_67z c_67 => ?_) (fun c_68z c_68 => ?_)
        · unfold zX4_readPlain_s24_106
          refine dOk_V (ok_X4_fail_s24 q_50 i_52) (fun q_70 h_71 => ?_)
          replace h_71 : (TC q_70) ∧ (cFr [] [(24, 10)] q_50 q_70) := h_71
          obtain ⟨i_72, i_73⟩ := h_71
          have hFq_70 : cFr [31] [(24, 4), (24, 5), (24, 6), (24, 7), (24, 8), (24, 9), (24, 10), (25, 7)] q q_70 := hFq_50.t i_73 (by decide) (by decide)
          have f_74 : 0 ≤ Int32.toInt (q_70.1 24 9) ∧ Int32.toInt (q_70.1 24 9) ≤ 8 := rg_24_9 i_72
          have w_75 : Int32.toInt (q_70.1 24 9) = Int32.toInt (q_50.1 24 9) := by rw [i_73.1 24 9 (by decide) (by decide)]
          exact dOk_some (show (TC q_70) ∧ (cFr [31] [(24, 4), (24, 5), (24, 6), (24, 7), (24, 8), (24, 9), (24, 10), (25, 7)] q q_70) ∧ (Int32.toInt (q_70.1 24 9) = Int32.toInt (q.1 24 9)) from ⟨i_72, hFq_70, by omega⟩)
        · refine dOk_V (ok_X4_step_s24 q_50 i_52 (show ¬ Int32.toInt (q_50.1 24 0) = 0 by omega)) (fun q_76 h_77 => ?_)
          replace h_77 : (TC q_76) ∧ (cFr [] [(24, 4), (24, 5), (24, 6), (24, 7)] q_50 q_76) := h_77
          obtain ⟨i_78, i_79⟩ := h_77
          have hFq_76 : cFr [31] [(24, 4), (24, 5), (24, 6), (24, 7), (24, 8), (24, 9), (24, 10), (25, 7)] q q_76 := hFq_50.t i_79 (by decide) (by decide)
          have f_80 : 0 ≤ Int32.toInt (q_76.1 24 0) ∧ Int32.toInt (q_76.1 24 0) ≤ 1 := rg_24_0 i_78
          have w_81 : Int32.toInt (q_76.1 24 0) = Int32.toInt (q_50.1 24 0) := by rw [i_79.1 24 0 (by decide) (by decide)]
          have f_82 : 0 ≤ Int32.toInt (q_76.1 24 3) ∧ Int32.toInt (q_76.1 24 3) ≤ 1 := rg_24_3 i_78
          have f_83 : 0 ≤ Int32.toInt (q_50.1 24 3) ∧ Int32.toInt (q_50.1 24 3) ≤ 1 := rg_24_3 i_52
          have w_84 : Int32.toInt (q_50.1 24 3) = Int32.toInt (q_26.1 24 3) := by rw [i_53.1 24 3 (by decide) (by decide)]
          have w_85 : Int32.toInt (q_76.1 24 3) = Int32.toInt (q_50.1 24 3) := by rw [i_79.1 24 3 (by decide) (by decide)]
          have f_86 : 0 ≤ Int32.toInt (q_76.1 24 9) ∧ Int32.toInt (q_76.1 24 9) ≤ 8 := rg_24_9 i_78
          have w_87 : Int32.toInt (q_76.1 24 9) = Int32.toInt (q_50.1 24 9) := by rw [i_79.1 24 9 (by decide) (by decide)]
          refine dOk_V (ok_X4_readSum_s24 10 q_76 i_78 (show ¬ Int32.toInt (q_76.1 24 0) = 0 by omega) (show ¬ Int32.toInt (q_76.1 24 3) = 0 by omega) (show 9 - Int32.toInt (q_76.1 24 9) ≤ (10 : Int) by omega)) (fun q_88 h_89 => ?_)
          replace h_89 : (TC q_88) ∧ (cFr [31] [(24, 4), (24, 5), (24, 6), (24, 7), (24, 8), (24, 9), (24, 10), (25, 7)] q_76 q_88) ∧ (Int32.toInt (q_88.1 24 9) = Int32.toInt (q_76.1 24 9)) := h_89
          obtain ⟨i_90, i_91, i_92⟩ := h_89
          have hFq_88 : cFr [31] [(24, 4), (24, 5), (24, 6), (24, 7), (24, 8), (24, 9), (24, 10), (25, 7)] q q_88 := hFq_76.t i_91 (by decide) (by decide)
          have f_93 : 0 ≤ Int32.toInt (q_88.1 24 9) ∧ Int32.toInt (q_88.1 24 9) ≤ 8 := rg_24_9 i_90
          have f_94 : 0 ≤ Int32.toInt (q_88.1 24 3) ∧ Int32.toInt (q_88.1 24 3) ≤ 1 := rg_24_3 i_90
          have w_95 : Int32.toInt (q_88.1 24 3) = Int32.toInt (q_76.1 24 3) := by rw [i_91.1 24 3 (by decide) (by decide)]
          refine dOk_G (dnz_ok (show ¬ Int32.toInt (q_88.1 24 3) = 0 by omega)) ?_
          refine dOk_V (ok_X7_emit_s25 q_88 r_58 0 i_90 (show 0 ≤ Int32.toInt r_58 ∧ Int32.toInt r_58 ≤ 12 by omega) (show 0 ≤ (0 : Int) ∧ (0 : Int) ≤ 2000 by omega)) (fun q_96 h_97 => ?_)
          replace h_97 : (TC q_96) ∧ (cFr [31] [(25, 7)] q_88 q_96) := h_97
          obtain ⟨i_98, i_99⟩ := h_97
          have hFq_96 : cFr [31] [(24, 4), (24, 5), (24, 6), (24, 7), (24, 8), (24, 9), (24, 10), (25, 7)] q q_96 := hFq_88.t i_99 (by decide) (by decide)
          have f_100 : 0 ≤ Int32.toInt (q_96.1 24 0) ∧ Int32.toInt (q_96.1 24 0) ≤ 1 := rg_24_0 i_98
          have f_101 : 0 ≤ Int32.toInt (q_88.1 24 0) ∧ Int32.toInt (q_88.1 24 0) ≤ 1 := rg_24_0 i_90
          have w_102 : Int32.toInt (q_88.1 24 0) = Int32.toInt (q_76.1 24 0) := by rw [i_91.1 24 0 (by decide) (by decide)]
          have w_103 : Int32.toInt (q_96.1 24 0) = Int32.toInt (q_88.1 24 0) := by rw [i_99.1 24 0 (by decide) (by decide)]
          have f_104 : 0 ≤ Int32.toInt (q_96.1 24 3) ∧ Int32.toInt (q_96.1 24 3) ≤ 1 := rg_24_3 i_98
          have w_105 : Int32.toInt (q_96.1 24 3) = Int32.toInt (q_88.1 24 3) := by rw [i_99.1 24 3 (by decide) (by decide)]
          have f_106 : 0 ≤ Int32.toInt (q_96.1 24 9) ∧ Int32.toInt (q_96.1 24 9) ≤ 8 := rg_24_9 i_98
          have w_107 : Int32.toInt (q_96.1 24 9) = Int32.toInt (q_88.1 24 9) := by rw [i_99.1 24 9 (by decide) (by decide)]
          exact hn_3 q_96 x1_27 i_98 ((((((((((cFr.rf : cFr [31] [(24, 4), (24, 5), (24, 6), (24, 7), (24, 8), (24, 9), (24, 10), (25, 7)] q q).t hF_33 (by decide) (by decide)) : cFr [31] [(24, 4), (24, 5), (24, 6), (24, 7), (24, 8), (24, 9), (24, 10), (25, 7)] q q_26).t i_53 (by decide) (by decide)) : cFr [31] [(24, 4), (24, 5), (24, 6), (24, 7), (24, 8), (24, 9), (24, 10), (25, 7)] q q_50).t i_79 (by decide) (by decide)) : cFr [31] [(24, 4), (24, 5), (24, 6), (24, 7), (24, 8), (24, 9), (24, 10), (25, 7)] q q_76).t i_91 (by decide) (by decide)) : cFr [31] [(24, 4), (24, 5), (24, 6), (24, 7), (24, 8), (24, 9), (24, 10), (25, 7)] q q_88).t i_99 (by decide) (by decide)) (show ¬ Int32.toInt (q_96.1 24 0) = 0 by omega) (show ¬ Int32.toInt (q_96.1 24 3) = 0 by omega) (show Int32.toInt (q_96.1 24 9) = Int32.toInt (q.1 24 9) by omega)
      · unfold zX4_readPlain_s24_106
        refine dOk_V (ok_X4_fail_s24 q_50 i_52) (fun q_108 h_109 => ?_)
        replace h_109 : (TC q_108) ∧ (cFr [] [(24, 10)] q_50 q_108) := h_109
        obtain ⟨i_110, i_111⟩ := h_109
        have hFq_108 : cFr [31] [(24, 4), (24, 5), (24, 6), (24, 7), (24, 8), (24, 9), (24, 10), (25, 7)] q q_108 := hFq_50.t i_111 (by decide) (by decide)
        have f_112 : 0 ≤ Int32.toInt (q_108.1 24 9) ∧ Int32.toInt (q_108.1 24 9) ≤ 8 := rg_24_9 i_110
        have w_113 : Int32.toInt (q_108.1 24 9) = Int32.toInt (q_50.1 24 9) := by rw [i_111.1 24 9 (by decide) (by decide)]
        exact dOk_some (show (TC q_108) ∧ (cFr [31] [(24, 4), (24, 5), (24, 6), (24, 7), (24, 8), (24, 9), (24, 10), (25, 7)] q q_108) ∧ (Int32.toInt (q_108.1 24 9) = Int32.toInt (q.1 24 9)) from ⟨i_110, hFq_108, by omega⟩)
    · refine dOk_B (ok_X4_openBracket_s24 q_26 hT_32 (show ¬ Int32.toInt (q_26.1 24 0) = 0 by omega)) (fun r_114 q_115 h_116 => ?_)
      replace h_116 : (TC q_115) ∧ (cFr [] [(24, 4), (24, 5), (24, 6), (24, 7), (24, 9), (24, 10)] q_26 q_115) ∧ ((Int32.toInt r_114 = 1 ∧ Int32.toInt (q_115.1 24 9) = Int32.toInt (q_26.1 24 9) + 1 ∧ Int32.toInt (q_26.1 24 9) ≤ 7) ∨ (Int32.toInt r_114 = 0 ∧ Int32.toInt (q_115.1 24 9) = Int32.toInt (q_26.1 24 9))) := h_116
      obtain ⟨i_117, i_118, i_119⟩ := h_116
      have hFq_115 : cFr [31] [(24, 4), (24, 5), (24, 6), (24, 7), (24, 8), (24, 9), (24, 10), (25, 7)] q q_115 := hF_33.t i_118 (by decide) (by decide)
      have f_120 : 0 ≤ Int32.toInt (q_115.1 24 9) ∧ Int32.toInt (q_115.1 24 9) ≤ 8 := rg_24_9 i_117
      refine dOk_eq (A := Int32.toInt r_114) (B := 0) rfl (by decide) (fun c_121z c_121 => ?_) (fun c_122z c_122 => ?_)
      · have f_124 : 0 ≤ Int32.toInt (q_115.1 24 0) ∧ Int32.toInt (q_115.1 24 0) ≤ 1 := rg_24_0 i_117
        have w_125 : Int32.toInt (q_115.1 24 0) = Int32.toInt (q_26.1 24 0) := by rw [i_118.1 24 0 (by decide) (by decide)]
        have f_126 : 0 ≤ Int32.toInt (q_115.1 24 3) ∧ Int32.toInt (q_115.1 24 3) ≤ 1 := rg_24_3 i_117
        have w_127 : Int32.toInt (q_115.1 24 3) = Int32.toInt (q_26.1 24 3) := by rw [i_118.1 24 3 (by decide) (by decide)]
        exact hn_3 q_115 x1_27 i_117 ((((cFr.rf : cFr [31] [(24, 4), (24, 5), (24, 6), (24, 7), (24, 8), (24, 9), (24, 10), (25, 7)] q q).t hF_33 (by decide) (by decide)) : cFr [31] [(24, 4), (24, 5), (24, 6), (24, 7), (24, 8), (24, 9), (24, 10), (25, 7)] q q_26).t i_118 (by decide) (by decide)) (show ¬ Int32.toInt (q_115.1 24 0) = 0 by omega) (show ¬ Int32.toInt (q_115.1 24 3) = 0 by omega) (show Int32.toInt (q_115.1 24 9) = Int32.toInt (q.1 24 9) by omega)
      · have f_128 : 0 ≤ Int32.toInt (q_115.1 24 0) ∧ Int32.toInt (q_115.1 24 0) ≤ 1 := rg_24_0 i_117
        have w_129 : Int32.toInt (q_115.1 24 0) = Int32.toInt (q_26.1 24 0) := by rw [i_118.1 24 0 (by decide) (by decide)]
        have f_130 : 0 ≤ Int32.toInt (q_115.1 24 3) ∧ Int32.toInt (q_115.1 24 3) ≤ 1 := rg_24_3 i_117
        have w_131 : Int32.toInt (q_115.1 24 3) = Int32.toInt (q_26.1 24 3) := by rw [i_118.1 24 3 (by decide) (by decide)]
        refine dOk_V (hkT q_115 i_117 (show ¬ Int32.toInt (q_115.1 24 0) = 0 by omega) (show ¬ Int32.toInt (q_115.1 24 3) = 0 by omega) (show 9 - Int32.toInt (q_115.1 24 9) ≤ (n : Int) by omega)) (fun q_132 h_133 => ?_)
        replace h_133 : (TC q_132) ∧ (cFr [31] [(24, 4), (24, 5), (24, 6), (24, 7), (24, 8), (24, 9), (24, 10), (25, 7)] q_115 q_132) ∧ (Int32.toInt (q_132.1 24 9) = Int32.toInt (q_115.1 24 9)) := h_133
        obtain ⟨i_134, i_135, i_136⟩ := h_133
        have hFq_132 : cFr [31] [(24, 4), (24, 5), (24, 6), (24, 7), (24, 8), (24, 9), (24, 10), (25, 7)] q q_132 := hFq_115.t i_135 (by decide) (by decide)
        have f_137 : 0 ≤ Int32.toInt (q_132.1 24 9) ∧ Int32.toInt (q_132.1 24 9) ≤ 8 := rg_24_9 i_134
        refine dOk_L (fun q_138 eq_138 => ?_)
        try have t_139 : Int32.toInt (q_132.1 24 9 - 1) = Int32.toInt (q_132.1 24 9) - 1 := ti_sub rfl (by decide) (by omega) (by omega)
        have hTq_138 : TC q_138 := by rw [eq_138]; exact st_24_9 i_134 (show (0 : Int) ≤ Int32.toInt (q_132.1 24 9 - 1) by omega) (show Int32.toInt (q_132.1 24 9 - 1) ≤ (8 : Int) by omega)
        have hFq_138 : cFr [31] [(24, 4), (24, 5), (24, 6), (24, 7), (24, 8), (24, 9), (24, 10), (25, 7)] q q_138 := by rw [eq_138]; exact hFq_132.f (by decide)
        have f_140 : 0 ≤ Int32.toInt (q_138.1 24 0) ∧ Int32.toInt (q_138.1 24 0) ≤ 1 := rg_24_0 hTq_138
        have f_141 : 0 ≤ Int32.toInt (q_132.1 24 0) ∧ Int32.toInt (q_132.1 24 0) ≤ 1 := rg_24_0 i_134
        have w_142 : Int32.toInt (q_132.1 24 0) = Int32.toInt (q_115.1 24 0) := by rw [i_135.1 24 0 (by decide) (by decide)]
        have w_143 : Int32.toInt (q_138.1 24 0) = Int32.toInt (q_132.1 24 0) := by rw [eq_138, cui_n (by decide)]
        refine dOk_V (ok_X4_expectSign_s24 q_138 41 hTq_138 (show ¬ Int32.toInt (q_138.1 24 0) = 0 by omega)) (fun q_144 h_145 => ?_)
        replace h_145 : (TC q_144) ∧ (cFr [] [(24, 4), (24, 5), (24, 6), (24, 7), (24, 10)] q_138 q_144) := h_145
        obtain ⟨i_146, i_147⟩ := h_145
        have hFq_144 : cFr [31] [(24, 4), (24, 5), (24, 6), (24, 7), (24, 8), (24, 9), (24, 10), (25, 7)] q q_144 := hFq_138.t i_147 (by decide) (by decide)
        have f_148 : 0 ≤ Int32.toInt (q_144.1 24 0) ∧ Int32.toInt (q_144.1 24 0) ≤ 1 := rg_24_0 i_146
        have w_149 : Int32.toInt (q_144.1 24 0) = Int32.toInt (q_138.1 24 0) := by rw [i_147.1 24 0 (by decide) (by decide)]
        have f_150 : 0 ≤ Int32.toInt (q_144.1 24 3) ∧ Int32.toInt (q_144.1 24 3) ≤ 1 := rg_24_3 i_146
        have f_151 : 0 ≤ Int32.toInt (q_138.1 24 3) ∧ Int32.toInt (q_138.1 24 3) ≤ 1 := rg_24_3 hTq_138
        have f_152 : 0 ≤ Int32.toInt (q_132.1 24 3) ∧ Int32.toInt (q_132.1 24 3) ≤ 1 := rg_24_3 i_134
        have w_153 : Int32.toInt (q_132.1 24 3) = Int32.toInt (q_115.1 24 3) := by rw [i_135.1 24 3 (by decide) (by decide)]
        have w_154 : Int32.toInt (q_138.1 24 3) = Int32.toInt (q_132.1 24 3) := by rw [eq_138, cui_n (by decide)]
        have w_155 : Int32.toInt (q_144.1 24 3) = Int32.toInt (q_138.1 24 3) := by rw [i_147.1 24 3 (by decide) (by decide)]
        have f_156 : 0 ≤ Int32.toInt (q_144.1 24 9) ∧ Int32.toInt (q_144.1 24 9) ≤ 8 := rg_24_9 i_146
        have f_157 : 0 ≤ Int32.toInt (q_138.1 24 9) ∧ Int32.toInt (q_138.1 24 9) ≤ 8 := rg_24_9 hTq_138
        have w_158 : Int32.toInt (q_138.1 24 9) = Int32.toInt (q_132.1 24 9 - 1) := by rw [eq_138, cui_e]
        have w_159 : Int32.toInt (q_144.1 24 9) = Int32.toInt (q_138.1 24 9) := by rw [i_147.1 24 9 (by decide) (by decide)]
        exact hn_3 q_144 x1_27 i_146 (((by rw [eq_138]; exact (((((((cFr.rf : cFr [31] [(24, 4), (24, 5), (24, 6), (24, 7), (24, 8), (24, 9), (24, 10), (25, 7)] q q).t hF_33 (by decide) (by decide)) : cFr [31] [(24, 4), (24, 5), (24, 6), (24, 7), (24, 8), (24, 9), (24, 10), (25, 7)] q q_26).t i_118 (by decide) (by decide)) : cFr [31] [(24, 4), (24, 5), (24, 6), (24, 7), (24, 8), (24, 9), (24, 10), (25, 7)] q q_115).t i_135 (by decide) (by decide)) : cFr [31] [(24, 4), (24, 5), (24, 6), (24, 7), (24, 8), (24, 9), (24, 10), (25, 7)] q q_132).f (by decide)) : cFr [31] [(24, 4), (24, 5), (24, 6), (24, 7), (24, 8), (24, 9), (24, 10), (25, 7)] q q_138).t i_147 (by decide) (by decide)) (show ¬ Int32.toInt (q_144.1 24 0) = 0 by omega) (show ¬ Int32.toInt (q_144.1 24 3) = 0 by omega) (show Int32.toInt (q_144.1 24 9) = Int32.toInt (q.1 24 9) by omega)
  unfold zX4_readPlain_s24_4
  refine dFix_ok (fun (a : dK × Int32 × Int32) => (TC a.1) ∧ (cFr [] [(24, 4), (24, 5), (24, 6), (24, 7)] q a.1) ∧ (0 ≤ Int32.toInt a.2.2) ∧ (Int32.toInt a.2.2 ≤ 400) ∧ (Int32.toInt (a.1.1 24 9) = Int32.toInt (q.1 24 9))) (fun (a : dK × Int32 × Int32) => (400 - Int32.toInt a.2.2).toNat) ?_ _ ?_ _ (dF_gt ?_)
  · intro a ha k_161 hk_160
    obtain ⟨q_162, x1_163, x2_164⟩ := a
    replace ha : (TC q_162) ∧ (cFr [] [(24, 4), (24, 5), (24, 6), (24, 7)] q q_162) ∧ (0 ≤ Int32.toInt x2_164) ∧ (Int32.toInt x2_164 ≤ 400) ∧ (Int32.toInt (q_162.1 24 9) = Int32.toInt (q.1 24 9)) := ha
    obtain ⟨a_165, a_166, a_167, a_168, a_169⟩ := ha
    show dOk (zX4_readPlain_s24_4b kT (fun q x1 x2 => k_161 (q, x1, x2)) q_162 x1_163 x2_164) _
    unfold zX4_readPlain_s24_4b
    have hFq_162 : cFr [31] [(24, 4), (24, 5), (24, 6), (24, 7), (24, 8), (24, 9), (24, 10), (25, 7)] q q_162 := (cFr.rf (q := q)).t a_166 (by decide) (by decide)
    have f_170 : 0 ≤ Int32.toInt (q_162.1 24 9) ∧ Int32.toInt (q_162.1 24 9) ≤ 8 := rg_24_9 a_165
    have f_171 : 0 ≤ Int32.toInt (q.1 24 9) ∧ Int32.toInt (q.1 24 9) ≤ 8 := rg_24_9 hT
    have w_172 : Int32.toInt (q_162.1 24 9) = Int32.toInt (q.1 24 9) := by rw [a_166.1 24 9 (by decide) (by decide)]
    have f_173 : 0 ≤ Int32.toInt (q_162.1 24 1) ∧ Int32.toInt (q_162.1 24 1) ≤ 400 := rg_24_1 a_165
    have f_174 : 0 ≤ Int32.toInt (q.1 24 1) ∧ Int32.toInt (q.1 24 1) ≤ 400 := rg_24_1 hT
    have w_175 : Int32.toInt (q_162.1 24 1) = Int32.toInt (q.1 24 1) := by rw [a_166.1 24 1 (by decide) (by decide)]
    refine dOk_le (A := Int32.toInt (q_162.1 24 1)) (B := Int32.toInt x2_164) rfl rfl (fun c_176 => ?_) (fun c_177 => ?_)
    · have f_178 : 0 ≤ Int32.toInt (q_162.1 24 0) ∧ Int32.toInt (q_162.1 24 0) ≤ 1 := rg_24_0 a_165
      have f_179 : 0 ≤ Int32.toInt (q.1 24 0) ∧ Int32.toInt (q.1 24 0) ≤ 1 := rg_24_0 hT
      have w_180 : Int32.toInt (q_162.1 24 0) = Int32.toInt (q.1 24 0) := by rw [a_166.1 24 0 (by decide) (by decide)]
      have f_181 : 0 ≤ Int32.toInt (q_162.1 24 3) ∧ Int32.toInt (q_162.1 24 3) ≤ 1 := rg_24_3 a_165
      have f_182 : 0 ≤ Int32.toInt (q.1 24 3) ∧ Int32.toInt (q.1 24 3) ≤ 1 := rg_24_3 hT
      have w_183 : Int32.toInt (q_162.1 24 3) = Int32.toInt (q.1 24 3) := by rw [a_166.1 24 3 (by decide) (by decide)]
      exact hn_28 q_162 x1_163 a_165 ((cFr.rf : cFr [31] [(24, 4), (24, 5), (24, 6), (24, 7), (24, 8), (24, 9), (24, 10), (25, 7)] q q).t a_166 (by decide) (by decide)) (show ¬ Int32.toInt (q_162.1 24 0) = 0 by omega) (show ¬ Int32.toInt (q_162.1 24 3) = 0 by omega) (show Int32.toInt (q_162.1 24 9) = Int32.toInt (q.1 24 9) by omega)
    · have f_184 : 0 ≤ Int32.toInt (q_162.1 24 0) ∧ Int32.toInt (q_162.1 24 0) ≤ 1 := rg_24_0 a_165
      have f_185 : 0 ≤ Int32.toInt (q.1 24 0) ∧ Int32.toInt (q.1 24 0) ≤ 1 := rg_24_0 hT
      have w_186 : Int32.toInt (q_162.1 24 0) = Int32.toInt (q.1 24 0) := by rw [a_166.1 24 0 (by decide) (by decide)]
      refine dOk_B (ok_X4_isWord_s24_t8 q_162 a_165 (show ¬ Int32.toInt (q_162.1 24 0) = 0 by omega)) (fun r_187 q_188 h_189 => ?_)
      replace h_189 : (q_188 = q_162) ∧ ((Int32.toInt r_187 = 0 ∨ Int32.toInt r_187 = 1)) := h_189
      obtain ⟨i_190, i_191⟩ := h_189
      subst q_188
      refine dOk_eq (A := Int32.toInt r_187) (B := 0) rfl (by decide) (fun c_192z c_192 => ?_) (fun c_193z c_193 => ?_)
      · have f_195 : 0 ≤ Int32.toInt (q_162.1 24 3) ∧ Int32.toInt (q_162.1 24 3) ≤ 1 := rg_24_3 a_165
        have f_196 : 0 ≤ Int32.toInt (q.1 24 3) ∧ Int32.toInt (q.1 24 3) ≤ 1 := rg_24_3 hT
        have w_197 : Int32.toInt (q_162.1 24 3) = Int32.toInt (q.1 24 3) := by rw [a_166.1 24 3 (by decide) (by decide)]
        exact hn_28 q_162 x1_163 a_165 ((cFr.rf : cFr [31] [(24, 4), (24, 5), (24, 6), (24, 7), (24, 8), (24, 9), (24, 10), (25, 7)] q q).t a_166 (by decide) (by decide)) (show ¬ Int32.toInt (q_162.1 24 0) = 0 by omega) (show ¬ Int32.toInt (q_162.1 24 3) = 0 by omega) (show Int32.toInt (q_162.1 24 9) = Int32.toInt (q.1 24 9) by omega)
      · refine dOk_eq (A := Int32.toInt x1_163) (B := 0) rfl (by decide) (fun c_198z c_198 => ?_) (fun c_199z c_199 => ?_)
        · unfold zX4_readPlain_s24_30
          refine dOk_V (ok_X4_step_s24 q_162 a_165 (show ¬ Int32.toInt (q_162.1 24 0) = 0 by omega)) (fun q_201 h_202 => ?_)
          replace h_202 : (TC q_201) ∧ (cFr [] [(24, 4), (24, 5), (24, 6), (24, 7)] q_162 q_201) := h_202
          obtain ⟨i_203, i_204⟩ := h_202
          have hFq_201 : cFr [31] [(24, 4), (24, 5), (24, 6), (24, 7), (24, 8), (24, 9), (24, 10), (25, 7)] q q_201 := hFq_162.t i_204 (by decide) (by decide)
          try have t_205 : Int32.toInt (x2_164 + 1) = Int32.toInt x2_164 + 1 := ti_add rfl (by decide) (by omega) (by omega)
          have f_206 : 0 ≤ Int32.toInt (q_201.1 24 9) ∧ Int32.toInt (q_201.1 24 9) ≤ 8 := rg_24_9 i_203
          have w_207 : Int32.toInt (q_201.1 24 9) = Int32.toInt (q_162.1 24 9) := by rw [i_204.1 24 9 (by decide) (by decide)]
          exact hk_160 (q_201, 1, (x2_164 + 1)) (show (TC q_201) ∧ (cFr [] [(24, 4), (24, 5), (24, 6), (24, 7)] q q_201) ∧ (0 ≤ Int32.toInt (x2_164 + 1)) ∧ (Int32.toInt (x2_164 + 1) ≤ 400) ∧ (Int32.toInt (q_201.1 24 9) = Int32.toInt (q.1 24 9)) from ⟨i_203, ((((cFr.rf : cFr [] [(24, 4), (24, 5), (24, 6), (24, 7)] q q).t a_166 (by decide) (by decide)) : cFr [] [(24, 4), (24, 5), (24, 6), (24, 7)] q q_162).t i_204 (by decide) (by decide)), by omega, by omega, by omega⟩) (show (400 - Int32.toInt (x2_164 + 1)).toNat < (400 - Int32.toInt x2_164).toNat by omega)
        · unfold zX4_readPlain_s24_30
          refine dOk_V (ok_X4_step_s24 q_162 a_165 (show ¬ Int32.toInt (q_162.1 24 0) = 0 by omega)) (fun q_208 h_209 => ?_)
          replace h_209 : (TC q_208) ∧ (cFr [] [(24, 4), (24, 5), (24, 6), (24, 7)] q_162 q_208) := h_209
          obtain ⟨i_210, i_211⟩ := h_209
          have hFq_208 : cFr [31] [(24, 4), (24, 5), (24, 6), (24, 7), (24, 8), (24, 9), (24, 10), (25, 7)] q q_208 := hFq_162.t i_211 (by decide) (by decide)
          try have t_212 : Int32.toInt (x2_164 + 1) = Int32.toInt x2_164 + 1 := ti_add rfl (by decide) (by omega) (by omega)
          have f_213 : 0 ≤ Int32.toInt (q_208.1 24 9) ∧ Int32.toInt (q_208.1 24 9) ≤ 8 := rg_24_9 i_210
          have w_214 : Int32.toInt (q_208.1 24 9) = Int32.toInt (q_162.1 24 9) := by rw [i_211.1 24 9 (by decide) (by decide)]
          exact hk_160 (q_208, 0, (x2_164 + 1)) (show (TC q_208) ∧ (cFr [] [(24, 4), (24, 5), (24, 6), (24, 7)] q q_208) ∧ (0 ≤ Int32.toInt (x2_164 + 1)) ∧ (Int32.toInt (x2_164 + 1) ≤ 400) ∧ (Int32.toInt (q_208.1 24 9) = Int32.toInt (q.1 24 9)) from ⟨i_210, ((((cFr.rf : cFr [] [(24, 4), (24, 5), (24, 6), (24, 7)] q q).t a_166 (by decide) (by decide)) : cFr [] [(24, 4), (24, 5), (24, 6), (24, 7)] q q_162).t i_211 (by decide) (by decide)), by omega, by omega, by omega⟩) (show (400 - Int32.toInt (x2_164 + 1)).toNat < (400 - Int32.toInt x2_164).toNat by omega)
  · have f_215 : 0 ≤ Int32.toInt (q.1 24 9) ∧ Int32.toInt (q.1 24 9) ≤ 8 := rg_24_9 hT
    exact (show (TC q) ∧ (cFr [] [(24, 4), (24, 5), (24, 6), (24, 7)] q q) ∧ (0 ≤ (0 : Int)) ∧ ((0 : Int) ≤ 400) ∧ (Int32.toInt (q.1 24 9) = Int32.toInt (q.1 24 9)) from ⟨hT, cFr.rf, by omega, by omega, by omega⟩)
  · show (400 - (0 : Int)).toNat < 1000000000000
    omega

set_option maxHeartbeats 4000000 in
set_option maxRecDepth 100000 in
theorem ok_X4_readBoth_s24 (kT : dK → Option (dK)) (n : Nat) (hkT : ∀ q9 : dK, TC q9 → (¬ Int32.toInt (q9.1 24 0) = 0) → (¬ Int32.toInt (q9.1 24 3) = 0) → (9 - Int32.toInt (q9.1 24 9) ≤ (n : Int)) → dOk (kT q9) (fun (o : dK) => (TC o) ∧ (cFr [31] [(24, 4), (24, 5), (24, 6), (24, 7), (24, 8), (24, 9), (24, 10), (25, 7)] q9 o) ∧ (Int32.toInt (o.1 24 9) = Int32.toInt (q9.1 24 9)))) (q : dK) (hT : TC q) (hp0 : ¬ Int32.toInt (q.1 24 0) = 0) (hp1 : ¬ Int32.toInt (q.1 24 3) = 0) (hp2 : 9 - Int32.toInt (q.1 24 9) ≤ (n : Int) + 1) : dOk (zX4_readBoth_s24 kT q) (fun (o : dK) => (TC o) ∧ (cFr [31] [(24, 4), (24, 5), (24, 6), (24, 7), (24, 8), (24, 9), (24, 10), (25, 7)] q o) ∧ (Int32.toInt (o.1 24 9) = Int32.toInt (q.1 24 9))) := by
  unfold zX4_readBoth_s24
  have f_1 : 0 ≤ Int32.toInt (q.1 24 0) ∧ Int32.toInt (q.1 24 0) ≤ 1 := rg_24_0 hT
  have f_2 : 0 ≤ Int32.toInt (q.1 24 3) ∧ Int32.toInt (q.1 24 3) ≤ 1 := rg_24_3 hT
  have f_3 : 0 ≤ Int32.toInt (q.1 24 9) ∧ Int32.toInt (q.1 24 9) ≤ 8 := rg_24_9 hT
  refine dOk_V (ok_X4_readPlain_s24 kT n hkT q hT (show ¬ Int32.toInt (q.1 24 0) = 0 by omega) (show ¬ Int32.toInt (q.1 24 3) = 0 by omega) (show 9 - Int32.toInt (q.1 24 9) ≤ (n : Int) + 1 by omega)) (fun q_4 h_5 => ?_)
  replace h_5 : (TC q_4) ∧ (cFr [31] [(24, 4), (24, 5), (24, 6), (24, 7), (24, 8), (24, 9), (24, 10), (25, 7)] q q_4) ∧ (Int32.toInt (q_4.1 24 9) = Int32.toInt (q.1 24 9)) := h_5
  obtain ⟨i_6, i_7, i_8⟩ := h_5
  have hFq_4 : cFr [31] [(24, 4), (24, 5), (24, 6), (24, 7), (24, 8), (24, 9), (24, 10), (25, 7)] q q_4 := (cFr.rf (q := q)).t i_7 (by decide) (by decide)
  have f_9 : 0 ≤ Int32.toInt (q_4.1 24 9) ∧ Int32.toInt (q_4.1 24 9) ≤ 8 := rg_24_9 i_6
  unfold zX4_readBoth_s24_6
  refine dFix_ok (fun (a : dK × Int32) => (TC a.1) ∧ (cFr [31] [(24, 4), (24, 5), (24, 6), (24, 7), (24, 8), (24, 9), (24, 10), (25, 7)] q_4 a.1) ∧ (0 ≤ Int32.toInt a.2) ∧ (Int32.toInt a.2 ≤ 400) ∧ (Int32.toInt (a.1.1 24 9) = Int32.toInt (q_4.1 24 9))) (fun (a : dK × Int32) => (400 - Int32.toInt a.2).toNat) ?_ _ ?_ _ (dF_gt ?_)
  · intro a ha k_11 hk_10
    obtain ⟨q_12, x1_13⟩ := a
    replace ha : (TC q_12) ∧ (cFr [31] [(24, 4), (24, 5), (24, 6), (24, 7), (24, 8), (24, 9), (24, 10), (25, 7)] q_4 q_12) ∧ (0 ≤ Int32.toInt x1_13) ∧ (Int32.toInt x1_13 ≤ 400) ∧ (Int32.toInt (q_12.1 24 9) = Int32.toInt (q_4.1 24 9)) := ha
    obtain ⟨a_14, a_15, a_16, a_17, a_18⟩ := ha
    show dOk (zX4_readBoth_s24_6b kT (fun q x1 => k_11 (q, x1)) q_12 x1_13) _
    unfold zX4_readBoth_s24_6b
    have hFq_12 : cFr [31] [(24, 4), (24, 5), (24, 6), (24, 7), (24, 8), (24, 9), (24, 10), (25, 7)] q q_12 := hFq_4.t a_15 (by decide) (by decide)
    have f_19 : 0 ≤ Int32.toInt (q_12.1 24 9) ∧ Int32.toInt (q_12.1 24 9) ≤ 8 := rg_24_9 a_14
    have f_20 : 0 ≤ Int32.toInt (q_12.1 24 1) ∧ Int32.toInt (q_12.1 24 1) ≤ 400 := rg_24_1 a_14
    have f_21 : 0 ≤ Int32.toInt (q_4.1 24 1) ∧ Int32.toInt (q_4.1 24 1) ≤ 400 := rg_24_1 i_6
    have f_22 : 0 ≤ Int32.toInt (q.1 24 1) ∧ Int32.toInt (q.1 24 1) ≤ 400 := rg_24_1 hT
    have w_23 : Int32.toInt (q_4.1 24 1) = Int32.toInt (q.1 24 1) := by rw [i_7.1 24 1 (by decide) (by decide)]
    have w_24 : Int32.toInt (q_12.1 24 1) = Int32.toInt (q_4.1 24 1) := by rw [a_15.1 24 1 (by decide) (by decide)]
    refine dOk_le (A := Int32.toInt (q_12.1 24 1)) (B := Int32.toInt x1_13) rfl rfl (fun c_25 => ?_) (fun c_26 => ?_)
    · unfold zX4_readBoth_s24_73
      exact dOk_some (show (TC q_12) ∧ (cFr [31] [(24, 4), (24, 5), (24, 6), (24, 7), (24, 8), (24, 9), (24, 10), (25, 7)] q q_12) ∧ (Int32.toInt (q_12.1 24 9) = Int32.toInt (q.1 24 9)) from ⟨a_14, hFq_12, by omega⟩)
    · refine dOk_eq (A := Int32.toInt (q_12.1 24 10)) (B := (-1)) rfl (by decide) (fun c_27z c_27 => ?_) (fun c_28z c_28 => ?_)
      · have f_30 : 0 ≤ Int32.toInt (q_12.1 24 0) ∧ Int32.toInt (q_12.1 24 0) ≤ 1 := rg_24_0 a_14
        have f_31 : 0 ≤ Int32.toInt (q_4.1 24 0) ∧ Int32.toInt (q_4.1 24 0) ≤ 1 := rg_24_0 i_6
        have w_32 : Int32.toInt (q_4.1 24 0) = Int32.toInt (q.1 24 0) := by rw [i_7.1 24 0 (by decide) (by decide)]
        have w_33 : Int32.toInt (q_12.1 24 0) = Int32.toInt (q_4.1 24 0) := by rw [a_15.1 24 0 (by decide) (by decide)]
        refine dOk_B (ok_X4_isWord_s24_t10 q_12 a_14 (show ¬ Int32.toInt (q_12.1 24 0) = 0 by omega)) (fun r_34 q_35 h_36 => ?_)
        replace h_36 : (q_35 = q_12) ∧ ((Int32.toInt r_34 = 0 ∨ Int32.toInt r_34 = 1)) := h_36
        obtain ⟨i_37, i_38⟩ := h_36
        subst q_35
        refine dOk_eq (A := Int32.toInt r_34) (B := 0) rfl (by decide) (fun c_39z c_39 => ?_) (fun c_40z c_40 => ?_)
        · unfold zX4_readBoth_s24_73
          exact dOk_some (show (TC q_12) ∧ (cFr [31] [(24, 4), (24, 5), (24, 6), (24, 7), (24, 8), (24, 9), (24, 10), (25, 7)] q q_12) ∧ (Int32.toInt (q_12.1 24 9) = Int32.toInt (q.1 24 9)) from ⟨a_14, hFq_12, by omega⟩)
        · have f_42 : 0 ≤ Int32.toInt (q_12.1 24 3) ∧ Int32.toInt (q_12.1 24 3) ≤ 1 := rg_24_3 a_14
          have f_43 : 0 ≤ Int32.toInt (q_4.1 24 3) ∧ Int32.toInt (q_4.1 24 3) ≤ 1 := rg_24_3 i_6
          have w_44 : Int32.toInt (q_4.1 24 3) = Int32.toInt (q.1 24 3) := by rw [i_7.1 24 3 (by decide) (by decide)]
          have w_45 : Int32.toInt (q_12.1 24 3) = Int32.toInt (q_4.1 24 3) := by rw [a_15.1 24 3 (by decide) (by decide)]
          refine dOk_G (dnz_ok (show ¬ Int32.toInt (q_12.1 24 3) = 0 by omega)) ?_
          refine dOk_G (dnz_ok (show ¬ Int32.toInt (q_12.1 24 3) = 0 by omega)) ?_
          refine dOk_V (ok_X7_emit_s25 q_12 11 0 a_14 (show 0 ≤ (11 : Int) ∧ (11 : Int) ≤ 12 by omega) (show 0 ≤ (0 : Int) ∧ (0 : Int) ≤ 2000 by omega)) (fun q_46 h_47 => ?_)
          replace h_47 : (TC q_46) ∧ (cFr [31] [(25, 7)] q_12 q_46) := h_47
          obtain ⟨i_48, i_49⟩ := h_47
          have hFq_46 : cFr [31] [(24, 4), (24, 5), (24, 6), (24, 7), (24, 8), (24, 9), (24, 10), (25, 7)] q q_46 := hFq_12.t i_49 (by decide) (by decide)
          have f_50 : 0 ≤ Int32.toInt (q_46.1 24 0) ∧ Int32.toInt (q_46.1 24 0) ≤ 1 := rg_24_0 i_48
          have w_51 : Int32.toInt (q_46.1 24 0) = Int32.toInt (q_12.1 24 0) := by rw [i_49.1 24 0 (by decide) (by decide)]
          refine dOk_V (ok_X4_step_s24 q_46 i_48 (show ¬ Int32.toInt (q_46.1 24 0) = 0 by omega)) (fun q_52 h_53 => ?_)
          replace h_53 : (TC q_52) ∧ (cFr [] [(24, 4), (24, 5), (24, 6), (24, 7)] q_46 q_52) := h_53
          obtain ⟨i_54, i_55⟩ := h_53
          have hFq_52 : cFr [31] [(24, 4), (24, 5), (24, 6), (24, 7), (24, 8), (24, 9), (24, 10), (25, 7)] q q_52 := hFq_46.t i_55 (by decide) (by decide)
          have f_56 : 0 ≤ Int32.toInt (q_52.1 24 0) ∧ Int32.toInt (q_52.1 24 0) ≤ 1 := rg_24_0 i_54
          have w_57 : Int32.toInt (q_52.1 24 0) = Int32.toInt (q_46.1 24 0) := by rw [i_55.1 24 0 (by decide) (by decide)]
          have f_58 : 0 ≤ Int32.toInt (q_52.1 24 3) ∧ Int32.toInt (q_52.1 24 3) ≤ 1 := rg_24_3 i_54
          have f_59 : 0 ≤ Int32.toInt (q_46.1 24 3) ∧ Int32.toInt (q_46.1 24 3) ≤ 1 := rg_24_3 i_48
          have w_60 : Int32.toInt (q_46.1 24 3) = Int32.toInt (q_12.1 24 3) := by rw [i_49.1 24 3 (by decide) (by decide)]
          have w_61 : Int32.toInt (q_52.1 24 3) = Int32.toInt (q_46.1 24 3) := by rw [i_55.1 24 3 (by decide) (by decide)]
          have f_62 : 0 ≤ Int32.toInt (q_52.1 24 9) ∧ Int32.toInt (q_52.1 24 9) ≤ 8 := rg_24_9 i_54
          have f_63 : 0 ≤ Int32.toInt (q_46.1 24 9) ∧ Int32.toInt (q_46.1 24 9) ≤ 8 := rg_24_9 i_48
          have w_64 : Int32.toInt (q_46.1 24 9) = Int32.toInt (q_12.1 24 9) := by rw [i_49.1 24 9 (by decide) (by decide)]
          have w_65 : Int32.toInt (q_52.1 24 9) = Int32.toInt (q_46.1 24 9) := by rw [i_55.1 24 9 (by decide) (by decide)]
          refine dOk_V (ok_X4_readPlain_s24 kT n hkT q_52 i_54 (show ¬ Int32.toInt (q_52.1 24 0) = 0 by omega) (show ¬ Int32.toInt (q_52.1 24 3) = 0 by omega) (show 9 - Int32.toInt (q_52.1 24 9) ≤ (n : Int) + 1 by omega)) (fun q_66 h_67 => ?_)
          replace h_67 : (TC q_66) ∧ (cFr [31] [(24, 4), (24, 5), (24, 6), (24, 7), (24, 8), (24, 9), (24, 10), (25, 7)] q_52 q_66) ∧ (Int32.toInt (q_66.1 24 9) = Int32.toInt (q_52.1 24 9)) := h_67
          obtain ⟨i_68, i_69, i_70⟩ := h_67
          have hFq_66 : cFr [31] [(24, 4), (24, 5), (24, 6), (24, 7), (24, 8), (24, 9), (24, 10), (25, 7)] q q_66 := hFq_52.t i_69 (by decide) (by decide)
          have f_71 : 0 ≤ Int32.toInt (q_66.1 24 9) ∧ Int32.toInt (q_66.1 24 9) ≤ 8 := rg_24_9 i_68
          have f_72 : 0 ≤ Int32.toInt (q_66.1 24 3) ∧ Int32.toInt (q_66.1 24 3) ≤ 1 := rg_24_3 i_68
          have w_73 : Int32.toInt (q_66.1 24 3) = Int32.toInt (q_52.1 24 3) := by rw [i_69.1 24 3 (by decide) (by decide)]
          refine dOk_G (dnz_ok (show ¬ Int32.toInt (q_66.1 24 3) = 0 by omega)) ?_
          have f_74 : 0 ≤ Int32.toInt (q_12.1 25 7) ∧ Int32.toInt (q_12.1 25 7) ≤ 400 := rg_25_7 a_14
          refine dOk_V (ok_X7_leapHere_s25 q_66 11 (q_12.1 25 7) i_68 (show 0 ≤ (11 : Int) ∧ (11 : Int) ≤ 12 by omega)) (fun q_75 h_76 => ?_)
          replace h_76 : (TC q_75) ∧ (cFr [31] [] q_66 q_75) := h_76
          obtain ⟨i_77, i_78⟩ := h_76
          have hFq_75 : cFr [31] [(24, 4), (24, 5), (24, 6), (24, 7), (24, 8), (24, 9), (24, 10), (25, 7)] q q_75 := hFq_66.t i_78 (by decide) (by decide)
          try have t_79 : Int32.toInt (x1_13 + 1) = Int32.toInt x1_13 + 1 := ti_add rfl (by decide) (by omega) (by omega)
          have f_80 : 0 ≤ Int32.toInt (q_75.1 24 9) ∧ Int32.toInt (q_75.1 24 9) ≤ 8 := rg_24_9 i_77
          have w_81 : Int32.toInt (q_75.1 24 9) = Int32.toInt (q_66.1 24 9) := by rw [i_78.1 24 9 (by decide) (by decide)]
          exact hk_10 (q_75, (x1_13 + 1)) (show (TC q_75) ∧ (cFr [31] [(24, 4), (24, 5), (24, 6), (24, 7), (24, 8), (24, 9), (24, 10), (25, 7)] q_4 q_75) ∧ (0 ≤ Int32.toInt (x1_13 + 1)) ∧ (Int32.toInt (x1_13 + 1) ≤ 400) ∧ (Int32.toInt (q_75.1 24 9) = Int32.toInt (q_4.1 24 9)) from ⟨i_77, ((((((((((cFr.rf : cFr [31] [(24, 4), (24, 5), (24, 6), (24, 7), (24, 8), (24, 9), (24, 10), (25, 7)] q_4 q_4).t a_15 (by decide) (by decide)) : cFr [31] [(24, 4), (24, 5), (24, 6), (24, 7), (24, 8), (24, 9), (24, 10), (25, 7)] q_4 q_12).t i_49 (by decide) (by decide)) : cFr [31] [(24, 4), (24, 5), (24, 6), (24, 7), (24, 8), (24, 9), (24, 10), (25, 7)] q_4 q_46).t i_55 (by decide) (by decide)) : cFr [31] [(24, 4), (24, 5), (24, 6), (24, 7), (24, 8), (24, 9), (24, 10), (25, 7)] q_4 q_52).t i_69 (by decide) (by decide)) : cFr [31] [(24, 4), (24, 5), (24, 6), (24, 7), (24, 8), (24, 9), (24, 10), (25, 7)] q_4 q_66).t i_78 (by decide) (by decide)), by omega, by omega, by omega⟩) (show (400 - Int32.toInt (x1_13 + 1)).toNat < (400 - Int32.toInt x1_13).toNat by omega)
      · unfold zX4_readBoth_s24_73
        exact dOk_some (show (TC q_12) ∧ (cFr [31] [(24, 4), (24, 5), (24, 6), (24, 7), (24, 8), (24, 9), (24, 10), (25, 7)] q q_12) ∧ (Int32.toInt (q_12.1 24 9) = Int32.toInt (q.1 24 9)) from ⟨a_14, hFq_12, by omega⟩)
  · exact (show (TC q_4) ∧ (cFr [31] [(24, 4), (24, 5), (24, 6), (24, 7), (24, 8), (24, 9), (24, 10), (25, 7)] q_4 q_4) ∧ (0 ≤ (0 : Int)) ∧ ((0 : Int) ≤ 400) ∧ (Int32.toInt (q_4.1 24 9) = Int32.toInt (q_4.1 24 9)) from ⟨i_6, cFr.rf, by omega, by omega, by omega⟩)
  · show (400 - (0 : Int)).toNat < 1000000000000
    omega
