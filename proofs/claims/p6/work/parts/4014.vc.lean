set_option maxHeartbeats 4000000 in
set_option maxRecDepth 100000 in
theorem ok_row (q : dS) (hT : TS q) : dOk (zX10_row q) (fun (o : Int32 × dS) => (TS o.2) ∧ (dFr [1, 2] [0, 6, 13, 32] q o.2) ∧ (Int32.toInt (o.2.1 0 13) = 0) ∧ (Int32.toInt (o.2.1 2 30) = Int32.toInt (q.1 2 30)) ∧ (Int32.toInt (o.2.1 2 26) = Int32.toInt (q.1 2 26))) := by
  unfold zX10_row
  refine dOk_L (fun q_1 eq_1 => ?_)
  have hTq_1 : TS q_1 := by rw [eq_1]; exact ts_f hT (show 0 ≤ (0 : Int) by omega) (show (0 : Int) ≤ 400 by omega)
  have hFq_1 : dFr [1, 2] [0, 6, 13, 32] q q_1 := by rw [eq_1]; exact (dFr.rf (q := q)).f (by decide)
  have f_2 : 0 ≤ Int32.toInt (q.1 0 13) ∧ Int32.toInt (q.1 0 13) ≤ 400 := hT.1 0 13
  refine dOk_eq (A := Int32.toInt (q.1 0 13)) (B := 0) rfl (by decide) (fun c_3z c_3 => ?_) (fun c_4z c_4 => ?_)
  · refine dOk_B (ok_refuses q_1 (-6) hTq_1 (show (-6) ≤ (-6 : Int) by omega) (show (-6 : Int) ≤ 0 by omega)) (fun r_6 q_7 h_8 => ?_)
    replace h_8 : (TS q_7) ∧ (dFr [1] [0] q_1 q_7) ∧ (Int32.toInt r_6 = (-6 : Int)) := h_8
    obtain ⟨i_9, i_10, i_11⟩ := h_8
    have hFq_7 : dFr [1, 2] [0, 6, 13, 32] q q_7 := hFq_1.t i_10 (by decide) (by decide)
    have f_12 : 0 ≤ Int32.toInt (q_7.1 0 13) ∧ Int32.toInt (q_7.1 0 13) ≤ 400 := i_9.1 0 13
    have f_13 : 0 ≤ Int32.toInt (q_1.1 0 13) ∧ Int32.toInt (q_1.1 0 13) ≤ 400 := hTq_1.1 0 13
    have w_14 : Int32.toInt (q_1.1 0 13) = (0 : Int) := by rw [eq_1, dui_e]; decide
    have w_15 : Int32.toInt (q_7.1 0 13) = Int32.toInt (q_1.1 0 13) := by rw [i_10.2 13 (by decide)]
    have f_16 : 0 ≤ Int32.toInt (q_7.1 2 30) ∧ Int32.toInt (q_7.1 2 30) ≤ 6 := i_9.1 2 30
    have f_17 : 0 ≤ Int32.toInt (q_1.1 2 30) ∧ Int32.toInt (q_1.1 2 30) ≤ 6 := hTq_1.1 2 30
    have f_18 : 0 ≤ Int32.toInt (q.1 2 30) ∧ Int32.toInt (q.1 2 30) ≤ 6 := hT.1 2 30
    have w_19 : Int32.toInt (q_1.1 2 30) = Int32.toInt (q.1 2 30) := by rw [eq_1, dui_o (by decide)]
    have w_20 : Int32.toInt (q_7.1 2 30) = Int32.toInt (q_1.1 2 30) := by rw [i_10.1 2 (by decide) (by decide)]
    have f_21 : 0 ≤ Int32.toInt (q_7.1 2 26) ∧ Int32.toInt (q_7.1 2 26) ≤ 10 := i_9.1 2 26
    have f_22 : 0 ≤ Int32.toInt (q_1.1 2 26) ∧ Int32.toInt (q_1.1 2 26) ≤ 10 := hTq_1.1 2 26
    have f_23 : 0 ≤ Int32.toInt (q.1 2 26) ∧ Int32.toInt (q.1 2 26) ≤ 10 := hT.1 2 26
    have w_24 : Int32.toInt (q_1.1 2 26) = Int32.toInt (q.1 2 26) := by rw [eq_1, dui_o (by decide)]
    have w_25 : Int32.toInt (q_7.1 2 26) = Int32.toInt (q_1.1 2 26) := by rw [i_10.1 2 (by decide) (by decide)]
    exact dOk_some (show (TS q_7) ∧ (dFr [1, 2] [0, 6, 13, 32] q q_7) ∧ (Int32.toInt (q_7.1 0 13) = 0) ∧ (Int32.toInt (q_7.1 2 30) = Int32.toInt (q.1 2 30)) ∧ (Int32.toInt (q_7.1 2 26) = Int32.toInt (q.1 2 26)) from ⟨i_9, hFq_7, by omega, by omega, by omega⟩)
  · refine dOk_L (fun q_26 eq_26 => ?_)
    try have t_27 : Int32.toInt (q.1 0 13 - q.1 0 13 / 2 * 2) = Int32.toInt (q.1 0 13) % 2 := ti_rem rfl (by decide) (by omega) (by omega)
    have hTq_26 : TS q_26 := by rw [eq_26]; exact ts_f hTq_1 (ti_rg _).1 (ti_rg _).2
    have hFq_26 : dFr [1, 2] [0, 6, 13, 32] q q_26 := by rw [eq_26]; exact hFq_1.f (by decide)
    unfold zX10_row_32
    refine dFix_ok (fun (a : dS × Int32 × Int32 × Int32) => (TS a.1) ∧ (dFr [2] [6] q_26 a.1) ∧ (a.2.1 = (q.1 0 13)) ∧ (0 ≤ Int32.toInt a.2.2.2) ∧ (Int32.toInt a.2.2.2 ≤ 402) ∧ (Int32.toInt (a.1.1 2 30) = Int32.toInt (q_26.1 2 30)) ∧ (Int32.toInt (a.1.1 2 26) = Int32.toInt (q_26.1 2 26))) (fun (a : dS × Int32 × Int32 × Int32) => (402 - Int32.toInt a.2.2.2).toNat) ?_ _ ?_ _ (dF_gt ?_)
    · intro a ha k_29 hk_28
      obtain ⟨q_30, x1_31, x2_32, x3_33⟩ := a
      replace ha : (TS q_30) ∧ (dFr [2] [6] q_26 q_30) ∧ (x1_31 = (q.1 0 13)) ∧ (0 ≤ Int32.toInt x3_33) ∧ (Int32.toInt x3_33 ≤ 402) ∧ (Int32.toInt (q_30.1 2 30) = Int32.toInt (q_26.1 2 30)) ∧ (Int32.toInt (q_30.1 2 26) = Int32.toInt (q_26.1 2 26)) := ha
      obtain ⟨a_34, a_35, a_36, a_37, a_38, a_39, a_40⟩ := ha
      show dOk (zX10_row_32b  (fun q x1 x2 x3 => k_29 (q, x1, x2, x3)) q_30 x1_31 x2_32 x3_33) _
      unfold zX10_row_32b
      have hFq_30 : dFr [1, 2] [0, 6, 13, 32] q q_30 := hFq_26.t a_35 (by decide) (by decide)
      subst x1_31
      have f_41 : 0 ≤ Int32.toInt (q_30.1 2 30) ∧ Int32.toInt (q_30.1 2 30) ≤ 6 := a_34.1 2 30
      have f_42 : 0 ≤ Int32.toInt (q_26.1 2 30) ∧ Int32.toInt (q_26.1 2 30) ≤ 6 := hTq_26.1 2 30
      have f_43 : 0 ≤ Int32.toInt (q_1.1 2 30) ∧ Int32.toInt (q_1.1 2 30) ≤ 6 := hTq_1.1 2 30
      have f_44 : 0 ≤ Int32.toInt (q.1 2 30) ∧ Int32.toInt (q.1 2 30) ≤ 6 := hT.1 2 30
      have w_45 : Int32.toInt (q_1.1 2 30) = Int32.toInt (q.1 2 30) := by rw [eq_1, dui_o (by decide)]
      have w_46 : Int32.toInt (q_26.1 2 30) = Int32.toInt (q_1.1 2 30) := by rw [eq_26, dui_o (by decide)]
      have f_47 : 0 ≤ Int32.toInt (q_30.1 2 26) ∧ Int32.toInt (q_30.1 2 26) ≤ 10 := a_34.1 2 26
      have f_48 : 0 ≤ Int32.toInt (q_26.1 2 26) ∧ Int32.toInt (q_26.1 2 26) ≤ 10 := hTq_26.1 2 26
      have f_49 : 0 ≤ Int32.toInt (q_1.1 2 26) ∧ Int32.toInt (q_1.1 2 26) ≤ 10 := hTq_1.1 2 26
      have f_50 : 0 ≤ Int32.toInt (q.1 2 26) ∧ Int32.toInt (q.1 2 26) ≤ 10 := hT.1 2 26
      have w_51 : Int32.toInt (q_1.1 2 26) = Int32.toInt (q.1 2 26) := by rw [eq_1, dui_o (by decide)]
      have w_52 : Int32.toInt (q_26.1 2 26) = Int32.toInt (q_1.1 2 26) := by rw [eq_26, dui_o (by decide)]
      try have t_53 : Int32.toInt (x3_33 + 2) = Int32.toInt x3_33 + 2 := ti_add rfl (by decide) (by omega) (by omega)
      refine dOk_lt (A := Int32.toInt (q.1 0 13)) (B := Int32.toInt (x3_33 + 2)) rfl rfl (fun c_54 => ?_) (fun c_55 => ?_)
      · refine dOk_B (ok_settled q_30 x2_32 a_34) (fun r_56 q_57 h_58 => ?_)
        replace h_58 : (TS q_57) ∧ (dFr [] [0, 32] q_30 q_57) ∧ (Int32.toInt r_56 = Int32.toInt x2_32) := h_58
        obtain ⟨i_59, i_60, i_61⟩ := h_58
        have hFq_57 : dFr [1, 2] [0, 6, 13, 32] q q_57 := hFq_30.t i_60 (by decide) (by decide)
        have f_62 : 0 ≤ Int32.toInt (q_57.1 0 13) ∧ Int32.toInt (q_57.1 0 13) ≤ 400 := i_59.1 0 13
        have f_63 : 0 ≤ Int32.toInt (q_30.1 0 13) ∧ Int32.toInt (q_30.1 0 13) ≤ 400 := a_34.1 0 13
        have f_64 : 0 ≤ Int32.toInt (q_26.1 0 13) ∧ Int32.toInt (q_26.1 0 13) ≤ 400 := hTq_26.1 0 13
        have f_65 : 0 ≤ Int32.toInt (q_1.1 0 13) ∧ Int32.toInt (q_1.1 0 13) ≤ 400 := hTq_1.1 0 13
        have w_66 : Int32.toInt (q_1.1 0 13) = (0 : Int) := by rw [eq_1, dui_e]; decide
        have w_67 : Int32.toInt (q_26.1 0 13) = Int32.toInt (q_1.1 0 13) := by rw [eq_26, dui_n (by decide)]
        have w_68 : Int32.toInt (q_30.1 0 13) = Int32.toInt (q_26.1 0 13) := by rw [a_35.2 13 (by decide)]
        have w_69 : Int32.toInt (q_57.1 0 13) = Int32.toInt (q_30.1 0 13) := by rw [i_60.2 13 (by decide)]
        have f_70 : 0 ≤ Int32.toInt (q_57.1 2 30) ∧ Int32.toInt (q_57.1 2 30) ≤ 6 := i_59.1 2 30
        have w_71 : Int32.toInt (q_57.1 2 30) = Int32.toInt (q_30.1 2 30) := by rw [i_60.1 2 (by decide) (by decide)]
        have f_72 : 0 ≤ Int32.toInt (q_57.1 2 26) ∧ Int32.toInt (q_57.1 2 26) ≤ 10 := i_59.1 2 26
        have w_73 : Int32.toInt (q_57.1 2 26) = Int32.toInt (q_30.1 2 26) := by rw [i_60.1 2 (by decide) (by decide)]
        exact dOk_some (show (TS q_57) ∧ (dFr [1, 2] [0, 6, 13, 32] q q_57) ∧ (Int32.toInt (q_57.1 0 13) = 0) ∧ (Int32.toInt (q_57.1 2 30) = Int32.toInt (q.1 2 30)) ∧ (Int32.toInt (q_57.1 2 26) = Int32.toInt (q.1 2 26)) from ⟨i_59, hFq_57, by omega, by omega, by omega⟩)
      · refine dOk_B (ok_size q_30 a_34) (fun r_74 q_75 h_76 => ?_)
        replace h_76 : (q_75 = q_30) ∧ (Int32.toInt r_74 = Int32.toInt (q_30.1 2 29)) ∧ (0 ≤ Int32.toInt r_74 ∧ Int32.toInt r_74 ≤ 6) := h_76
        obtain ⟨i_77, i_78, i_79⟩ := h_76
        subst q_75
        have f_80 : 0 ≤ Int32.toInt (q_30.1 2 29) ∧ Int32.toInt (q_30.1 2 29) ≤ 6 := a_34.1 2 29
        refine dOk_le (A := 6) (B := Int32.toInt r_74) (by decide) rfl (fun c_81 => ?_) (fun c_82 => ?_)
        · unfold zX10_row_92
          unfold zX10_row_93
          refine dOk_eq (A := 0) (B := 0) (by decide) (by decide) (fun c_83z c_83 => ?_) (fun c_84z c_84 => ?_)
          · unfold zX10_row_118
            refine dOk_eq (A := 0) (B := 0) (by decide) (by decide) (fun c_86z c_86 => ?_) (fun c_87z c_87 => ?_)
            · unfold zX10_row_129
              refine dOk_eq (A := 0) (B := 0) (by decide) (by decide) (fun c_89z c_89 => ?_) (fun c_90z c_90 => ?_)
              · unfold zX10_row_146
                refine dOk_L (fun q_92 eq_92 => ?_)
                try have t_93 : Int32.toInt (q_30.1 0 6 + 1) = Int32.toInt (q_30.1 0 6) + 1 := ti_add rfl (by decide) (by omega) (by omega)
                have hTq_92 : TS q_92 := by rw [eq_92]; exact ts_f a_34 (ti_rg _).1 (ti_rg _).2
                have hFq_92 : dFr [1, 2] [0, 6, 13, 32] q q_92 := by rw [eq_92]; exact hFq_30.f (by decide)
                try have t_94 : Int32.toInt (x2_32 + 0) = Int32.toInt x2_32 + 0 := ti_add rfl (by decide) (by omega) (by omega)
                have f_95 : 0 ≤ Int32.toInt (q_92.1 2 30) ∧ Int32.toInt (q_92.1 2 30) ≤ 6 := hTq_92.1 2 30
                have w_96 : Int32.toInt (q_92.1 2 30) = Int32.toInt (q_30.1 2 30) := by rw [eq_92, dui_o (by decide)]
                have f_97 : 0 ≤ Int32.toInt (q_92.1 2 26) ∧ Int32.toInt (q_92.1 2 26) ≤ 10 := hTq_92.1 2 26
                have w_98 : Int32.toInt (q_92.1 2 26) = Int32.toInt (q_30.1 2 26) := by rw [eq_92, dui_o (by decide)]
                exact hk_28 (q_92, (q.1 0 13), (x2_32 + 0), (x3_33 + 2)) (show (TS q_92) ∧ (dFr [2] [6] q_26 q_92) ∧ ((q.1 0 13) = (q.1 0 13)) ∧ (0 ≤ Int32.toInt (x3_33 + 2)) ∧ (Int32.toInt (x3_33 + 2) ≤ 402) ∧ (Int32.toInt (q_92.1 2 30) = Int32.toInt (q_26.1 2 30)) ∧ (Int32.toInt (q_92.1 2 26) = Int32.toInt (q_26.1 2 26)) from ⟨hTq_92, (by rw [eq_92]; exact (((dFr.rf : dFr [2] [6] q_26 q_26).t a_35 (by decide) (by decide)) : dFr [2] [6] q_26 q_30).f (by decide)), rfl, by omega, by omega, by omega, by omega⟩) (show (402 - Int32.toInt (x3_33 + 2)).toNat < (402 - Int32.toInt x3_33).toNat by omega)
              · unfold zX10_row_146
                refine dOk_L (fun q_99 eq_99 => ?_)
                try have t_100 : Int32.toInt (q_30.1 0 6 + 0) = Int32.toInt (q_30.1 0 6) + 0 := ti_add rfl (by decide) (by omega) (by omega)
                have hTq_99 : TS q_99 := by rw [eq_99]; exact ts_f a_34 (ti_rg _).1 (ti_rg _).2
                have hFq_99 : dFr [1, 2] [0, 6, 13, 32] q q_99 := by rw [eq_99]; exact hFq_30.f (by decide)
                try have t_101 : Int32.toInt (x2_32 + 0) = Int32.toInt x2_32 + 0 := ti_add rfl (by decide) (by omega) (by omega)
                have f_102 : 0 ≤ Int32.toInt (q_99.1 2 30) ∧ Int32.toInt (q_99.1 2 30) ≤ 6 := hTq_99.1 2 30
                have w_103 : Int32.toInt (q_99.1 2 30) = Int32.toInt (q_30.1 2 30) := by rw [eq_99, dui_o (by decide)]
                have f_104 : 0 ≤ Int32.toInt (q_99.1 2 26) ∧ Int32.toInt (q_99.1 2 26) ≤ 10 := hTq_99.1 2 26
                have w_105 : Int32.toInt (q_99.1 2 26) = Int32.toInt (q_30.1 2 26) := by rw [eq_99, dui_o (by decide)]
                exact hk_28 (q_99, (q.1 0 13), (x2_32 + 0), (x3_33 + 2)) (show (TS q_99) ∧ (dFr [2] [6] q_26 q_99) ∧ ((q.1 0 13) = (q.1 0 13)) ∧ (0 ≤ Int32.toInt (x3_33 + 2)) ∧ (Int32.toInt (x3_33 + 2) ≤ 402) ∧ (Int32.toInt (q_99.1 2 30) = Int32.toInt (q_26.1 2 30)) ∧ (Int32.toInt (q_99.1 2 26) = Int32.toInt (q_26.1 2 26)) from ⟨hTq_99, (by rw [eq_99]; exact (((dFr.rf : dFr [2] [6] q_26 q_26).t a_35 (by decide) (by decide)) : dFr [2] [6] q_26 q_30).f (by decide)), rfl, by omega, by omega, by omega, by omega⟩) (show (402 - Int32.toInt (x3_33 + 2)).toNat < (402 - Int32.toInt x3_33).toNat by omega)
            · unfold zX10_row_129
              refine dOk_eq (A := 0) (B := 0) (by decide) (by decide) (fun c_106z c_106 => ?_) (fun c_107z c_107 => ?_)
              · unfold zX10_row_146
                refine dOk_L (fun q_109 eq_109 => ?_)
                try have t_110 : Int32.toInt (q_30.1 0 6 + 1) = Int32.toInt (q_30.1 0 6) + 1 := ti_add rfl (by decide) (by omega) (by omega)
                have hTq_109 : TS q_109 := by rw [eq_109]; exact ts_f a_34 (ti_rg _).1 (ti_rg _).2
                have hFq_109 : dFr [1, 2] [0, 6, 13, 32] q q_109 := by rw [eq_109]; exact hFq_30.f (by decide)
                try have t_111 : Int32.toInt (x2_32 + 1) = Int32.toInt x2_32 + 1 := ti_add rfl (by decide) (by omega) (by omega)
                have f_112 : 0 ≤ Int32.toInt (q_109.1 2 30) ∧ Int32.toInt (q_109.1 2 30) ≤ 6 := hTq_109.1 2 30
                have w_113 : Int32.toInt (q_109.1 2 30) = Int32.toInt (q_30.1 2 30) := by rw [eq_109, dui_o (by decide)]
                have f_114 : 0 ≤ Int32.toInt (q_109.1 2 26) ∧ Int32.toInt (q_109.1 2 26) ≤ 10 := hTq_109.1 2 26
                have w_115 : Int32.toInt (q_109.1 2 26) = Int32.toInt (q_30.1 2 26) := by rw [eq_109, dui_o (by decide)]
                exact hk_28 (q_109, (q.1 0 13), (x2_32 + 1), (x3_33 + 2)) (show (TS q_109) ∧ (dFr [2] [6] q_26 q_109) ∧ ((q.1 0 13) = (q.1 0 13)) ∧ (0 ≤ Int32.toInt (x3_33 + 2)) ∧ (Int32.toInt (x3_33 + 2) ≤ 402) ∧ (Int32.toInt (q_109.1 2 30) = Int32.toInt (q_26.1 2 30)) ∧ (Int32.toInt (q_109.1 2 26) = Int32.toInt (q_26.1 2 26)) from ⟨hTq_109, (by rw [eq_109]; exact (((dFr.rf : dFr [2] [6] q_26 q_26).t a_35 (by decide) (by decide)) : dFr [2] [6] q_26 q_30).f (by decide)), rfl, by omega, by omega, by omega, by omega⟩) (show (402 - Int32.toInt (x3_33 + 2)).toNat < (402 - Int32.toInt x3_33).toNat by omega)
              · unfold zX10_row_146
                refine dOk_L (fun q_116 eq_116 => ?_)
                try have t_117 : Int32.toInt (q_30.1 0 6 + 0) = Int32.toInt (q_30.1 0 6) + 0 := ti_add rfl (by decide) (by omega) (by omega)
                have hTq_116 : TS q_116 := by rw [eq_116]; exact ts_f a_34 (ti_rg _).1 (ti_rg _).2
                have hFq_116 : dFr [1, 2] [0, 6, 13, 32] q q_116 := by rw [eq_116]; exact hFq_30.f (by decide)
                try have t_118 : Int32.toInt (x2_32 + 1) = Int32.toInt x2_32 + 1 := ti_add rfl (by decide) (by omega) (by omega)
                have f_119 : 0 ≤ Int32.toInt (q_116.1 2 30) ∧ Int32.toInt (q_116.1 2 30) ≤ 6 := hTq_116.1 2 30
                have w_120 : Int32.toInt (q_116.1 2 30) = Int32.toInt (q_30.1 2 30) := by rw [eq_116, dui_o (by decide)]
                have f_121 : 0 ≤ Int32.toInt (q_116.1 2 26) ∧ Int32.toInt (q_116.1 2 26) ≤ 10 := hTq_116.1 2 26
                have w_122 : Int32.toInt (q_116.1 2 26) = Int32.toInt (q_30.1 2 26) := by rw [eq_116, dui_o (by decide)]
                exact hk_28 (q_116, (q.1 0 13), (x2_32 + 1), (x3_33 + 2)) (show (TS q_116) ∧ (dFr [2] [6] q_26 q_116) ∧ ((q.1 0 13) = (q.1 0 13)) ∧ (0 ≤ Int32.toInt (x3_33 + 2)) ∧ (Int32.toInt (x3_33 + 2) ≤ 402) ∧ (Int32.toInt (q_116.1 2 30) = Int32.toInt (q_26.1 2 30)) ∧ (Int32.toInt (q_116.1 2 26) = Int32.toInt (q_26.1 2 26)) from ⟨hTq_116, (by rw [eq_116]; exact (((dFr.rf : dFr [2] [6] q_26 q_26).t a_35 (by decide) (by decide)) : dFr [2] [6] q_26 q_30).f (by decide)), rfl, by omega, by omega, by omega, by omega⟩) (show (402 - Int32.toInt (x3_33 + 2)).toNat < (402 - Int32.toInt x3_33).toNat by omega)
          · refine dOk_G (dg_ok (show 0 ≤ Int32.toInt x3_33 by omega) (show Int32.toInt x3_33 < ((400 : Nat) : Int) by omega)) ?_
            have n_123 : ((Int32.toNatClampNeg x3_33 : Nat) : Int) = Int32.toInt x3_33 := cl_eq (by omega)
            refine dOk_L (fun v_124 ev_124 => ?_)
            try have t_125 : Int32.toInt (x3_33 + 1) = Int32.toInt x3_33 + 1 := ti_add rfl (by decide) (by omega) (by omega)
            refine dOk_G (dg_ok (show 0 ≤ Int32.toInt (x3_33 + 1) by omega) (show Int32.toInt (x3_33 + 1) < ((400 : Nat) : Int) by omega)) ?_
            have n_126 : ((Int32.toNatClampNeg (x3_33 + 1) : Nat) : Int) = Int32.toInt (x3_33 + 1) := cl_eq (by omega)
            refine dOk_L (fun v_127 ev_127 => ?_)
            refine dOk_V (ok_adds q_30 v_124 v_127 a_34 (show Int32.toInt (q_30.1 2 29) < 6 by omega) (show 0 ≤ Int32.toInt v_124 ∧ Int32.toInt v_124 ≤ 5 by omega) (show 0 ≤ Int32.toInt v_127 ∧ Int32.toInt v_127 ≤ 1 by omega)) (fun q_128 h_129 => ?_)
            replace h_129 : (TS q_128) ∧ (dFr [2] [] q_30 q_128) ∧ (Int32.toInt (q_128.1 2 29) = Int32.toInt (q_30.1 2 29) + 1) ∧ (Int32.toInt (q_128.1 2 30) = Int32.toInt (q_30.1 2 30)) ∧ (Int32.toInt (q_128.1 2 26) = Int32.toInt (q_30.1 2 26)) := h_129
            obtain ⟨i_130, i_131, i_132, i_133, i_134⟩ := h_129
            have hFq_128 : dFr [1, 2] [0, 6, 13, 32] q q_128 := hFq_30.t i_131 (by decide) (by decide)
            have f_135 : 0 ≤ Int32.toInt (q_128.1 2 29) ∧ Int32.toInt (q_128.1 2 29) ≤ 6 := i_130.1 2 29
            have f_136 : 0 ≤ Int32.toInt (q_128.1 2 30) ∧ Int32.toInt (q_128.1 2 30) ≤ 6 := i_130.1 2 30
            have f_137 : 0 ≤ Int32.toInt (q_128.1 2 26) ∧ Int32.toInt (q_128.1 2 26) ≤ 10 := i_130.1 2 26
            unfold zX10_row_118
            refine dOk_eq (A := 0) (B := 0) (by decide) (by decide) (fun c_138z c_138 => ?_) (fun c_139z c_139 => ?_)
            · unfold zX10_row_129
              refine dOk_eq (A := 0) (B := 0) (by decide) (by decide) (fun c_141z c_141 => ?_) (fun c_142z c_142 => ?_)
              · unfold zX10_row_146
                refine dOk_L (fun q_144 eq_144 => ?_)
                have w_145 : Int32.toInt (q_128.1 0 6) = Int32.toInt (q_30.1 0 6) := by rw [i_131.2 6 (by decide)]
                try have t_146 : Int32.toInt (q_128.1 0 6 + 1) = Int32.toInt (q_128.1 0 6) + 1 := ti_add rfl (by decide) (by omega) (by omega)
                have hTq_144 : TS q_144 := by rw [eq_144]; exact ts_f i_130 (ti_rg _).1 (ti_rg _).2
                have hFq_144 : dFr [1, 2] [0, 6, 13, 32] q q_144 := by rw [eq_144]; exact hFq_128.f (by decide)
                try have t_147 : Int32.toInt (x2_32 + 0) = Int32.toInt x2_32 + 0 := ti_add rfl (by decide) (by omega) (by omega)
                have f_148 : 0 ≤ Int32.toInt (q_144.1 2 30) ∧ Int32.toInt (q_144.1 2 30) ≤ 6 := hTq_144.1 2 30
                have w_149 : Int32.toInt (q_144.1 2 30) = Int32.toInt (q_128.1 2 30) := by rw [eq_144, dui_o (by decide)]
                have f_150 : 0 ≤ Int32.toInt (q_144.1 2 26) ∧ Int32.toInt (q_144.1 2 26) ≤ 10 := hTq_144.1 2 26
                have w_151 : Int32.toInt (q_144.1 2 26) = Int32.toInt (q_128.1 2 26) := by rw [eq_144, dui_o (by decide)]
                exact hk_28 (q_144, (q.1 0 13), (x2_32 + 0), (x3_33 + 2)) (show (TS q_144) ∧ (dFr [2] [6] q_26 q_144) ∧ ((q.1 0 13) = (q.1 0 13)) ∧ (0 ≤ Int32.toInt (x3_33 + 2)) ∧ (Int32.toInt (x3_33 + 2) ≤ 402) ∧ (Int32.toInt (q_144.1 2 30) = Int32.toInt (q_26.1 2 30)) ∧ (Int32.toInt (q_144.1 2 26) = Int32.toInt (q_26.1 2 26)) from ⟨hTq_144, (by rw [eq_144]; exact (((((dFr.rf : dFr [2] [6] q_26 q_26).t a_35 (by decide) (by decide)) : dFr [2] [6] q_26 q_30).t i_131 (by decide) (by decide)) : dFr [2] [6] q_26 q_128).f (by decide)), rfl, by omega, by omega, by omega, by omega⟩) (show (402 - Int32.toInt (x3_33 + 2)).toNat < (402 - Int32.toInt x3_33).toNat by omega)
              · unfold zX10_row_146
                refine dOk_L (fun q_152 eq_152 => ?_)
                have w_153 : Int32.toInt (q_128.1 0 6) = Int32.toInt (q_30.1 0 6) := by rw [i_131.2 6 (by decide)]
                try have t_154 : Int32.toInt (q_128.1 0 6 + 0) = Int32.toInt (q_128.1 0 6) + 0 := ti_add rfl (by decide) (by omega) (by omega)
                have hTq_152 : TS q_152 := by rw [eq_152]; exact ts_f i_130 (ti_rg _).1 (ti_rg _).2
                have hFq_152 : dFr [1, 2] [0, 6, 13, 32] q q_152 := by rw [eq_152]; exact hFq_128.f (by decide)
                try have t_155 : Int32.toInt (x2_32 + 0) = Int32.toInt x2_32 + 0 := ti_add rfl (by decide) (by omega) (by omega)
                have f_156 : 0 ≤ Int32.toInt (q_152.1 2 30) ∧ Int32.toInt (q_152.1 2 30) ≤ 6 := hTq_152.1 2 30
                have w_157 : Int32.toInt (q_152.1 2 30) = Int32.toInt (q_128.1 2 30) := by rw [eq_152, dui_o (by decide)]
                have f_158 : 0 ≤ Int32.toInt (q_152.1 2 26) ∧ Int32.toInt (q_152.1 2 26) ≤ 10 := hTq_152.1 2 26
                have w_159 : Int32.toInt (q_152.1 2 26) = Int32.toInt (q_128.1 2 26) := by rw [eq_152, dui_o (by decide)]
                exact hk_28 (q_152, (q.1 0 13), (x2_32 + 0), (x3_33 + 2)) (show (TS q_152) ∧ (dFr [2] [6] q_26 q_152) ∧ ((q.1 0 13) = (q.1 0 13)) ∧ (0 ≤ Int32.toInt (x3_33 + 2)) ∧ (Int32.toInt (x3_33 + 2) ≤ 402) ∧ (Int32.toInt (q_152.1 2 30) = Int32.toInt (q_26.1 2 30)) ∧ (Int32.toInt (q_152.1 2 26) = Int32.toInt (q_26.1 2 26)) from ⟨hTq_152, (by rw [eq_152]; exact (((((dFr.rf : dFr [2] [6] q_26 q_26).t a_35 (by decide) (by decide)) : dFr [2] [6] q_26 q_30).t i_131 (by decide) (by decide)) : dFr [2] [6] q_26 q_128).f (by decide)), rfl, by omega, by omega, by omega, by omega⟩) (show (402 - Int32.toInt (x3_33 + 2)).toNat < (402 - Int32.toInt x3_33).toNat by omega)
            · unfold zX10_row_129
              refine dOk_eq (A := 0) (B := 0) (by decide) (by decide) (fun c_160z c_160 => ?_) (fun c_161z c_161 => ?_)
              · unfold zX10_row_146
                refine dOk_L (fun q_163 eq_163 => ?_)
                have w_164 : Int32.toInt (q_128.1 0 6) = Int32.toInt (q_30.1 0 6) := by rw [i_131.2 6 (by decide)]
                try have t_165 : Int32.toInt (q_128.1 0 6 + 1) = Int32.toInt (q_128.1 0 6) + 1 := ti_add rfl (by decide) (by omega) (by omega)
                have hTq_163 : TS q_163 := by rw [eq_163]; exact ts_f i_130 (ti_rg _).1 (ti_rg _).2
                have hFq_163 : dFr [1, 2] [0, 6, 13, 32] q q_163 := by rw [eq_163]; exact hFq_128.f (by decide)
                try have t_166 : Int32.toInt (x2_32 + 1) = Int32.toInt x2_32 + 1 := ti_add rfl (by decide) (by omega) (by omega)
                have f_167 : 0 ≤ Int32.toInt (q_163.1 2 30) ∧ Int32.toInt (q_163.1 2 30) ≤ 6 := hTq_163.1 2 30
                have w_168 : Int32.toInt (q_163.1 2 30) = Int32.toInt (q_128.1 2 30) := by rw [eq_163, dui_o (by decide)]
                have f_169 : 0 ≤ Int32.toInt (q_163.1 2 26) ∧ Int32.toInt (q_163.1 2 26) ≤ 10 := hTq_163.1 2 26
                have w_170 : Int32.toInt (q_163.1 2 26) = Int32.toInt (q_128.1 2 26) := by rw [eq_163, dui_o (by decide)]
                exact hk_28 (q_163, (q.1 0 13), (x2_32 + 1), (x3_33 + 2)) (show (TS q_163) ∧ (dFr [2] [6] q_26 q_163) ∧ ((q.1 0 13) = (q.1 0 13)) ∧ (0 ≤ Int32.toInt (x3_33 + 2)) ∧ (Int32.toInt (x3_33 + 2) ≤ 402) ∧ (Int32.toInt (q_163.1 2 30) = Int32.toInt (q_26.1 2 30)) ∧ (Int32.toInt (q_163.1 2 26) = Int32.toInt (q_26.1 2 26)) from ⟨hTq_163, (by rw [eq_163]; exact (((((dFr.rf : dFr [2] [6] q_26 q_26).t a_35 (by decide) (by decide)) : dFr [2] [6] q_26 q_30).t i_131 (by decide) (by decide)) : dFr [2] [6] q_26 q_128).f (by decide)), rfl, by omega, by omega, by omega, by omega⟩) (show (402 - Int32.toInt (x3_33 + 2)).toNat < (402 - Int32.toInt x3_33).toNat by omega)
              · unfold zX10_row_146
                refine dOk_L (fun q_171 eq_171 => ?_)
                have w_172 : Int32.toInt (q_128.1 0 6) = Int32.toInt (q_30.1 0 6) := by rw [i_131.2 6 (by decide)]
                try have t_173 : Int32.toInt (q_128.1 0 6 + 0) = Int32.toInt (q_128.1 0 6) + 0 := ti_add rfl (by decide) (by omega) (by omega)
                have hTq_171 : TS q_171 := by rw [eq_171]; exact ts_f i_130 (ti_rg _).1 (ti_rg _).2
                have hFq_171 : dFr [1, 2] [0, 6, 13, 32] q q_171 := by rw [eq_171]; exact hFq_128.f (by decide)
                try have t_174 : Int32.toInt (x2_32 + 1) = Int32.toInt x2_32 + 1 := ti_add rfl (by decide) (by omega) (by omega)
                have f_175 : 0 ≤ Int32.toInt (q_171.1 2 30) ∧ Int32.toInt (q_171.1 2 30) ≤ 6 := hTq_171.1 2 30
                have w_176 : Int32.toInt (q_171.1 2 30) = Int32.toInt (q_128.1 2 30) := by rw [eq_171, dui_o (by decide)]
                have f_177 : 0 ≤ Int32.toInt (q_171.1 2 26) ∧ Int32.toInt (q_171.1 2 26) ≤ 10 := hTq_171.1 2 26
                have w_178 : Int32.toInt (q_171.1 2 26) = Int32.toInt (q_128.1 2 26) := by rw [eq_171, dui_o (by decide)]
                exact hk_28 (q_171, (q.1 0 13), (x2_32 + 1), (x3_33 + 2)) (show (TS q_171) ∧ (dFr [2] [6] q_26 q_171) ∧ ((q.1 0 13) = (q.1 0 13)) ∧ (0 ≤ Int32.toInt (x3_33 + 2)) ∧ (Int32.toInt (x3_33 + 2) ≤ 402) ∧ (Int32.toInt (q_171.1 2 30) = Int32.toInt (q_26.1 2 30)) ∧ (Int32.toInt (q_171.1 2 26) = Int32.toInt (q_26.1 2 26)) from ⟨hTq_171, (by rw [eq_171]; exact (((((dFr.rf : dFr [2] [6] q_26 q_26).t a_35 (by decide) (by decide)) : dFr [2] [6] q_26 q_30).t i_131 (by decide) (by decide)) : dFr [2] [6] q_26 q_128).f (by decide)), rfl, by omega, by omega, by omega, by omega⟩) (show (402 - Int32.toInt (x3_33 + 2)).toNat < (402 - Int32.toInt x3_33).toNat by omega)
        · refine dOk_G (dg_ok (show 0 ≤ Int32.toInt x3_33 by omega) (show Int32.toInt x3_33 < ((400 : Nat) : Int) by omega)) ?_
          have n_179 : ((Int32.toNatClampNeg x3_33 : Nat) : Int) = Int32.toInt x3_33 := cl_eq (by omega)
          refine dOk_L (fun v_180 ev_180 => ?_)
          refine dOk_V (ok_isRank v_180) (fun r_181 h_182 => ?_)
          replace h_182 : ((Int32.toInt r_181 = 1 ∧ 0 ≤ Int32.toInt v_180 ∧ Int32.toInt v_180 ≤ 5) ∨ (Int32.toInt r_181 = 0 ∧ (Int32.toInt v_180 < 0 ∨ 5 < Int32.toInt v_180))) := h_182
          have i_183 := h_182
          refine dOk_eq (A := Int32.toInt r_181) (B := 0) rfl (by decide) (fun c_184z c_184 => ?_) (fun c_185z c_185 => ?_)
          · unfold zX10_row_92
            unfold zX10_row_93
            refine dOk_eq (A := 0) (B := 0) (by decide) (by decide) (fun c_187z c_187 => ?_) (fun c_188z c_188 => ?_)
            · unfold zX10_row_118
              refine dOk_eq (A := 0) (B := 0) (by decide) (by decide) (fun c_190z c_190 => ?_) (fun c_191z c_191 => ?_)
              · unfold zX10_row_129
                refine dOk_eq (A := 0) (B := 0) (by decide) (by decide) (fun c_193z c_193 => ?_) (fun c_194z c_194 => ?_)
                · unfold zX10_row_146
                  refine dOk_L (fun q_196 eq_196 => ?_)
                  try have t_197 : Int32.toInt (q_30.1 0 6 + 1) = Int32.toInt (q_30.1 0 6) + 1 := ti_add rfl (by decide) (by omega) (by omega)
                  have hTq_196 : TS q_196 := by rw [eq_196]; exact ts_f a_34 (ti_rg _).1 (ti_rg _).2
                  have hFq_196 : dFr [1, 2] [0, 6, 13, 32] q q_196 := by rw [eq_196]; exact hFq_30.f (by decide)
                  try have t_198 : Int32.toInt (x2_32 + 0) = Int32.toInt x2_32 + 0 := ti_add rfl (by decide) (by omega) (by omega)
                  have f_199 : 0 ≤ Int32.toInt (q_196.1 2 30) ∧ Int32.toInt (q_196.1 2 30) ≤ 6 := hTq_196.1 2 30
                  have w_200 : Int32.toInt (q_196.1 2 30) = Int32.toInt (q_30.1 2 30) := by rw [eq_196, dui_o (by decide)]
                  have f_201 : 0 ≤ Int32.toInt (q_196.1 2 26) ∧ Int32.toInt (q_196.1 2 26) ≤ 10 := hTq_196.1 2 26
                  have w_202 : Int32.toInt (q_196.1 2 26) = Int32.toInt (q_30.1 2 26) := by rw [eq_196, dui_o (by decide)]
                  exact hk_28 (q_196, (q.1 0 13), (x2_32 + 0), (x3_33 + 2)) (show (TS q_196) ∧ (dFr [2] [6] q_26 q_196) ∧ ((q.1 0 13) = (q.1 0 13)) ∧ (0 ≤ Int32.toInt (x3_33 + 2)) ∧ (Int32.toInt (x3_33 + 2) ≤ 402) ∧ (Int32.toInt (q_196.1 2 30) = Int32.toInt (q_26.1 2 30)) ∧ (Int32.toInt (q_196.1 2 26) = Int32.toInt (q_26.1 2 26)) from ⟨hTq_196, (by rw [eq_196]; exact (((dFr.rf : dFr [2] [6] q_26 q_26).t a_35 (by decide) (by decide)) : dFr [2] [6] q_26 q_30).f (by decide)), rfl, by omega, by omega, by omega, by omega⟩) (show (402 - Int32.toInt (x3_33 + 2)).toNat < (402 - Int32.toInt x3_33).toNat by omega)
                · unfold zX10_row_146
                  refine dOk_L (fun q_203 eq_203 => ?_)
                  try have t_204 : Int32.toInt (q_30.1 0 6 + 0) = Int32.toInt (q_30.1 0 6) + 0 := ti_add rfl (by decide) (by omega) (by omega)
                  have hTq_203 : TS q_203 := by rw [eq_203]; exact ts_f a_34 (ti_rg _).1 (ti_rg _).2
                  have hFq_203 : dFr [1, 2] [0, 6, 13, 32] q q_203 := by rw [eq_203]; exact hFq_30.f (by decide)
                  try have t_205 : Int32.toInt (x2_32 + 0) = Int32.toInt x2_32 + 0 := ti_add rfl (by decide) (by omega) (by omega)
                  have f_206 : 0 ≤ Int32.toInt (q_203.1 2 30) ∧ Int32.toInt (q_203.1 2 30) ≤ 6 := hTq_203.1 2 30
                  have w_207 : Int32.toInt (q_203.1 2 30) = Int32.toInt (q_30.1 2 30) := by rw [eq_203, dui_o (by decide)]
                  have f_208 : 0 ≤ Int32.toInt (q_203.1 2 26) ∧ Int32.toInt (q_203.1 2 26) ≤ 10 := hTq_203.1 2 26
                  have w_209 : Int32.toInt (q_203.1 2 26) = Int32.toInt (q_30.1 2 26) := by rw [eq_203, dui_o (by decide)]
                  exact hk_28 (q_203, (q.1 0 13), (x2_32 + 0), (x3_33 + 2)) (show (TS q_203) ∧ (dFr [2] [6] q_26 q_203) ∧ ((q.1 0 13) = (q.1 0 13)) ∧ (0 ≤ Int32.toInt (x3_33 + 2)) ∧ (Int32.toInt (x3_33 + 2) ≤ 402) ∧ (Int32.toInt (q_203.1 2 30) = Int32.toInt (q_26.1 2 30)) ∧ (Int32.toInt (q_203.1 2 26) = Int32.toInt (q_26.1 2 26)) from ⟨hTq_203, (by rw [eq_203]; exact (((dFr.rf : dFr [2] [6] q_26 q_26).t a_35 (by decide) (by decide)) : dFr [2] [6] q_26 q_30).f (by decide)), rfl, by omega, by omega, by omega, by omega⟩) (show (402 - Int32.toInt (x3_33 + 2)).toNat < (402 - Int32.toInt x3_33).toNat by omega)
              · unfold zX10_row_129
                refine dOk_eq (A := 0) (B := 0) (by decide) (by decide) (fun c_210z c_210 => ?_) (fun c_211z c_211 => ?_)
                · unfold zX10_row_146
                  refine dOk_L (fun q_213 eq_213 => ?_)
                  try have t_214 : Int32.toInt (q_30.1 0 6 + 1) = Int32.toInt (q_30.1 0 6) + 1 := ti_add rfl (by decide) (by omega) (by omega)
                  have hTq_213 : TS q_213 := by rw [eq_213]; exact ts_f a_34 (ti_rg _).1 (ti_rg _).2
                  have hFq_213 : dFr [1, 2] [0, 6, 13, 32] q q_213 := by rw [eq_213]; exact hFq_30.f (by decide)
                  try have t_215 : Int32.toInt (x2_32 + 1) = Int32.toInt x2_32 + 1 := ti_add rfl (by decide) (by omega) (by omega)
                  have f_216 : 0 ≤ Int32.toInt (q_213.1 2 30) ∧ Int32.toInt (q_213.1 2 30) ≤ 6 := hTq_213.1 2 30
                  have w_217 : Int32.toInt (q_213.1 2 30) = Int32.toInt (q_30.1 2 30) := by rw [eq_213, dui_o (by decide)]
                  have f_218 : 0 ≤ Int32.toInt (q_213.1 2 26) ∧ Int32.toInt (q_213.1 2 26) ≤ 10 := hTq_213.1 2 26
                  have w_219 : Int32.toInt (q_213.1 2 26) = Int32.toInt (q_30.1 2 26) := by rw [eq_213, dui_o (by decide)]
                  exact hk_28 (q_213, (q.1 0 13), (x2_32 + 1), (x3_33 + 2)) (show (TS q_213) ∧ (dFr [2] [6] q_26 q_213) ∧ ((q.1 0 13) = (q.1 0 13)) ∧ (0 ≤ Int32.toInt (x3_33 + 2)) ∧ (Int32.toInt (x3_33 + 2) ≤ 402) ∧ (Int32.toInt (q_213.1 2 30) = Int32.toInt (q_26.1 2 30)) ∧ (Int32.toInt (q_213.1 2 26) = Int32.toInt (q_26.1 2 26)) from ⟨hTq_213, (by rw [eq_213]; exact (((dFr.rf : dFr [2] [6] q_26 q_26).t a_35 (by decide) (by decide)) : dFr [2] [6] q_26 q_30).f (by decide)), rfl, by omega, by omega, by omega, by omega⟩) (show (402 - Int32.toInt (x3_33 + 2)).toNat < (402 - Int32.toInt x3_33).toNat by omega)
                · unfold zX10_row_146
                  refine dOk_L (fun q_220 eq_220 => ?_)
                  try have t_221 : Int32.toInt (q_30.1 0 6 + 0) = Int32.toInt (q_30.1 0 6) + 0 := ti_add rfl (by decide) (by omega) (by omega)
                  have hTq_220 : TS q_220 := by rw [eq_220]; exact ts_f a_34 (ti_rg _).1 (ti_rg _).2
                  have hFq_220 : dFr [1, 2] [0, 6, 13, 32] q q_220 := by rw [eq_220]; exact hFq_30.f (by decide)
                  try have t_222 : Int32.toInt (x2_32 + 1) = Int32.toInt x2_32 + 1 := ti_add rfl (by decide) (by omega) (by omega)
                  have f_223 : 0 ≤ Int32.toInt (q_220.1 2 30) ∧ Int32.toInt (q_220.1 2 30) ≤ 6 := hTq_220.1 2 30
                  have w_224 : Int32.toInt (q_220.1 2 30) = Int32.toInt (q_30.1 2 30) := by rw [eq_220, dui_o (by decide)]
                  have f_225 : 0 ≤ Int32.toInt (q_220.1 2 26) ∧ Int32.toInt (q_220.1 2 26) ≤ 10 := hTq_220.1 2 26
                  have w_226 : Int32.toInt (q_220.1 2 26) = Int32.toInt (q_30.1 2 26) := by rw [eq_220, dui_o (by decide)]
                  exact hk_28 (q_220, (q.1 0 13), (x2_32 + 1), (x3_33 + 2)) (show (TS q_220) ∧ (dFr [2] [6] q_26 q_220) ∧ ((q.1 0 13) = (q.1 0 13)) ∧ (0 ≤ Int32.toInt (x3_33 + 2)) ∧ (Int32.toInt (x3_33 + 2) ≤ 402) ∧ (Int32.toInt (q_220.1 2 30) = Int32.toInt (q_26.1 2 30)) ∧ (Int32.toInt (q_220.1 2 26) = Int32.toInt (q_26.1 2 26)) from ⟨hTq_220, (by rw [eq_220]; exact (((dFr.rf : dFr [2] [6] q_26 q_26).t a_35 (by decide) (by decide)) : dFr [2] [6] q_26 q_30).f (by decide)), rfl, by omega, by omega, by omega, by omega⟩) (show (402 - Int32.toInt (x3_33 + 2)).toNat < (402 - Int32.toInt x3_33).toNat by omega)
            · refine dOk_G (dg_ok (show 0 ≤ Int32.toInt x3_33 by omega) (show Int32.toInt x3_33 < ((400 : Nat) : Int) by omega)) ?_
              refine dOk_L (fun v_227 ev_227 => ?_)
              have w_228 : Int32.toInt v_227 = Int32.toInt v_180 := by rw [ev_227, ev_180]
              try have t_229 : Int32.toInt (x3_33 + 1) = Int32.toInt x3_33 + 1 := ti_add rfl (by decide) (by omega) (by omega)
              refine dOk_G (dg_ok (show 0 ≤ Int32.toInt (x3_33 + 1) by omega) (show Int32.toInt (x3_33 + 1) < ((400 : Nat) : Int) by omega)) ?_
              have n_230 : ((Int32.toNatClampNeg (x3_33 + 1) : Nat) : Int) = Int32.toInt (x3_33 + 1) := cl_eq (by omega)
              refine dOk_L (fun v_231 ev_231 => ?_)
              refine dOk_V (ok_adds q_30 v_227 v_231 a_34 (show Int32.toInt (q_30.1 2 29) < 6 by omega) (show 0 ≤ Int32.toInt v_227 ∧ Int32.toInt v_227 ≤ 5 by omega) (show 0 ≤ Int32.toInt v_231 ∧ Int32.toInt v_231 ≤ 1 by omega)) (fun q_232 h_233 => ?_)
              replace h_233 : (TS q_232) ∧ (dFr [2] [] q_30 q_232) ∧ (Int32.toInt (q_232.1 2 29) = Int32.toInt (q_30.1 2 29) + 1) ∧ (Int32.toInt (q_232.1 2 30) = Int32.toInt (q_30.1 2 30)) ∧ (Int32.toInt (q_232.1 2 26) = Int32.toInt (q_30.1 2 26)) := h_233
              obtain ⟨i_234, i_235, i_236, i_237, i_238⟩ := h_233
              have hFq_232 : dFr [1, 2] [0, 6, 13, 32] q q_232 := hFq_30.t i_235 (by decide) (by decide)
              have f_239 : 0 ≤ Int32.toInt (q_232.1 2 29) ∧ Int32.toInt (q_232.1 2 29) ≤ 6 := i_234.1 2 29
              have f_240 : 0 ≤ Int32.toInt (q_232.1 2 30) ∧ Int32.toInt (q_232.1 2 30) ≤ 6 := i_234.1 2 30
              have f_241 : 0 ≤ Int32.toInt (q_232.1 2 26) ∧ Int32.toInt (q_232.1 2 26) ≤ 10 := i_234.1 2 26
              unfold zX10_row_118
              refine dOk_eq (A := 0) (B := 0) (by decide) (by decide) (fun c_242z c_242 => ?_) (fun c_243z c_243 => ?_)
              · unfold zX10_row_129
                refine dOk_eq (A := 0) (B := 0) (by decide) (by decide) (fun c_245z c_245 => ?_) (fun c_246z c_246 => ?_)
                · unfold zX10_row_146
                  refine dOk_L (fun q_248 eq_248 => ?_)
                  have w_249 : Int32.toInt (q_232.1 0 6) = Int32.toInt (q_30.1 0 6) := by rw [i_235.2 6 (by decide)]
                  try have t_250 : Int32.toInt (q_232.1 0 6 + 1) = Int32.toInt (q_232.1 0 6) + 1 := ti_add rfl (by decide) (by omega) (by omega)
                  have hTq_248 : TS q_248 := by rw [eq_248]; exact ts_f i_234 (ti_rg _).1 (ti_rg _).2
                  have hFq_248 : dFr [1, 2] [0, 6, 13, 32] q q_248 := by rw [eq_248]; exact hFq_232.f (by decide)
                  try have t_251 : Int32.toInt (x2_32 + 0) = Int32.toInt x2_32 + 0 := ti_add rfl (by decide) (by omega) (by omega)
                  have f_252 : 0 ≤ Int32.toInt (q_248.1 2 30) ∧ Int32.toInt (q_248.1 2 30) ≤ 6 := hTq_248.1 2 30
                  have w_253 : Int32.toInt (q_248.1 2 30) = Int32.toInt (q_232.1 2 30) := by rw [eq_248, dui_o (by decide)]
                  have f_254 : 0 ≤ Int32.toInt (q_248.1 2 26) ∧ Int32.toInt (q_248.1 2 26) ≤ 10 := hTq_248.1 2 26
                  have w_255 : Int32.toInt (q_248.1 2 26) = Int32.toInt (q_232.1 2 26) := by rw [eq_248, dui_o (by decide)]
                  exact hk_28 (q_248, (q.1 0 13), (x2_32 + 0), (x3_33 + 2)) (show (TS q_248) ∧ (dFr [2] [6] q_26 q_248) ∧ ((q.1 0 13) = (q.1 0 13)) ∧ (0 ≤ Int32.toInt (x3_33 + 2)) ∧ (Int32.toInt (x3_33 + 2) ≤ 402) ∧ (Int32.toInt (q_248.1 2 30) = Int32.toInt (q_26.1 2 30)) ∧ (Int32.toInt (q_248.1 2 26) = Int32.toInt (q_26.1 2 26)) from ⟨hTq_248, (by rw [eq_248]; exact (((((dFr.rf : dFr [2] [6] q_26 q_26).t a_35 (by decide) (by decide)) : dFr [2] [6] q_26 q_30).t i_235 (by decide) (by decide)) : dFr [2] [6] q_26 q_232).f (by decide)), rfl, by omega, by omega, by omega, by omega⟩) (show (402 - Int32.toInt (x3_33 + 2)).toNat < (402 - Int32.toInt x3_33).toNat by omega)
                · unfold zX10_row_146
                  refine dOk_L (fun q_256 eq_256 => ?_)
                  have w_257 : Int32.toInt (q_232.1 0 6) = Int32.toInt (q_30.1 0 6) := by rw [i_235.2 6 (by decide)]
                  try have t_258 : Int32.toInt (q_232.1 0 6 + 0) = Int32.toInt (q_232.1 0 6) + 0 := ti_add rfl (by decide) (by omega) (by omega)
                  have hTq_256 : TS q_256 := by rw [eq_256]; exact ts_f i_234 (ti_rg _).1 (ti_rg _).2
                  have hFq_256 : dFr [1, 2] [0, 6, 13, 32] q q_256 := by rw [eq_256]; exact hFq_232.f (by decide)
                  try have t_259 : Int32.toInt (x2_32 + 0) = Int32.toInt x2_32 + 0 := ti_add rfl (by decide) (by omega) (by omega)
                  have f_260 : 0 ≤ Int32.toInt (q_256.1 2 30) ∧ Int32.toInt (q_256.1 2 30) ≤ 6 := hTq_256.1 2 30
                  have w_261 : Int32.toInt (q_256.1 2 30) = Int32.toInt (q_232.1 2 30) := by rw [eq_256, dui_o (by decide)]
                  have f_262 : 0 ≤ Int32.toInt (q_256.1 2 26) ∧ Int32.toInt (q_256.1 2 26) ≤ 10 := hTq_256.1 2 26
                  have w_263 : Int32.toInt (q_256.1 2 26) = Int32.toInt (q_232.1 2 26) := by rw [eq_256, dui_o (by decide)]
                  exact hk_28 (q_256, (q.1 0 13), (x2_32 + 0), (x3_33 + 2)) (show (TS q_256) ∧ (dFr [2] [6] q_26 q_256) ∧ ((q.1 0 13) = (q.1 0 13)) ∧ (0 ≤ Int32.toInt (x3_33 + 2)) ∧ (Int32.toInt (x3_33 + 2) ≤ 402) ∧ (Int32.toInt (q_256.1 2 30) = Int32.toInt (q_26.1 2 30)) ∧ (Int32.toInt (q_256.1 2 26) = Int32.toInt (q_26.1 2 26)) from ⟨hTq_256, (by rw [eq_256]; exact (((((dFr.rf : dFr [2] [6] q_26 q_26).t a_35 (by decide) (by decide)) : dFr [2] [6] q_26 q_30).t i_235 (by decide) (by decide)) : dFr [2] [6] q_26 q_232).f (by decide)), rfl, by omega, by omega, by omega, by omega⟩) (show (402 - Int32.toInt (x3_33 + 2)).toNat < (402 - Int32.toInt x3_33).toNat by omega)
              · unfold zX10_row_129
                refine dOk_eq (A := 0) (B := 0) (by decide) (by decide) (fun c_264z c_264 => ?_) (fun c_265z c_265 => ?_)
                · unfold zX10_row_146
                  refine dOk_L (fun q_267 eq_267 => ?_)
                  have w_268 : Int32.toInt (q_232.1 0 6) = Int32.toInt (q_30.1 0 6) := by rw [i_235.2 6 (by decide)]
                  try have t_269 : Int32.toInt (q_232.1 0 6 + 1) = Int32.toInt (q_232.1 0 6) + 1 := ti_add rfl (by decide) (by omega) (by omega)
                  have hTq_267 : TS q_267 := by rw [eq_267]; exact ts_f i_234 (ti_rg _).1 (ti_rg _).2
                  have hFq_267 : dFr [1, 2] [0, 6, 13, 32] q q_267 := by rw [eq_267]; exact hFq_232.f (by decide)
                  try have t_270 : Int32.toInt (x2_32 + 1) = Int32.toInt x2_32 + 1 := ti_add rfl (by decide) (by omega) (by omega)
                  have f_271 : 0 ≤ Int32.toInt (q_267.1 2 30) ∧ Int32.toInt (q_267.1 2 30) ≤ 6 := hTq_267.1 2 30
                  have w_272 : Int32.toInt (q_267.1 2 30) = Int32.toInt (q_232.1 2 30) := by rw [eq_267, dui_o (by decide)]
                  have f_273 : 0 ≤ Int32.toInt (q_267.1 2 26) ∧ Int32.toInt (q_267.1 2 26) ≤ 10 := hTq_267.1 2 26
                  have w_274 : Int32.toInt (q_267.1 2 26) = Int32.toInt (q_232.1 2 26) := by rw [eq_267, dui_o (by decide)]
                  exact hk_28 (q_267, (q.1 0 13), (x2_32 + 1), (x3_33 + 2)) (show (TS q_267) ∧ (dFr [2] [6] q_26 q_267) ∧ ((q.1 0 13) = (q.1 0 13)) ∧ (0 ≤ Int32.toInt (x3_33 + 2)) ∧ (Int32.toInt (x3_33 + 2) ≤ 402) ∧ (Int32.toInt (q_267.1 2 30) = Int32.toInt (q_26.1 2 30)) ∧ (Int32.toInt (q_267.1 2 26) = Int32.toInt (q_26.1 2 26)) from ⟨hTq_267, (by rw [eq_267]; exact (((((dFr.rf : dFr [2] [6] q_26 q_26).t a_35 (by decide) (by decide)) : dFr [2] [6] q_26 q_30).t i_235 (by decide) (by decide)) : dFr [2] [6] q_26 q_232).f (by decide)), rfl, by omega, by omega, by omega, by omega⟩) (show (402 - Int32.toInt (x3_33 + 2)).toNat < (402 - Int32.toInt x3_33).toNat by omega)
                · unfold zX10_row_146
                  refine dOk_L (fun q_275 eq_275 => ?_)
                  have w_276 : Int32.toInt (q_232.1 0 6) = Int32.toInt (q_30.1 0 6) := by rw [i_235.2 6 (by decide)]
                  try have t_277 : Int32.toInt (q_232.1 0 6 + 0) = Int32.toInt (q_232.1 0 6) + 0 := ti_add rfl (by decide) (by omega) (by omega)
                  have hTq_275 : TS q_275 := by rw [eq_275]; exact ts_f i_234 (ti_rg _).1 (ti_rg _).2
                  have hFq_275 : dFr [1, 2] [0, 6, 13, 32] q q_275 := by rw [eq_275]; exact hFq_232.f (by decide)
                  try have t_278 : Int32.toInt (x2_32 + 1) = Int32.toInt x2_32 + 1 := ti_add rfl (by decide) (by omega) (by omega)
                  have f_279 : 0 ≤ Int32.toInt (q_275.1 2 30) ∧ Int32.toInt (q_275.1 2 30) ≤ 6 := hTq_275.1 2 30
                  have w_280 : Int32.toInt (q_275.1 2 30) = Int32.toInt (q_232.1 2 30) := by rw [eq_275, dui_o (by decide)]
                  have f_281 : 0 ≤ Int32.toInt (q_275.1 2 26) ∧ Int32.toInt (q_275.1 2 26) ≤ 10 := hTq_275.1 2 26
                  have w_282 : Int32.toInt (q_275.1 2 26) = Int32.toInt (q_232.1 2 26) := by rw [eq_275, dui_o (by decide)]
                  exact hk_28 (q_275, (q.1 0 13), (x2_32 + 1), (x3_33 + 2)) (show (TS q_275) ∧ (dFr [2] [6] q_26 q_275) ∧ ((q.1 0 13) = (q.1 0 13)) ∧ (0 ≤ Int32.toInt (x3_33 + 2)) ∧ (Int32.toInt (x3_33 + 2) ≤ 402) ∧ (Int32.toInt (q_275.1 2 30) = Int32.toInt (q_26.1 2 30)) ∧ (Int32.toInt (q_275.1 2 26) = Int32.toInt (q_26.1 2 26)) from ⟨hTq_275, (by rw [eq_275]; exact (((((dFr.rf : dFr [2] [6] q_26 q_26).t a_35 (by decide) (by decide)) : dFr [2] [6] q_26 q_30).t i_235 (by decide) (by decide)) : dFr [2] [6] q_26 q_232).f (by decide)), rfl, by omega, by omega, by omega, by omega⟩) (show (402 - Int32.toInt (x3_33 + 2)).toNat < (402 - Int32.toInt x3_33).toNat by omega)
          · try have t_283 : Int32.toInt (x3_33 + 1) = Int32.toInt x3_33 + 1 := ti_add rfl (by decide) (by omega) (by omega)
            refine dOk_G (dg_ok (show 0 ≤ Int32.toInt (x3_33 + 1) by omega) (show Int32.toInt (x3_33 + 1) < ((400 : Nat) : Int) by omega)) ?_
            have n_284 : ((Int32.toNatClampNeg (x3_33 + 1) : Nat) : Int) = Int32.toInt (x3_33 + 1) := cl_eq (by omega)
            refine dOk_L (fun v_285 ev_285 => ?_)
            refine dOk_V (ok_isBit v_285) (fun r_286 h_287 => ?_)
            replace h_287 : ((Int32.toInt r_286 = 1 ∧ 0 ≤ Int32.toInt v_285 ∧ Int32.toInt v_285 ≤ 1) ∨ (Int32.toInt r_286 = 0 ∧ (Int32.toInt v_285 < 0 ∨ 1 < Int32.toInt v_285))) := h_287
            have i_288 := h_287
            refine dOk_eq (A := Int32.toInt r_286) (B := 0) rfl (by decide) (fun c_289z c_289 => ?_) (fun c_290z c_290 => ?_)
            · unfold zX10_row_92
              unfold zX10_row_93
              refine dOk_eq (A := 0) (B := 0) (by decide) (by decide) (fun c_292z c_292 => ?_) (fun c_293z c_293 => ?_)
              · unfold zX10_row_118
                refine dOk_eq (A := 0) (B := 0) (by decide) (by decide) (fun c_295z c_295 => ?_) (fun c_296z c_296 => ?_)
                · unfold zX10_row_129
                  refine dOk_eq (A := 0) (B := 0) (by decide) (by decide) (fun c_298z c_298 => ?_) (fun c_299z c_299 => ?_)
                  · unfold zX10_row_146
                    refine dOk_L (fun q_301 eq_301 => ?_)
                    try have t_302 : Int32.toInt (q_30.1 0 6 + 1) = Int32.toInt (q_30.1 0 6) + 1 := ti_add rfl (by decide) (by omega) (by omega)
                    have hTq_301 : TS q_301 := by rw [eq_301]; exact ts_f a_34 (ti_rg _).1 (ti_rg _).2
                    have hFq_301 : dFr [1, 2] [0, 6, 13, 32] q q_301 := by rw [eq_301]; exact hFq_30.f (by decide)
                    try have t_303 : Int32.toInt (x2_32 + 0) = Int32.toInt x2_32 + 0 := ti_add rfl (by decide) (by omega) (by omega)
                    have f_304 : 0 ≤ Int32.toInt (q_301.1 2 30) ∧ Int32.toInt (q_301.1 2 30) ≤ 6 := hTq_301.1 2 30
                    have w_305 : Int32.toInt (q_301.1 2 30) = Int32.toInt (q_30.1 2 30) := by rw [eq_301, dui_o (by decide)]
                    have f_306 : 0 ≤ Int32.toInt (q_301.1 2 26) ∧ Int32.toInt (q_301.1 2 26) ≤ 10 := hTq_301.1 2 26
                    have w_307 : Int32.toInt (q_301.1 2 26) = Int32.toInt (q_30.1 2 26) := by rw [eq_301, dui_o (by decide)]
                    exact hk_28 (q_301, (q.1 0 13), (x2_32 + 0), (x3_33 + 2)) (show (TS q_301) ∧ (dFr [2] [6] q_26 q_301) ∧ ((q.1 0 13) = (q.1 0 13)) ∧ (0 ≤ Int32.toInt (x3_33 + 2)) ∧ (Int32.toInt (x3_33 + 2) ≤ 402) ∧ (Int32.toInt (q_301.1 2 30) = Int32.toInt (q_26.1 2 30)) ∧ (Int32.toInt (q_301.1 2 26) = Int32.toInt (q_26.1 2 26)) from ⟨hTq_301, (by rw [eq_301]; exact (((dFr.rf : dFr [2] [6] q_26 q_26).t a_35 (by decide) (by decide)) : dFr [2] [6] q_26 q_30).f (by decide)), rfl, by omega, by omega, by omega, by omega⟩) (show (402 - Int32.toInt (x3_33 + 2)).toNat < (402 - Int32.toInt x3_33).toNat by omega)
                  · unfold zX10_row_146
                    refine dOk_L (fun q_308 eq_308 => ?_)
                    try have t_309 : Int32.toInt (q_30.1 0 6 + 0) = Int32.toInt (q_30.1 0 6) + 0 := ti_add rfl (by decide) (by omega) (by omega)
                    have hTq_308 : TS q_308 := by rw [eq_308]; exact ts_f a_34 (ti_rg _).1 (ti_rg _).2
                    have hFq_308 : dFr [1, 2] [0, 6, 13, 32] q q_308 := by rw [eq_308]; exact hFq_30.f (by decide)
                    try have t_310 : Int32.toInt (x2_32 + 0) = Int32.toInt x2_32 + 0 := ti_add rfl (by decide) (by omega) (by omega)
                    have f_311 : 0 ≤ Int32.toInt (q_308.1 2 30) ∧ Int32.toInt (q_308.1 2 30) ≤ 6 := hTq_308.1 2 30
                    have w_312 : Int32.toInt (q_308.1 2 30) = Int32.toInt (q_30.1 2 30) := by rw [eq_308, dui_o (by decide)]
                    have f_313 : 0 ≤ Int32.toInt (q_308.1 2 26) ∧ Int32.toInt (q_308.1 2 26) ≤ 10 := hTq_308.1 2 26
                    have w_314 : Int32.toInt (q_308.1 2 26) = Int32.toInt (q_30.1 2 26) := by rw [eq_308, dui_o (by decide)]
                    exact hk_28 (q_308, (q.1 0 13), (x2_32 + 0), (x3_33 + 2)) (show (TS q_308) ∧ (dFr [2] [6] q_26 q_308) ∧ ((q.1 0 13) = (q.1 0 13)) ∧ (0 ≤ Int32.toInt (x3_33 + 2)) ∧ (Int32.toInt (x3_33 + 2) ≤ 402) ∧ (Int32.toInt (q_308.1 2 30) = Int32.toInt (q_26.1 2 30)) ∧ (Int32.toInt (q_308.1 2 26) = Int32.toInt (q_26.1 2 26)) from ⟨hTq_308, (by rw [eq_308]; exact (((dFr.rf : dFr [2] [6] q_26 q_26).t a_35 (by decide) (by decide)) : dFr [2] [6] q_26 q_30).f (by decide)), rfl, by omega, by omega, by omega, by omega⟩) (show (402 - Int32.toInt (x3_33 + 2)).toNat < (402 - Int32.toInt x3_33).toNat by omega)
                · unfold zX10_row_129
                  refine dOk_eq (A := 0) (B := 0) (by decide) (by decide) (fun c_315z c_315 => ?_) (fun c_316z c_316 => ?_)
                  · unfold zX10_row_146
                    refine dOk_L (fun q_318 eq_318 => ?_)
                    try have t_319 : Int32.toInt (q_30.1 0 6 + 1) = Int32.toInt (q_30.1 0 6) + 1 := ti_add rfl (by decide) (by omega) (by omega)
                    have hTq_318 : TS q_318 := by rw [eq_318]; exact ts_f a_34 (ti_rg _).1 (ti_rg _).2
                    have hFq_318 : dFr [1, 2] [0, 6, 13, 32] q q_318 := by rw [eq_318]; exact hFq_30.f (by decide)
                    try have t_320 : Int32.toInt (x2_32 + 1) = Int32.toInt x2_32 + 1 := ti_add rfl (by decide) (by omega) (by omega)
                    have f_321 : 0 ≤ Int32.toInt (q_318.1 2 30) ∧ Int32.toInt (q_318.1 2 30) ≤ 6 := hTq_318.1 2 30
                    have w_322 : Int32.toInt (q_318.1 2 30) = Int32.toInt (q_30.1 2 30) := by rw [eq_318, dui_o (by decide)]
                    have f_323 : 0 ≤ Int32.toInt (q_318.1 2 26) ∧ Int32.toInt (q_318.1 2 26) ≤ 10 := hTq_318.1 2 26
                    have w_324 : Int32.toInt (q_318.1 2 26) = Int32.toInt (q_30.1 2 26) := by rw [eq_318, dui_o (by decide)]
                    exact hk_28 (q_318, (q.1 0 13), (x2_32 + 1), (x3_33 + 2)) (show (TS q_318) ∧ (dFr [2] [6] q_26 q_318) ∧ ((q.1 0 13) = (q.1 0 13)) ∧ (0 ≤ Int32.toInt (x3_33 + 2)) ∧ (Int32.toInt (x3_33 + 2) ≤ 402) ∧ (Int32.toInt (q_318.1 2 30) = Int32.toInt (q_26.1 2 30)) ∧ (Int32.toInt (q_318.1 2 26) = Int32.toInt (q_26.1 2 26)) from ⟨hTq_318, (by rw [eq_318]; exact (((dFr.rf : dFr [2] [6] q_26 q_26).t a_35 (by decide) (by decide)) : dFr [2] [6] q_26 q_30).f (by decide)), rfl, by omega, by omega, by omega, by omega⟩) (show (402 - Int32.toInt (x3_33 + 2)).toNat < (402 - Int32.toInt x3_33).toNat by omega)
                  · unfold zX10_row_146
                    refine dOk_L (fun q_325 eq_325 => ?_)
                    try have t_326 : Int32.toInt (q_30.1 0 6 + 0) = Int32.toInt (q_30.1 0 6) + 0 := ti_add rfl (by decide) (by omega) (by omega)
                    have hTq_325 : TS q_325 := by rw [eq_325]; exact ts_f a_34 (ti_rg _).1 (ti_rg _).2
                    have hFq_325 : dFr [1, 2] [0, 6, 13, 32] q q_325 := by rw [eq_325]; exact hFq_30.f (by decide)
                    try have t_327 : Int32.toInt (x2_32 + 1) = Int32.toInt x2_32 + 1 := ti_add rfl (by decide) (by omega) (by omega)
                    have f_328 : 0 ≤ Int32.toInt (q_325.1 2 30) ∧ Int32.toInt (q_325.1 2 30) ≤ 6 := hTq_325.1 2 30
                    have w_329 : Int32.toInt (q_325.1 2 30) = Int32.toInt (q_30.1 2 30) := by rw [eq_325, dui_o (by decide)]
                    have f_330 : 0 ≤ Int32.toInt (q_325.1 2 26) ∧ Int32.toInt (q_325.1 2 26) ≤ 10 := hTq_325.1 2 26
                    have w_331 : Int32.toInt (q_325.1 2 26) = Int32.toInt (q_30.1 2 26) := by rw [eq_325, dui_o (by decide)]
                    exact hk_28 (q_325, (q.1 0 13), (x2_32 + 1), (x3_33 + 2)) (show (TS q_325) ∧ (dFr [2] [6] q_26 q_325) ∧ ((q.1 0 13) = (q.1 0 13)) ∧ (0 ≤ Int32.toInt (x3_33 + 2)) ∧ (Int32.toInt (x3_33 + 2) ≤ 402) ∧ (Int32.toInt (q_325.1 2 30) = Int32.toInt (q_26.1 2 30)) ∧ (Int32.toInt (q_325.1 2 26) = Int32.toInt (q_26.1 2 26)) from ⟨hTq_325, (by rw [eq_325]; exact (((dFr.rf : dFr [2] [6] q_26 q_26).t a_35 (by decide) (by decide)) : dFr [2] [6] q_26 q_30).f (by decide)), rfl, by omega, by omega, by omega, by omega⟩) (show (402 - Int32.toInt (x3_33 + 2)).toNat < (402 - Int32.toInt x3_33).toNat by omega)
              · refine dOk_G (dg_ok (show 0 ≤ Int32.toInt x3_33 by omega) (show Int32.toInt x3_33 < ((400 : Nat) : Int) by omega)) ?_
                refine dOk_L (fun v_332 ev_332 => ?_)
                have w_333 : Int32.toInt v_332 = Int32.toInt v_180 := by rw [ev_332, ev_180]
                refine dOk_G (dg_ok (show 0 ≤ Int32.toInt (x3_33 + 1) by omega) (show Int32.toInt (x3_33 + 1) < ((400 : Nat) : Int) by omega)) ?_
                refine dOk_L (fun v_334 ev_334 => ?_)
                have w_335 : Int32.toInt v_334 = Int32.toInt v_285 := by rw [ev_334, ev_285]
                refine dOk_V (ok_adds q_30 v_332 v_334 a_34 (show Int32.toInt (q_30.1 2 29) < 6 by omega) (show 0 ≤ Int32.toInt v_332 ∧ Int32.toInt v_332 ≤ 5 by omega) (show 0 ≤ Int32.toInt v_334 ∧ Int32.toInt v_334 ≤ 1 by omega)) (fun q_336 h_337 => ?_)
                replace h_337 : (TS q_336) ∧ (dFr [2] [] q_30 q_336) ∧ (Int32.toInt (q_336.1 2 29) = Int32.toInt (q_30.1 2 29) + 1) ∧ (Int32.toInt (q_336.1 2 30) = Int32.toInt (q_30.1 2 30)) ∧ (Int32.toInt (q_336.1 2 26) = Int32.toInt (q_30.1 2 26)) := h_337
                obtain ⟨i_338, i_339, i_340, i_341, i_342⟩ := h_337
                have hFq_336 : dFr [1, 2] [0, 6, 13, 32] q q_336 := hFq_30.t i_339 (by decide) (by decide)
                have f_343 : 0 ≤ Int32.toInt (q_336.1 2 29) ∧ Int32.toInt (q_336.1 2 29) ≤ 6 := i_338.1 2 29
                have f_344 : 0 ≤ Int32.toInt (q_336.1 2 30) ∧ Int32.toInt (q_336.1 2 30) ≤ 6 := i_338.1 2 30
                have f_345 : 0 ≤ Int32.toInt (q_336.1 2 26) ∧ Int32.toInt (q_336.1 2 26) ≤ 10 := i_338.1 2 26
                unfold zX10_row_118
                refine dOk_eq (A := 0) (B := 0) (by decide) (by decide) (fun c_346z c_346 => ?_) (fun c_347z c_347 => ?_)
                · unfold zX10_row_129
                  refine dOk_eq (A := 0) (B := 0) (by decide) (by decide) (fun c_349z c_349 => ?_) (fun c_350z c_350 => ?_)
                  · unfold zX10_row_146
                    refine dOk_L (fun q_352 eq_352 => ?_)
                    have w_353 : Int32.toInt (q_336.1 0 6) = Int32.toInt (q_30.1 0 6) := by rw [i_339.2 6 (by decide)]
                    try have t_354 : Int32.toInt (q_336.1 0 6 + 1) = Int32.toInt (q_336.1 0 6) + 1 := ti_add rfl (by decide) (by omega) (by omega)
                    have hTq_352 : TS q_352 := by rw [eq_352]; exact ts_f i_338 (ti_rg _).1 (ti_rg _).2
                    have hFq_352 : dFr [1, 2] [0, 6, 13, 32] q q_352 := by rw [eq_352]; exact hFq_336.f (by decide)
                    try have t_355 : Int32.toInt (x2_32 + 0) = Int32.toInt x2_32 + 0 := ti_add rfl (by decide) (by omega) (by omega)
                    have f_356 : 0 ≤ Int32.toInt (q_352.1 2 30) ∧ Int32.toInt (q_352.1 2 30) ≤ 6 := hTq_352.1 2 30
                    have w_357 : Int32.toInt (q_352.1 2 30) = Int32.toInt (q_336.1 2 30) := by rw [eq_352, dui_o (by decide)]
                    have f_358 : 0 ≤ Int32.toInt (q_352.1 2 26) ∧ Int32.toInt (q_352.1 2 26) ≤ 10 := hTq_352.1 2 26
                    have w_359 : Int32.toInt (q_352.1 2 26) = Int32.toInt (q_336.1 2 26) := by rw [eq_352, dui_o (by decide)]
                    exact hk_28 (q_352, (q.1 0 13), (x2_32 + 0), (x3_33 + 2)) (show (TS q_352) ∧ (dFr [2] [6] q_26 q_352) ∧ ((q.1 0 13) = (q.1 0 13)) ∧ (0 ≤ Int32.toInt (x3_33 + 2)) ∧ (Int32.toInt (x3_33 + 2) ≤ 402) ∧ (Int32.toInt (q_352.1 2 30) = Int32.toInt (q_26.1 2 30)) ∧ (Int32.toInt (q_352.1 2 26) = Int32.toInt (q_26.1 2 26)) from ⟨hTq_352, (by rw [eq_352]; exact (((((dFr.rf : dFr [2] [6] q_26 q_26).t a_35 (by decide) (by decide)) : dFr [2] [6] q_26 q_30).t i_339 (by decide) (by decide)) : dFr [2] [6] q_26 q_336).f (by decide)), rfl, by omega, by omega, by omega, by omega⟩) (show (402 - Int32.toInt (x3_33 + 2)).toNat < (402 - Int32.toInt x3_33).toNat by omega)
                  · unfold zX10_row_146
                    refine dOk_L (fun q_360 eq_360 => ?_)
                    have w_361 : Int32.toInt (q_336.1 0 6) = Int32.toInt (q_30.1 0 6) := by rw [i_339.2 6 (by decide)]
                    try have t_362 : Int32.toInt (q_336.1 0 6 + 0) = Int32.toInt (q_336.1 0 6) + 0 := ti_add rfl (by decide) (by omega) (by omega)
                    have hTq_360 : TS q_360 := by rw [eq_360]; exact ts_f i_338 (ti_rg _).1 (ti_rg _).2
                    have hFq_360 : dFr [1, 2] [0, 6, 13, 32] q q_360 := by rw [eq_360]; exact hFq_336.f (by decide)
                    try have t_363 : Int32.toInt (x2_32 + 0) = Int32.toInt x2_32 + 0 := ti_add rfl (by decide) (by omega) (by omega)
                    have f_364 : 0 ≤ Int32.toInt (q_360.1 2 30) ∧ Int32.toInt (q_360.1 2 30) ≤ 6 := hTq_360.1 2 30
                    have w_365 : Int32.toInt (q_360.1 2 30) = Int32.toInt (q_336.1 2 30) := by rw [eq_360, dui_o (by decide)]
                    have f_366 : 0 ≤ Int32.toInt (q_360.1 2 26) ∧ Int32.toInt (q_360.1 2 26) ≤ 10 := hTq_360.1 2 26
                    have w_367 : Int32.toInt (q_360.1 2 26) = Int32.toInt (q_336.1 2 26) := by rw [eq_360, dui_o (by decide)]
                    exact hk_28 (q_360, (q.1 0 13), (x2_32 + 0), (x3_33 + 2)) (show (TS q_360) ∧ (dFr [2] [6] q_26 q_360) ∧ ((q.1 0 13) = (q.1 0 13)) ∧ (0 ≤ Int32.toInt (x3_33 + 2)) ∧ (Int32.toInt (x3_33 + 2) ≤ 402) ∧ (Int32.toInt (q_360.1 2 30) = Int32.toInt (q_26.1 2 30)) ∧ (Int32.toInt (q_360.1 2 26) = Int32.toInt (q_26.1 2 26)) from ⟨hTq_360, (by rw [eq_360]; exact (((((dFr.rf : dFr [2] [6] q_26 q_26).t a_35 (by decide) (by decide)) : dFr [2] [6] q_26 q_30).t i_339 (by decide) (by decide)) : dFr [2] [6] q_26 q_336).f (by decide)), rfl, by omega, by omega, by omega, by omega⟩) (show (402 - Int32.toInt (x3_33 + 2)).toNat < (402 - Int32.toInt x3_33).toNat by omega)
                · unfold zX10_row_129
                  refine dOk_eq (A := 0) (B := 0) (by decide) (by decide) (fun c_368z c_368 => ?_) (fun c_369z c_369 => ?_)
                  · unfold zX10_row_146
                    refine dOk_L (fun q_371 eq_371 => ?_)
                    have w_372 : Int32.toInt (q_336.1 0 6) = Int32.toInt (q_30.1 0 6) := by rw [i_339.2 6 (by decide)]
                    try have t_373 : Int32.toInt (q_336.1 0 6 + 1) = Int32.toInt (q_336.1 0 6) + 1 := ti_add rfl (by decide) (by omega) (by omega)
                    have hTq_371 : TS q_371 := by rw [eq_371]; exact ts_f i_338 (ti_rg _).1 (ti_rg _).2
                    have hFq_371 : dFr [1, 2] [0, 6, 13, 32] q q_371 := by rw [eq_371]; exact hFq_336.f (by decide)
                    try have t_374 : Int32.toInt (x2_32 + 1) = Int32.toInt x2_32 + 1 := ti_add rfl (by decide) (by omega) (by omega)
                    have f_375 : 0 ≤ Int32.toInt (q_371.1 2 30) ∧ Int32.toInt (q_371.1 2 30) ≤ 6 := hTq_371.1 2 30
                    have w_376 : Int32.toInt (q_371.1 2 30) = Int32.toInt (q_336.1 2 30) := by rw [eq_371, dui_o (by decide)]
                    have f_377 : 0 ≤ Int32.toInt (q_371.1 2 26) ∧ Int32.toInt (q_371.1 2 26) ≤ 10 := hTq_371.1 2 26
                    have w_378 : Int32.toInt (q_371.1 2 26) = Int32.toInt (q_336.1 2 26) := by rw [eq_371, dui_o (by decide)]
                    exact hk_28 (q_371, (q.1 0 13), (x2_32 + 1), (x3_33 + 2)) (show (TS q_371) ∧ (dFr [2] [6] q_26 q_371) ∧ ((q.1 0 13) = (q.1 0 13)) ∧ (0 ≤ Int32.toInt (x3_33 + 2)) ∧ (Int32.toInt (x3_33 + 2) ≤ 402) ∧ (Int32.toInt (q_371.1 2 30) = Int32.toInt (q_26.1 2 30)) ∧ (Int32.toInt (q_371.1 2 26) = Int32.toInt (q_26.1 2 26)) from ⟨hTq_371, (by rw [eq_371]; exact (((((dFr.rf : dFr [2] [6] q_26 q_26).t a_35 (by decide) (by decide)) : dFr [2] [6] q_26 q_30).t i_339 (by decide) (by decide)) : dFr [2] [6] q_26 q_336).f (by decide)), rfl, by omega, by omega, by omega, by omega⟩) (show (402 - Int32.toInt (x3_33 + 2)).toNat < (402 - Int32.toInt x3_33).toNat by omega)
                  · unfold zX10_row_146
                    refine dOk_L (fun q_379 eq_379 => ?_)
                    have w_380 : Int32.toInt (q_336.1 0 6) = Int32.toInt (q_30.1 0 6) := by rw [i_339.2 6 (by decide)]
                    try have t_381 : Int32.toInt (q_336.1 0 6 + 0) = Int32.toInt (q_336.1 0 6) + 0 := ti_add rfl (by decide) (by omega) (by omega)
                    have hTq_379 : TS q_379 := by rw [eq_379]; exact ts_f i_338 (ti_rg _).1 (ti_rg _).2
                    have hFq_379 : dFr [1, 2] [0, 6, 13, 32] q q_379 := by rw [eq_379]; exact hFq_336.f (by decide)
                    try have t_382 : Int32.toInt (x2_32 + 1) = Int32.toInt x2_32 + 1 := ti_add rfl (by decide) (by omega) (by omega)
                    have f_383 : 0 ≤ Int32.toInt (q_379.1 2 30) ∧ Int32.toInt (q_379.1 2 30) ≤ 6 := hTq_379.1 2 30
                    have w_384 : Int32.toInt (q_379.1 2 30) = Int32.toInt (q_336.1 2 30) := by rw [eq_379, dui_o (by decide)]
                    have f_385 : 0 ≤ Int32.toInt (q_379.1 2 26) ∧ Int32.toInt (q_379.1 2 26) ≤ 10 := hTq_379.1 2 26
                    have w_386 : Int32.toInt (q_379.1 2 26) = Int32.toInt (q_336.1 2 26) := by rw [eq_379, dui_o (by decide)]
                    exact hk_28 (q_379, (q.1 0 13), (x2_32 + 1), (x3_33 + 2)) (show (TS q_379) ∧ (dFr [2] [6] q_26 q_379) ∧ ((q.1 0 13) = (q.1 0 13)) ∧ (0 ≤ Int32.toInt (x3_33 + 2)) ∧ (Int32.toInt (x3_33 + 2) ≤ 402) ∧ (Int32.toInt (q_379.1 2 30) = Int32.toInt (q_26.1 2 30)) ∧ (Int32.toInt (q_379.1 2 26) = Int32.toInt (q_26.1 2 26)) from ⟨hTq_379, (by rw [eq_379]; exact (((((dFr.rf : dFr [2] [6] q_26 q_26).t a_35 (by decide) (by decide)) : dFr [2] [6] q_26 q_30).t i_339 (by decide) (by decide)) : dFr [2] [6] q_26 q_336).f (by decide)), rfl, by omega, by omega, by omega, by omega⟩) (show (402 - Int32.toInt (x3_33 + 2)).toNat < (402 - Int32.toInt x3_33).toNat by omega)
            · refine dOk_G (dg_ok (show 0 ≤ Int32.toInt x3_33 by omega) (show Int32.toInt x3_33 < ((400 : Nat) : Int) by omega)) ?_
              refine dOk_L (fun v_387 ev_387 => ?_)
              have w_388 : Int32.toInt v_387 = Int32.toInt v_180 := by rw [ev_387, ev_180]
              refine dOk_B (ok_placeOf q_30 v_387 a_34) (fun r_389 q_390 h_391 => ?_)
              replace h_391 : (q_390 = q_30) ∧ (-1 ≤ Int32.toInt r_389 ∧ Int32.toInt r_389 ≤ 5) := h_391
              obtain ⟨i_392, i_393⟩ := h_391
              subst q_390
              refine dOk_eq (A := Int32.toInt r_389) (B := (-1)) rfl (by decide) (fun c_394z c_394 => ?_) (fun c_395z c_395 => ?_)
              · unfold zX10_row_93
                refine dOk_eq (A := 1) (B := 0) (by decide) (by decide) (fun c_397z c_397 => ?_) (fun c_398z c_398 => ?_)
                · unfold zX10_row_118
                  refine dOk_eq (A := 1) (B := 0) (by decide) (by decide) (fun c_400z c_400 => ?_) (fun c_401z c_401 => ?_)
                  · unfold zX10_row_129
                    refine dOk_eq (A := 1) (B := 0) (by decide) (by decide) (fun c_403z c_403 => ?_) (fun c_404z c_404 => ?_)
                    · unfold zX10_row_146
                      refine dOk_L (fun q_406 eq_406 => ?_)
                      try have t_407 : Int32.toInt (q_30.1 0 6 + 1) = Int32.toInt (q_30.1 0 6) + 1 := ti_add rfl (by decide) (by omega) (by omega)
                      have hTq_406 : TS q_406 := by rw [eq_406]; exact ts_f a_34 (ti_rg _).1 (ti_rg _).2
                      have hFq_406 : dFr [1, 2] [0, 6, 13, 32] q q_406 := by rw [eq_406]; exact hFq_30.f (by decide)
                      try have t_408 : Int32.toInt (x2_32 + 0) = Int32.toInt x2_32 + 0 := ti_add rfl (by decide) (by omega) (by omega)
                      have f_409 : 0 ≤ Int32.toInt (q_406.1 2 30) ∧ Int32.toInt (q_406.1 2 30) ≤ 6 := hTq_406.1 2 30
                      have w_410 : Int32.toInt (q_406.1 2 30) = Int32.toInt (q_30.1 2 30) := by rw [eq_406, dui_o (by decide)]
                      have f_411 : 0 ≤ Int32.toInt (q_406.1 2 26) ∧ Int32.toInt (q_406.1 2 26) ≤ 10 := hTq_406.1 2 26
                      have w_412 : Int32.toInt (q_406.1 2 26) = Int32.toInt (q_30.1 2 26) := by rw [eq_406, dui_o (by decide)]
                      exact hk_28 (q_406, (q.1 0 13), (x2_32 + 0), (x3_33 + 2)) (show (TS q_406) ∧ (dFr [2] [6] q_26 q_406) ∧ ((q.1 0 13) = (q.1 0 13)) ∧ (0 ≤ Int32.toInt (x3_33 + 2)) ∧ (Int32.toInt (x3_33 + 2) ≤ 402) ∧ (Int32.toInt (q_406.1 2 30) = Int32.toInt (q_26.1 2 30)) ∧ (Int32.toInt (q_406.1 2 26) = Int32.toInt (q_26.1 2 26)) from ⟨hTq_406, (by rw [eq_406]; exact (((dFr.rf : dFr [2] [6] q_26 q_26).t a_35 (by decide) (by decide)) : dFr [2] [6] q_26 q_30).f (by decide)), rfl, by omega, by omega, by omega, by omega⟩) (show (402 - Int32.toInt (x3_33 + 2)).toNat < (402 - Int32.toInt x3_33).toNat by omega)
                    · unfold zX10_row_146
                      refine dOk_L (fun q_413 eq_413 => ?_)
                      try have t_414 : Int32.toInt (q_30.1 0 6 + 0) = Int32.toInt (q_30.1 0 6) + 0 := ti_add rfl (by decide) (by omega) (by omega)
                      have hTq_413 : TS q_413 := by rw [eq_413]; exact ts_f a_34 (ti_rg _).1 (ti_rg _).2
                      have hFq_413 : dFr [1, 2] [0, 6, 13, 32] q q_413 := by rw [eq_413]; exact hFq_30.f (by decide)
                      try have t_415 : Int32.toInt (x2_32 + 0) = Int32.toInt x2_32 + 0 := ti_add rfl (by decide) (by omega) (by omega)
                      have f_416 : 0 ≤ Int32.toInt (q_413.1 2 30) ∧ Int32.toInt (q_413.1 2 30) ≤ 6 := hTq_413.1 2 30
                      have w_417 : Int32.toInt (q_413.1 2 30) = Int32.toInt (q_30.1 2 30) := by rw [eq_413, dui_o (by decide)]
                      have f_418 : 0 ≤ Int32.toInt (q_413.1 2 26) ∧ Int32.toInt (q_413.1 2 26) ≤ 10 := hTq_413.1 2 26
                      have w_419 : Int32.toInt (q_413.1 2 26) = Int32.toInt (q_30.1 2 26) := by rw [eq_413, dui_o (by decide)]
                      exact hk_28 (q_413, (q.1 0 13), (x2_32 + 0), (x3_33 + 2)) (show (TS q_413) ∧ (dFr [2] [6] q_26 q_413) ∧ ((q.1 0 13) = (q.1 0 13)) ∧ (0 ≤ Int32.toInt (x3_33 + 2)) ∧ (Int32.toInt (x3_33 + 2) ≤ 402) ∧ (Int32.toInt (q_413.1 2 30) = Int32.toInt (q_26.1 2 30)) ∧ (Int32.toInt (q_413.1 2 26) = Int32.toInt (q_26.1 2 26)) from ⟨hTq_413, (by rw [eq_413]; exact (((dFr.rf : dFr [2] [6] q_26 q_26).t a_35 (by decide) (by decide)) : dFr [2] [6] q_26 q_30).f (by decide)), rfl, by omega, by omega, by omega, by omega⟩) (show (402 - Int32.toInt (x3_33 + 2)).toNat < (402 - Int32.toInt x3_33).toNat by omega)
                  · unfold zX10_row_129
                    refine dOk_eq (A := 1) (B := 0) (by decide) (by decide) (fun c_420z c_420 => ?_) (fun c_421z c_421 => ?_)
                    · unfold zX10_row_146
                      refine dOk_L (fun q_423 eq_423 => ?_)
                      try have t_424 : Int32.toInt (q_30.1 0 6 + 1) = Int32.toInt (q_30.1 0 6) + 1 := ti_add rfl (by decide) (by omega) (by omega)
                      have hTq_423 : TS q_423 := by rw [eq_423]; exact ts_f a_34 (ti_rg _).1 (ti_rg _).2
                      have hFq_423 : dFr [1, 2] [0, 6, 13, 32] q q_423 := by rw [eq_423]; exact hFq_30.f (by decide)
                      try have t_425 : Int32.toInt (x2_32 + 1) = Int32.toInt x2_32 + 1 := ti_add rfl (by decide) (by omega) (by omega)
                      have f_426 : 0 ≤ Int32.toInt (q_423.1 2 30) ∧ Int32.toInt (q_423.1 2 30) ≤ 6 := hTq_423.1 2 30
                      have w_427 : Int32.toInt (q_423.1 2 30) = Int32.toInt (q_30.1 2 30) := by rw [eq_423, dui_o (by decide)]
                      have f_428 : 0 ≤ Int32.toInt (q_423.1 2 26) ∧ Int32.toInt (q_423.1 2 26) ≤ 10 := hTq_423.1 2 26
                      have w_429 : Int32.toInt (q_423.1 2 26) = Int32.toInt (q_30.1 2 26) := by rw [eq_423, dui_o (by decide)]
                      exact hk_28 (q_423, (q.1 0 13), (x2_32 + 1), (x3_33 + 2)) (show (TS q_423) ∧ (dFr [2] [6] q_26 q_423) ∧ ((q.1 0 13) = (q.1 0 13)) ∧ (0 ≤ Int32.toInt (x3_33 + 2)) ∧ (Int32.toInt (x3_33 + 2) ≤ 402) ∧ (Int32.toInt (q_423.1 2 30) = Int32.toInt (q_26.1 2 30)) ∧ (Int32.toInt (q_423.1 2 26) = Int32.toInt (q_26.1 2 26)) from ⟨hTq_423, (by rw [eq_423]; exact (((dFr.rf : dFr [2] [6] q_26 q_26).t a_35 (by decide) (by decide)) : dFr [2] [6] q_26 q_30).f (by decide)), rfl, by omega, by omega, by omega, by omega⟩) (show (402 - Int32.toInt (x3_33 + 2)).toNat < (402 - Int32.toInt x3_33).toNat by omega)
                    · unfold zX10_row_146
                      refine dOk_L (fun q_430 eq_430 => ?_)
                      try have t_431 : Int32.toInt (q_30.1 0 6 + 0) = Int32.toInt (q_30.1 0 6) + 0 := ti_add rfl (by decide) (by omega) (by omega)
                      have hTq_430 : TS q_430 := by rw [eq_430]; exact ts_f a_34 (ti_rg _).1 (ti_rg _).2
                      have hFq_430 : dFr [1, 2] [0, 6, 13, 32] q q_430 := by rw [eq_430]; exact hFq_30.f (by decide)
                      try have t_432 : Int32.toInt (x2_32 + 1) = Int32.toInt x2_32 + 1 := ti_add rfl (by decide) (by omega) (by omega)
                      have f_433 : 0 ≤ Int32.toInt (q_430.1 2 30) ∧ Int32.toInt (q_430.1 2 30) ≤ 6 := hTq_430.1 2 30
                      have w_434 : Int32.toInt (q_430.1 2 30) = Int32.toInt (q_30.1 2 30) := by rw [eq_430, dui_o (by decide)]
                      have f_435 : 0 ≤ Int32.toInt (q_430.1 2 26) ∧ Int32.toInt (q_430.1 2 26) ≤ 10 := hTq_430.1 2 26
                      have w_436 : Int32.toInt (q_430.1 2 26) = Int32.toInt (q_30.1 2 26) := by rw [eq_430, dui_o (by decide)]
                      exact hk_28 (q_430, (q.1 0 13), (x2_32 + 1), (x3_33 + 2)) (show (TS q_430) ∧ (dFr [2] [6] q_26 q_430) ∧ ((q.1 0 13) = (q.1 0 13)) ∧ (0 ≤ Int32.toInt (x3_33 + 2)) ∧ (Int32.toInt (x3_33 + 2) ≤ 402) ∧ (Int32.toInt (q_430.1 2 30) = Int32.toInt (q_26.1 2 30)) ∧ (Int32.toInt (q_430.1 2 26) = Int32.toInt (q_26.1 2 26)) from ⟨hTq_430, (by rw [eq_430]; exact (((dFr.rf : dFr [2] [6] q_26 q_26).t a_35 (by decide) (by decide)) : dFr [2] [6] q_26 q_30).f (by decide)), rfl, by omega, by omega, by omega, by omega⟩) (show (402 - Int32.toInt (x3_33 + 2)).toNat < (402 - Int32.toInt x3_33).toNat by omega)
                · refine dOk_G (dg_ok (show 0 ≤ Int32.toInt x3_33 by omega) (show Int32.toInt x3_33 < ((400 : Nat) : Int) by omega)) ?_
                  refine dOk_L (fun v_437 ev_437 => ?_)
                  have w_438 : Int32.toInt v_437 = Int32.toInt v_180 := by rw [ev_437, ev_180]
                  refine dOk_G (dg_ok (show 0 ≤ Int32.toInt (x3_33 + 1) by omega) (show Int32.toInt (x3_33 + 1) < ((400 : Nat) : Int) by omega)) ?_
                  refine dOk_L (fun v_439 ev_439 => ?_)
                  have w_440 : Int32.toInt v_439 = Int32.toInt v_285 := by rw [ev_439, ev_285]
                  refine dOk_V (ok_adds q_30 v_437 v_439 a_34 (show Int32.toInt (q_30.1 2 29) < 6 by omega) (show 0 ≤ Int32.toInt v_437 ∧ Int32.toInt v_437 ≤ 5 by omega) (show 0 ≤ Int32.toInt v_439 ∧ Int32.toInt v_439 ≤ 1 by omega)) (fun q_441 h_442 => ?_)
                  replace h_442 : (TS q_441) ∧ (dFr [2] [] q_30 q_441) ∧ (Int32.toInt (q_441.1 2 29) = Int32.toInt (q_30.1 2 29) + 1) ∧ (Int32.toInt (q_441.1 2 30) = Int32.toInt (q_30.1 2 30)) ∧ (Int32.toInt (q_441.1 2 26) = Int32.toInt (q_30.1 2 26)) := h_442
                  obtain ⟨i_443, i_444, i_445, i_446, i_447⟩ := h_442
                  have hFq_441 : dFr [1, 2] [0, 6, 13, 32] q q_441 := hFq_30.t i_444 (by decide) (by decide)
                  have f_448 : 0 ≤ Int32.toInt (q_441.1 2 29) ∧ Int32.toInt (q_441.1 2 29) ≤ 6 := i_443.1 2 29
                  have f_449 : 0 ≤ Int32.toInt (q_441.1 2 30) ∧ Int32.toInt (q_441.1 2 30) ≤ 6 := i_443.1 2 30
                  have f_450 : 0 ≤ Int32.toInt (q_441.1 2 26) ∧ Int32.toInt (q_441.1 2 26) ≤ 10 := i_443.1 2 26
                  unfold zX10_row_118
                  refine dOk_eq (A := 1) (B := 0) (by decide) (by decide) (fun c_451z c_451 => ?_) (fun c_452z c_452 => ?_)
                  · unfold zX10_row_129
                    refine dOk_eq (A := 1) (B := 0) (by decide) (by decide) (fun c_454z c_454 => ?_) (fun c_455z c_455 => ?_)
                    · unfold zX10_row_146
                      refine dOk_L (fun q_457 eq_457 => ?_)
                      have w_458 : Int32.toInt (q_441.1 0 6) = Int32.toInt (q_30.1 0 6) := by rw [i_444.2 6 (by decide)]
                      try have t_459 : Int32.toInt (q_441.1 0 6 + 1) = Int32.toInt (q_441.1 0 6) + 1 := ti_add rfl (by decide) (by omega) (by omega)
                      have hTq_457 : TS q_457 := by rw [eq_457]; exact ts_f i_443 (ti_rg _).1 (ti_rg _).2
                      have hFq_457 : dFr [1, 2] [0, 6, 13, 32] q q_457 := by rw [eq_457]; exact hFq_441.f (by decide)
                      try have t_460 : Int32.toInt (x2_32 + 0) = Int32.toInt x2_32 + 0 := ti_add rfl (by decide) (by omega) (by omega)
                      have f_461 : 0 ≤ Int32.toInt (q_457.1 2 30) ∧ Int32.toInt (q_457.1 2 30) ≤ 6 := hTq_457.1 2 30
                      have w_462 : Int32.toInt (q_457.1 2 30) = Int32.toInt (q_441.1 2 30) := by rw [eq_457, dui_o (by decide)]
                      have f_463 : 0 ≤ Int32.toInt (q_457.1 2 26) ∧ Int32.toInt (q_457.1 2 26) ≤ 10 := hTq_457.1 2 26
                      have w_464 : Int32.toInt (q_457.1 2 26) = Int32.toInt (q_441.1 2 26) := by rw [eq_457, dui_o (by decide)]
                      exact hk_28 (q_457, (q.1 0 13), (x2_32 + 0), (x3_33 + 2)) (show (TS q_457) ∧ (dFr [2] [6] q_26 q_457) ∧ ((q.1 0 13) = (q.1 0 13)) ∧ (0 ≤ Int32.toInt (x3_33 + 2)) ∧ (Int32.toInt (x3_33 + 2) ≤ 402) ∧ (Int32.toInt (q_457.1 2 30) = Int32.toInt (q_26.1 2 30)) ∧ (Int32.toInt (q_457.1 2 26) = Int32.toInt (q_26.1 2 26)) from ⟨hTq_457, (by rw [eq_457]; exact (((((dFr.rf : dFr [2] [6] q_26 q_26).t a_35 (by decide) (by decide)) : dFr [2] [6] q_26 q_30).t i_444 (by decide) (by decide)) : dFr [2] [6] q_26 q_441).f (by decide)), rfl, by omega, by omega, by omega, by omega⟩) (show (402 - Int32.toInt (x3_33 + 2)).toNat < (402 - Int32.toInt x3_33).toNat by omega)
                    · unfold zX10_row_146
                      refine dOk_L (fun q_465 eq_465 => ?_)
                      have w_466 : Int32.toInt (q_441.1 0 6) = Int32.toInt (q_30.1 0 6) := by rw [i_444.2 6 (by decide)]
                      try have t_467 : Int32.toInt (q_441.1 0 6 + 0) = Int32.toInt (q_441.1 0 6) + 0 := ti_add rfl (by decide) (by omega) (by omega)
                      have hTq_465 : TS q_465 := by rw [eq_465]; exact ts_f i_443 (ti_rg _).1 (ti_rg _).2
                      have hFq_465 : dFr [1, 2] [0, 6, 13, 32] q q_465 := by rw [eq_465]; exact hFq_441.f (by decide)
                      try have t_468 : Int32.toInt (x2_32 + 0) = Int32.toInt x2_32 + 0 := ti_add rfl (by decide) (by omega) (by omega)
                      have f_469 : 0 ≤ Int32.toInt (q_465.1 2 30) ∧ Int32.toInt (q_465.1 2 30) ≤ 6 := hTq_465.1 2 30
                      have w_470 : Int32.toInt (q_465.1 2 30) = Int32.toInt (q_441.1 2 30) := by rw [eq_465, dui_o (by decide)]
                      have f_471 : 0 ≤ Int32.toInt (q_465.1 2 26) ∧ Int32.toInt (q_465.1 2 26) ≤ 10 := hTq_465.1 2 26
                      have w_472 : Int32.toInt (q_465.1 2 26) = Int32.toInt (q_441.1 2 26) := by rw [eq_465, dui_o (by decide)]
                      exact hk_28 (q_465, (q.1 0 13), (x2_32 + 0), (x3_33 + 2)) (show (TS q_465) ∧ (dFr [2] [6] q_26 q_465) ∧ ((q.1 0 13) = (q.1 0 13)) ∧ (0 ≤ Int32.toInt (x3_33 + 2)) ∧ (Int32.toInt (x3_33 + 2) ≤ 402) ∧ (Int32.toInt (q_465.1 2 30) = Int32.toInt (q_26.1 2 30)) ∧ (Int32.toInt (q_465.1 2 26) = Int32.toInt (q_26.1 2 26)) from ⟨hTq_465, (by rw [eq_465]; exact (((((dFr.rf : dFr [2] [6] q_26 q_26).t a_35 (by decide) (by decide)) : dFr [2] [6] q_26 q_30).t i_444 (by decide) (by decide)) : dFr [2] [6] q_26 q_441).f (by decide)), rfl, by omega, by omega, by omega, by omega⟩) (show (402 - Int32.toInt (x3_33 + 2)).toNat < (402 - Int32.toInt x3_33).toNat by omega)
                  · unfold zX10_row_129
                    refine dOk_eq (A := 1) (B := 0) (by decide) (by decide) (fun c_473z c_473 => ?_) (fun c_474z c_474 => ?_)
                    · unfold zX10_row_146
                      refine dOk_L (fun q_476 eq_476 => ?_)
                      have w_477 : Int32.toInt (q_441.1 0 6) = Int32.toInt (q_30.1 0 6) := by rw [i_444.2 6 (by decide)]
                      try have t_478 : Int32.toInt (q_441.1 0 6 + 1) = Int32.toInt (q_441.1 0 6) + 1 := ti_add rfl (by decide) (by omega) (by omega)
                      have hTq_476 : TS q_476 := by rw [eq_476]; exact ts_f i_443 (ti_rg _).1 (ti_rg _).2
                      have hFq_476 : dFr [1, 2] [0, 6, 13, 32] q q_476 := by rw [eq_476]; exact hFq_441.f (by decide)
                      try have t_479 : Int32.toInt (x2_32 + 1) = Int32.toInt x2_32 + 1 := ti_add rfl (by decide) (by omega) (by omega)
                      have f_480 : 0 ≤ Int32.toInt (q_476.1 2 30) ∧ Int32.toInt (q_476.1 2 30) ≤ 6 := hTq_476.1 2 30
                      have w_481 : Int32.toInt (q_476.1 2 30) = Int32.toInt (q_441.1 2 30) := by rw [eq_476, dui_o (by decide)]
                      have f_482 : 0 ≤ Int32.toInt (q_476.1 2 26) ∧ Int32.toInt (q_476.1 2 26) ≤ 10 := hTq_476.1 2 26
                      have w_483 : Int32.toInt (q_476.1 2 26) = Int32.toInt (q_441.1 2 26) := by rw [eq_476, dui_o (by decide)]
                      exact hk_28 (q_476, (q.1 0 13), (x2_32 + 1), (x3_33 + 2)) (show (TS q_476) ∧ (dFr [2] [6] q_26 q_476) ∧ ((q.1 0 13) = (q.1 0 13)) ∧ (0 ≤ Int32.toInt (x3_33 + 2)) ∧ (Int32.toInt (x3_33 + 2) ≤ 402) ∧ (Int32.toInt (q_476.1 2 30) = Int32.toInt (q_26.1 2 30)) ∧ (Int32.toInt (q_476.1 2 26) = Int32.toInt (q_26.1 2 26)) from ⟨hTq_476, (by rw [eq_476]; exact (((((dFr.rf : dFr [2] [6] q_26 q_26).t a_35 (by decide) (by decide)) : dFr [2] [6] q_26 q_30).t i_444 (by decide) (by decide)) : dFr [2] [6] q_26 q_441).f (by decide)), rfl, by omega, by omega, by omega, by omega⟩) (show (402 - Int32.toInt (x3_33 + 2)).toNat < (402 - Int32.toInt x3_33).toNat by omega)
                    · unfold zX10_row_146
                      refine dOk_L (fun q_484 eq_484 => ?_)
                      have w_485 : Int32.toInt (q_441.1 0 6) = Int32.toInt (q_30.1 0 6) := by rw [i_444.2 6 (by decide)]
                      try have t_486 : Int32.toInt (q_441.1 0 6 + 0) = Int32.toInt (q_441.1 0 6) + 0 := ti_add rfl (by decide) (by omega) (by omega)
                      have hTq_484 : TS q_484 := by rw [eq_484]; exact ts_f i_443 (ti_rg _).1 (ti_rg _).2
                      have hFq_484 : dFr [1, 2] [0, 6, 13, 32] q q_484 := by rw [eq_484]; exact hFq_441.f (by decide)
                      try have t_487 : Int32.toInt (x2_32 + 1) = Int32.toInt x2_32 + 1 := ti_add rfl (by decide) (by omega) (by omega)
                      have f_488 : 0 ≤ Int32.toInt (q_484.1 2 30) ∧ Int32.toInt (q_484.1 2 30) ≤ 6 := hTq_484.1 2 30
                      have w_489 : Int32.toInt (q_484.1 2 30) = Int32.toInt (q_441.1 2 30) := by rw [eq_484, dui_o (by decide)]
                      have f_490 : 0 ≤ Int32.toInt (q_484.1 2 26) ∧ Int32.toInt (q_484.1 2 26) ≤ 10 := hTq_484.1 2 26
                      have w_491 : Int32.toInt (q_484.1 2 26) = Int32.toInt (q_441.1 2 26) := by rw [eq_484, dui_o (by decide)]
                      exact hk_28 (q_484, (q.1 0 13), (x2_32 + 1), (x3_33 + 2)) (show (TS q_484) ∧ (dFr [2] [6] q_26 q_484) ∧ ((q.1 0 13) = (q.1 0 13)) ∧ (0 ≤ Int32.toInt (x3_33 + 2)) ∧ (Int32.toInt (x3_33 + 2) ≤ 402) ∧ (Int32.toInt (q_484.1 2 30) = Int32.toInt (q_26.1 2 30)) ∧ (Int32.toInt (q_484.1 2 26) = Int32.toInt (q_26.1 2 26)) from ⟨hTq_484, (by rw [eq_484]; exact (((((dFr.rf : dFr [2] [6] q_26 q_26).t a_35 (by decide) (by decide)) : dFr [2] [6] q_26 q_30).t i_444 (by decide) (by decide)) : dFr [2] [6] q_26 q_441).f (by decide)), rfl, by omega, by omega, by omega, by omega⟩) (show (402 - Int32.toInt (x3_33 + 2)).toNat < (402 - Int32.toInt x3_33).toNat by omega)
              · unfold zX10_row_92
                unfold zX10_row_93
                refine dOk_eq (A := 0) (B := 0) (by decide) (by decide) (fun c_492z c_492 => ?_) (fun c_493z c_493 => ?_)
                · unfold zX10_row_118
                  refine dOk_eq (A := 0) (B := 0) (by decide) (by decide) (fun c_495z c_495 => ?_) (fun c_496z c_496 => ?_)
                  · unfold zX10_row_129
                    refine dOk_eq (A := 0) (B := 0) (by decide) (by decide) (fun c_498z c_498 => ?_) (fun c_499z c_499 => ?_)
                    · unfold zX10_row_146
                      refine dOk_L (fun q_501 eq_501 => ?_)
                      try have t_502 : Int32.toInt (q_30.1 0 6 + 1) = Int32.toInt (q_30.1 0 6) + 1 := ti_add rfl (by decide) (by omega) (by omega)
                      have hTq_501 : TS q_501 := by rw [eq_501]; exact ts_f a_34 (ti_rg _).1 (ti_rg _).2
                      have hFq_501 : dFr [1, 2] [0, 6, 13, 32] q q_501 := by rw [eq_501]; exact hFq_30.f (by decide)
                      try have t_503 : Int32.toInt (x2_32 + 0) = Int32.toInt x2_32 + 0 := ti_add rfl (by decide) (by omega) (by omega)
                      have f_504 : 0 ≤ Int32.toInt (q_501.1 2 30) ∧ Int32.toInt (q_501.1 2 30) ≤ 6 := hTq_501.1 2 30
                      have w_505 : Int32.toInt (q_501.1 2 30) = Int32.toInt (q_30.1 2 30) := by rw [eq_501, dui_o (by decide)]
                      have f_506 : 0 ≤ Int32.toInt (q_501.1 2 26) ∧ Int32.toInt (q_501.1 2 26) ≤ 10 := hTq_501.1 2 26
                      have w_507 : Int32.toInt (q_501.1 2 26) = Int32.toInt (q_30.1 2 26) := by rw [eq_501, dui_o (by decide)]
                      exact hk_28 (q_501, (q.1 0 13), (x2_32 + 0), (x3_33 + 2)) (show (TS q_501) ∧ (dFr [2] [6] q_26 q_501) ∧ ((q.1 0 13) = (q.1 0 13)) ∧ (0 ≤ Int32.toInt (x3_33 + 2)) ∧ (Int32.toInt (x3_33 + 2) ≤ 402) ∧ (Int32.toInt (q_501.1 2 30) = Int32.toInt (q_26.1 2 30)) ∧ (Int32.toInt (q_501.1 2 26) = Int32.toInt (q_26.1 2 26)) from ⟨hTq_501, (by rw [eq_501]; exact (((dFr.rf : dFr [2] [6] q_26 q_26).t a_35 (by decide) (by decide)) : dFr [2] [6] q_26 q_30).f (by decide)), rfl, by omega, by omega, by omega, by omega⟩) (show (402 - Int32.toInt (x3_33 + 2)).toNat < (402 - Int32.toInt x3_33).toNat by omega)
                    · unfold zX10_row_146
                      refine dOk_L (fun q_508 eq_508 => ?_)
                      try have t_509 : Int32.toInt (q_30.1 0 6 + 0) = Int32.toInt (q_30.1 0 6) + 0 := ti_add rfl (by decide) (by omega) (by omega)
                      have hTq_508 : TS q_508 := by rw [eq_508]; exact ts_f a_34 (ti_rg _).1 (ti_rg _).2
                      have hFq_508 : dFr [1, 2] [0, 6, 13, 32] q q_508 := by rw [eq_508]; exact hFq_30.f (by decide)
                      try have t_510 : Int32.toInt (x2_32 + 0) = Int32.toInt x2_32 + 0 := ti_add rfl (by decide) (by omega) (by omega)
                      have f_511 : 0 ≤ Int32.toInt (q_508.1 2 30) ∧ Int32.toInt (q_508.1 2 30) ≤ 6 := hTq_508.1 2 30
                      have w_512 : Int32.toInt (q_508.1 2 30) = Int32.toInt (q_30.1 2 30) := by rw [eq_508, dui_o (by decide)]
                      have f_513 : 0 ≤ Int32.toInt (q_508.1 2 26) ∧ Int32.toInt (q_508.1 2 26) ≤ 10 := hTq_508.1 2 26
                      have w_514 : Int32.toInt (q_508.1 2 26) = Int32.toInt (q_30.1 2 26) := by rw [eq_508, dui_o (by decide)]
                      exact hk_28 (q_508, (q.1 0 13), (x2_32 + 0), (x3_33 + 2)) (show (TS q_508) ∧ (dFr [2] [6] q_26 q_508) ∧ ((q.1 0 13) = (q.1 0 13)) ∧ (0 ≤ Int32.toInt (x3_33 + 2)) ∧ (Int32.toInt (x3_33 + 2) ≤ 402) ∧ (Int32.toInt (q_508.1 2 30) = Int32.toInt (q_26.1 2 30)) ∧ (Int32.toInt (q_508.1 2 26) = Int32.toInt (q_26.1 2 26)) from ⟨hTq_508, (by rw [eq_508]; exact (((dFr.rf : dFr [2] [6] q_26 q_26).t a_35 (by decide) (by decide)) : dFr [2] [6] q_26 q_30).f (by decide)), rfl, by omega, by omega, by omega, by omega⟩) (show (402 - Int32.toInt (x3_33 + 2)).toNat < (402 - Int32.toInt x3_33).toNat by omega)
                  · unfold zX10_row_129
                    refine dOk_eq (A := 0) (B := 0) (by decide) (by decide) (fun c_515z c_515 => ?_) (fun c_516z c_516 => ?_)
                    · unfold zX10_row_146
                      refine dOk_L (fun q_518 eq_518 => ?_)
                      try have t_519 : Int32.toInt (q_30.1 0 6 + 1) = Int32.toInt (q_30.1 0 6) + 1 := ti_add rfl (by decide) (by omega) (by omega)
                      have hTq_518 : TS q_518 := by rw [eq_518]; exact ts_f a_34 (ti_rg _).1 (ti_rg _).2
                      have hFq_518 : dFr [1, 2] [0, 6, 13, 32] q q_518 := by rw [eq_518]; exact hFq_30.f (by decide)
                      try have t_520 : Int32.toInt (x2_32 + 1) = Int32.toInt x2_32 + 1 := ti_add rfl (by decide) (by omega) (by omega)
                      have f_521 : 0 ≤ Int32.toInt (q_518.1 2 30) ∧ Int32.toInt (q_518.1 2 30) ≤ 6 := hTq_518.1 2 30
                      have w_522 : Int32.toInt (q_518.1 2 30) = Int32.toInt (q_30.1 2 30) := by rw [eq_518, dui_o (by decide)]
                      have f_523 : 0 ≤ Int32.toInt (q_518.1 2 26) ∧ Int32.toInt (q_518.1 2 26) ≤ 10 := hTq_518.1 2 26
                      have w_524 : Int32.toInt (q_518.1 2 26) = Int32.toInt (q_30.1 2 26) := by rw [eq_518, dui_o (by decide)]
                      exact hk_28 (q_518, (q.1 0 13), (x2_32 + 1), (x3_33 + 2)) (show (TS q_518) ∧ (dFr [2] [6] q_26 q_518) ∧ ((q.1 0 13) = (q.1 0 13)) ∧ (0 ≤ Int32.toInt (x3_33 + 2)) ∧ (Int32.toInt (x3_33 + 2) ≤ 402) ∧ (Int32.toInt (q_518.1 2 30) = Int32.toInt (q_26.1 2 30)) ∧ (Int32.toInt (q_518.1 2 26) = Int32.toInt (q_26.1 2 26)) from ⟨hTq_518, (by rw [eq_518]; exact (((dFr.rf : dFr [2] [6] q_26 q_26).t a_35 (by decide) (by decide)) : dFr [2] [6] q_26 q_30).f (by decide)), rfl, by omega, by omega, by omega, by omega⟩) (show (402 - Int32.toInt (x3_33 + 2)).toNat < (402 - Int32.toInt x3_33).toNat by omega)
                    · unfold zX10_row_146
                      refine dOk_L (fun q_525 eq_525 => ?_)
                      try have t_526 : Int32.toInt (q_30.1 0 6 + 0) = Int32.toInt (q_30.1 0 6) + 0 := ti_add rfl (by decide) (by omega) (by omega)
                      have hTq_525 : TS q_525 := by rw [eq_525]; exact ts_f a_34 (ti_rg _).1 (ti_rg _).2
                      have hFq_525 : dFr [1, 2] [0, 6, 13, 32] q q_525 := by rw [eq_525]; exact hFq_30.f (by decide)
                      try have t_527 : Int32.toInt (x2_32 + 1) = Int32.toInt x2_32 + 1 := ti_add rfl (by decide) (by omega) (by omega)
                      have f_528 : 0 ≤ Int32.toInt (q_525.1 2 30) ∧ Int32.toInt (q_525.1 2 30) ≤ 6 := hTq_525.1 2 30
                      have w_529 : Int32.toInt (q_525.1 2 30) = Int32.toInt (q_30.1 2 30) := by rw [eq_525, dui_o (by decide)]
                      have f_530 : 0 ≤ Int32.toInt (q_525.1 2 26) ∧ Int32.toInt (q_525.1 2 26) ≤ 10 := hTq_525.1 2 26
                      have w_531 : Int32.toInt (q_525.1 2 26) = Int32.toInt (q_30.1 2 26) := by rw [eq_525, dui_o (by decide)]
                      exact hk_28 (q_525, (q.1 0 13), (x2_32 + 1), (x3_33 + 2)) (show (TS q_525) ∧ (dFr [2] [6] q_26 q_525) ∧ ((q.1 0 13) = (q.1 0 13)) ∧ (0 ≤ Int32.toInt (x3_33 + 2)) ∧ (Int32.toInt (x3_33 + 2) ≤ 402) ∧ (Int32.toInt (q_525.1 2 30) = Int32.toInt (q_26.1 2 30)) ∧ (Int32.toInt (q_525.1 2 26) = Int32.toInt (q_26.1 2 26)) from ⟨hTq_525, (by rw [eq_525]; exact (((dFr.rf : dFr [2] [6] q_26 q_26).t a_35 (by decide) (by decide)) : dFr [2] [6] q_26 q_30).f (by decide)), rfl, by omega, by omega, by omega, by omega⟩) (show (402 - Int32.toInt (x3_33 + 2)).toNat < (402 - Int32.toInt x3_33).toNat by omega)
                · refine dOk_G (dg_ok (show 0 ≤ Int32.toInt x3_33 by omega) (show Int32.toInt x3_33 < ((400 : Nat) : Int) by omega)) ?_
                  refine dOk_L (fun v_532 ev_532 => ?_)
                  have w_533 : Int32.toInt v_532 = Int32.toInt v_180 := by rw [ev_532, ev_180]
                  refine dOk_G (dg_ok (show 0 ≤ Int32.toInt (x3_33 + 1) by omega) (show Int32.toInt (x3_33 + 1) < ((400 : Nat) : Int) by omega)) ?_
                  refine dOk_L (fun v_534 ev_534 => ?_)
                  have w_535 : Int32.toInt v_534 = Int32.toInt v_285 := by rw [ev_534, ev_285]
                  refine dOk_V (ok_adds q_30 v_532 v_534 a_34 (show Int32.toInt (q_30.1 2 29) < 6 by omega) (show 0 ≤ Int32.toInt v_532 ∧ Int32.toInt v_532 ≤ 5 by omega) (show 0 ≤ Int32.toInt v_534 ∧ Int32.toInt v_534 ≤ 1 by omega)) (fun q_536 h_537 => ?_)
                  replace h_537 : (TS q_536) ∧ (dFr [2] [] q_30 q_536) ∧ (Int32.toInt (q_536.1 2 29) = Int32.toInt (q_30.1 2 29) + 1) ∧ (Int32.toInt (q_536.1 2 30) = Int32.toInt (q_30.1 2 30)) ∧ (Int32.toInt (q_536.1 2 26) = Int32.toInt (q_30.1 2 26)) := h_537
                  obtain ⟨i_538, i_539, i_540, i_541, i_542⟩ := h_537
                  have hFq_536 : dFr [1, 2] [0, 6, 13, 32] q q_536 := hFq_30.t i_539 (by decide) (by decide)
                  have f_543 : 0 ≤ Int32.toInt (q_536.1 2 29) ∧ Int32.toInt (q_536.1 2 29) ≤ 6 := i_538.1 2 29
                  have f_544 : 0 ≤ Int32.toInt (q_536.1 2 30) ∧ Int32.toInt (q_536.1 2 30) ≤ 6 := i_538.1 2 30
                  have f_545 : 0 ≤ Int32.toInt (q_536.1 2 26) ∧ Int32.toInt (q_536.1 2 26) ≤ 10 := i_538.1 2 26
                  unfold zX10_row_118
                  refine dOk_eq (A := 0) (B := 0) (by decide) (by decide) (fun c_546z c_546 => ?_) (fun c_547z c_547 => ?_)
                  · unfold zX10_row_129
                    refine dOk_eq (A := 0) (B := 0) (by decide) (by decide) (fun c_549z c_549 => ?_) (fun c_550z c_550 => ?_)
                    · unfold zX10_row_146
                      refine dOk_L (fun q_552 eq_552 => ?_)
                      have w_553 : Int32.toInt (q_536.1 0 6) = Int32.toInt (q_30.1 0 6) := by rw [i_539.2 6 (by decide)]
                      try have t_554 : Int32.toInt (q_536.1 0 6 + 1) = Int32.toInt (q_536.1 0 6) + 1 := ti_add rfl (by decide) (by omega) (by omega)
                      have hTq_552 : TS q_552 := by rw [eq_552]; exact ts_f i_538 (ti_rg _).1 (ti_rg _).2
                      have hFq_552 : dFr [1, 2] [0, 6, 13, 32] q q_552 := by rw [eq_552]; exact hFq_536.f (by decide)
                      try have t_555 : Int32.toInt (x2_32 + 0) = Int32.toInt x2_32 + 0 := ti_add rfl (by decide) (by omega) (by omega)
                      have f_556 : 0 ≤ Int32.toInt (q_552.1 2 30) ∧ Int32.toInt (q_552.1 2 30) ≤ 6 := hTq_552.1 2 30
                      have w_557 : Int32.toInt (q_552.1 2 30) = Int32.toInt (q_536.1 2 30) := by rw [eq_552, dui_o (by decide)]
                      have f_558 : 0 ≤ Int32.toInt (q_552.1 2 26) ∧ Int32.toInt (q_552.1 2 26) ≤ 10 := hTq_552.1 2 26
                      have w_559 : Int32.toInt (q_552.1 2 26) = Int32.toInt (q_536.1 2 26) := by rw [eq_552, dui_o (by decide)]
                      exact hk_28 (q_552, (q.1 0 13), (x2_32 + 0), (x3_33 + 2)) (show (TS q_552) ∧ (dFr [2] [6] q_26 q_552) ∧ ((q.1 0 13) = (q.1 0 13)) ∧ (0 ≤ Int32.toInt (x3_33 + 2)) ∧ (Int32.toInt (x3_33 + 2) ≤ 402) ∧ (Int32.toInt (q_552.1 2 30) = Int32.toInt (q_26.1 2 30)) ∧ (Int32.toInt (q_552.1 2 26) = Int32.toInt (q_26.1 2 26)) from ⟨hTq_552, (by rw [eq_552]; exact (((((dFr.rf : dFr [2] [6] q_26 q_26).t a_35 (by decide) (by decide)) : dFr [2] [6] q_26 q_30).t i_539 (by decide) (by decide)) : dFr [2] [6] q_26 q_536).f (by decide)), rfl, by omega, by omega, by omega, by omega⟩) (show (402 - Int32.toInt (x3_33 + 2)).toNat < (402 - Int32.toInt x3_33).toNat by omega)
                    · unfold zX10_row_146
                      refine dOk_L (fun q_560 eq_560 => ?_)
                      have w_561 : Int32.toInt (q_536.1 0 6) = Int32.toInt (q_30.1 0 6) := by rw [i_539.2 6 (by decide)]
                      try have t_562 : Int32.toInt (q_536.1 0 6 + 0) = Int32.toInt (q_536.1 0 6) + 0 := ti_add rfl (by decide) (by omega) (by omega)
                      have hTq_560 : TS q_560 := by rw [eq_560]; exact ts_f i_538 (ti_rg _).1 (ti_rg _).2
                      have hFq_560 : dFr [1, 2] [0, 6, 13, 32] q q_560 := by rw [eq_560]; exact hFq_536.f (by decide)
                      try have t_563 : Int32.toInt (x2_32 + 0) = Int32.toInt x2_32 + 0 := ti_add rfl (by decide) (by omega) (by omega)
                      have f_564 : 0 ≤ Int32.toInt (q_560.1 2 30) ∧ Int32.toInt (q_560.1 2 30) ≤ 6 := hTq_560.1 2 30
                      have w_565 : Int32.toInt (q_560.1 2 30) = Int32.toInt (q_536.1 2 30) := by rw [eq_560, dui_o (by decide)]
                      have f_566 : 0 ≤ Int32.toInt (q_560.1 2 26) ∧ Int32.toInt (q_560.1 2 26) ≤ 10 := hTq_560.1 2 26
                      have w_567 : Int32.toInt (q_560.1 2 26) = Int32.toInt (q_536.1 2 26) := by rw [eq_560, dui_o (by decide)]
                      exact hk_28 (q_560, (q.1 0 13), (x2_32 + 0), (x3_33 + 2)) (show (TS q_560) ∧ (dFr [2] [6] q_26 q_560) ∧ ((q.1 0 13) = (q.1 0 13)) ∧ (0 ≤ Int32.toInt (x3_33 + 2)) ∧ (Int32.toInt (x3_33 + 2) ≤ 402) ∧ (Int32.toInt (q_560.1 2 30) = Int32.toInt (q_26.1 2 30)) ∧ (Int32.toInt (q_560.1 2 26) = Int32.toInt (q_26.1 2 26)) from ⟨hTq_560, (by rw [eq_560]; exact (((((dFr.rf : dFr [2] [6] q_26 q_26).t a_35 (by decide) (by decide)) : dFr [2] [6] q_26 q_30).t i_539 (by decide) (by decide)) : dFr [2] [6] q_26 q_536).f (by decide)), rfl, by omega, by omega, by omega, by omega⟩) (show (402 - Int32.toInt (x3_33 + 2)).toNat < (402 - Int32.toInt x3_33).toNat by omega)
                  · unfold zX10_row_129
                    refine dOk_eq (A := 0) (B := 0) (by decide) (by decide) (fun c_568z c_568 => ?_) (fun c_569z c_569 => ?_)
                    · unfold zX10_row_146
                      refine dOk_L (fun q_571 eq_571 => ?_)
                      have w_572 : Int32.toInt (q_536.1 0 6) = Int32.toInt (q_30.1 0 6) := by rw [i_539.2 6 (by decide)]
                      try have t_573 : Int32.toInt (q_536.1 0 6 + 1) = Int32.toInt (q_536.1 0 6) + 1 := ti_add rfl (by decide) (by omega) (by omega)
                      have hTq_571 : TS q_571 := by rw [eq_571]; exact ts_f i_538 (ti_rg _).1 (ti_rg _).2
                      have hFq_571 : dFr [1, 2] [0, 6, 13, 32] q q_571 := by rw [eq_571]; exact hFq_536.f (by decide)
                      try have t_574 : Int32.toInt (x2_32 + 1) = Int32.toInt x2_32 + 1 := ti_add rfl (by decide) (by omega) (by omega)
                      have f_575 : 0 ≤ Int32.toInt (q_571.1 2 30) ∧ Int32.toInt (q_571.1 2 30) ≤ 6 := hTq_571.1 2 30
                      have w_576 : Int32.toInt (q_571.1 2 30) = Int32.toInt (q_536.1 2 30) := by rw [eq_571, dui_o (by decide)]
                      have f_577 : 0 ≤ Int32.toInt (q_571.1 2 26) ∧ Int32.toInt (q_571.1 2 26) ≤ 10 := hTq_571.1 2 26
                      have w_578 : Int32.toInt (q_571.1 2 26) = Int32.toInt (q_536.1 2 26) := by rw [eq_571, dui_o (by decide)]
                      exact hk_28 (q_571, (q.1 0 13), (x2_32 + 1), (x3_33 + 2)) (show (TS q_571) ∧ (dFr [2] [6] q_26 q_571) ∧ ((q.1 0 13) = (q.1 0 13)) ∧ (0 ≤ Int32.toInt (x3_33 + 2)) ∧ (Int32.toInt (x3_33 + 2) ≤ 402) ∧ (Int32.toInt (q_571.1 2 30) = Int32.toInt (q_26.1 2 30)) ∧ (Int32.toInt (q_571.1 2 26) = Int32.toInt (q_26.1 2 26)) from ⟨hTq_571, (by rw [eq_571]; exact (((((dFr.rf : dFr [2] [6] q_26 q_26).t a_35 (by decide) (by decide)) : dFr [2] [6] q_26 q_30).t i_539 (by decide) (by decide)) : dFr [2] [6] q_26 q_536).f (by decide)), rfl, by omega, by omega, by omega, by omega⟩) (show (402 - Int32.toInt (x3_33 + 2)).toNat < (402 - Int32.toInt x3_33).toNat by omega)
                    · unfold zX10_row_146
                      refine dOk_L (fun q_579 eq_579 => ?_)
                      have w_580 : Int32.toInt (q_536.1 0 6) = Int32.toInt (q_30.1 0 6) := by rw [i_539.2 6 (by decide)]
                      try have t_581 : Int32.toInt (q_536.1 0 6 + 0) = Int32.toInt (q_536.1 0 6) + 0 := ti_add rfl (by decide) (by omega) (by omega)
                      have hTq_579 : TS q_579 := by rw [eq_579]; exact ts_f i_538 (ti_rg _).1 (ti_rg _).2
                      have hFq_579 : dFr [1, 2] [0, 6, 13, 32] q q_579 := by rw [eq_579]; exact hFq_536.f (by decide)
                      try have t_582 : Int32.toInt (x2_32 + 1) = Int32.toInt x2_32 + 1 := ti_add rfl (by decide) (by omega) (by omega)
                      have f_583 : 0 ≤ Int32.toInt (q_579.1 2 30) ∧ Int32.toInt (q_579.1 2 30) ≤ 6 := hTq_579.1 2 30
                      have w_584 : Int32.toInt (q_579.1 2 30) = Int32.toInt (q_536.1 2 30) := by rw [eq_579, dui_o (by decide)]
                      have f_585 : 0 ≤ Int32.toInt (q_579.1 2 26) ∧ Int32.toInt (q_579.1 2 26) ≤ 10 := hTq_579.1 2 26
                      have w_586 : Int32.toInt (q_579.1 2 26) = Int32.toInt (q_536.1 2 26) := by rw [eq_579, dui_o (by decide)]
                      exact hk_28 (q_579, (q.1 0 13), (x2_32 + 1), (x3_33 + 2)) (show (TS q_579) ∧ (dFr [2] [6] q_26 q_579) ∧ ((q.1 0 13) = (q.1 0 13)) ∧ (0 ≤ Int32.toInt (x3_33 + 2)) ∧ (Int32.toInt (x3_33 + 2) ≤ 402) ∧ (Int32.toInt (q_579.1 2 30) = Int32.toInt (q_26.1 2 30)) ∧ (Int32.toInt (q_579.1 2 26) = Int32.toInt (q_26.1 2 26)) from ⟨hTq_579, (by rw [eq_579]; exact (((((dFr.rf : dFr [2] [6] q_26 q_26).t a_35 (by decide) (by decide)) : dFr [2] [6] q_26 q_30).t i_539 (by decide) (by decide)) : dFr [2] [6] q_26 q_536).f (by decide)), rfl, by omega, by omega, by omega, by omega⟩) (show (402 - Int32.toInt (x3_33 + 2)).toNat < (402 - Int32.toInt x3_33).toNat by omega)
    · have f_587 : 0 ≤ Int32.toInt (q_26.1 2 30) ∧ Int32.toInt (q_26.1 2 30) ≤ 6 := hTq_26.1 2 30
      have f_588 : 0 ≤ Int32.toInt (q_1.1 2 30) ∧ Int32.toInt (q_1.1 2 30) ≤ 6 := hTq_1.1 2 30
      have f_589 : 0 ≤ Int32.toInt (q.1 2 30) ∧ Int32.toInt (q.1 2 30) ≤ 6 := hT.1 2 30
      have w_590 : Int32.toInt (q_1.1 2 30) = Int32.toInt (q.1 2 30) := by rw [eq_1, dui_o (by decide)]
      have w_591 : Int32.toInt (q_26.1 2 30) = Int32.toInt (q_1.1 2 30) := by rw [eq_26, dui_o (by decide)]
      have f_592 : 0 ≤ Int32.toInt (q_26.1 2 26) ∧ Int32.toInt (q_26.1 2 26) ≤ 10 := hTq_26.1 2 26
      have f_593 : 0 ≤ Int32.toInt (q_1.1 2 26) ∧ Int32.toInt (q_1.1 2 26) ≤ 10 := hTq_1.1 2 26
      have f_594 : 0 ≤ Int32.toInt (q.1 2 26) ∧ Int32.toInt (q.1 2 26) ≤ 10 := hT.1 2 26
      have w_595 : Int32.toInt (q_1.1 2 26) = Int32.toInt (q.1 2 26) := by rw [eq_1, dui_o (by decide)]
      have w_596 : Int32.toInt (q_26.1 2 26) = Int32.toInt (q_1.1 2 26) := by rw [eq_26, dui_o (by decide)]
      exact (show (TS q_26) ∧ (dFr [2] [6] q_26 q_26) ∧ ((q.1 0 13) = (q.1 0 13)) ∧ (0 ≤ (0 : Int)) ∧ ((0 : Int) ≤ 402) ∧ (Int32.toInt (q_26.1 2 30) = Int32.toInt (q_26.1 2 30)) ∧ (Int32.toInt (q_26.1 2 26) = Int32.toInt (q_26.1 2 26)) from ⟨hTq_26, dFr.rf, rfl, by omega, by omega, by omega, by omega⟩)
    · show (402 - (0 : Int)).toNat < 1000000000000
      omega
