set_option maxHeartbeats 4000000 in
set_option maxRecDepth 100000 in
theorem ok_years (q : dS) (p1 : Int32) (p2 : Int32) (hT : TS q) : dOk (zX10_years q p1 p2) (fun (o : Int32 × dS) => (TS o.2) ∧ (dFr [1, 2, 5, 12, 13, 27] [0, 22, 23, 24, 25, 54, 55] q o.2)) := by
  unfold zX10_years
  refine dOk_V (ok_lies p1 0 1000000) (fun r_1 h_2 => ?_)
  replace h_2 : ((Int32.toInt r_1 = 1 ∧ (0 : Int) ≤ Int32.toInt p1 ∧ Int32.toInt p1 ≤ (1000000 : Int)) ∨ (Int32.toInt r_1 = 0 ∧ (Int32.toInt p1 < (0 : Int) ∨ (1000000 : Int) < Int32.toInt p1))) := h_2
  have i_3 := h_2
  refine dOk_eq (A := Int32.toInt r_1) (B := 0) rfl (by decide) (fun c_4z c_4 => ?_) (fun c_5z c_5 => ?_)
  · unfold zX10_years_20
    refine dOk_B (ok_refuses q (-1) hT (show (-6) ≤ (-1 : Int) by omega) (show (-1 : Int) ≤ 0 by omega)) (fun r_7 q_8 h_9 => ?_)
    replace h_9 : (TS q_8) ∧ (dFr [1] [0] q q_8) ∧ (Int32.toInt r_7 = (-1 : Int)) := h_9
    obtain ⟨i_10, i_11, i_12⟩ := h_9
    have hFq_8 : dFr [1, 2, 5, 12, 13, 27] [0, 22, 23, 24, 25, 54, 55] q q_8 := (dFr.rf (q := q)).t i_11 (by decide) (by decide)
    exact dOk_some (show (TS q_8) ∧ (dFr [1, 2, 5, 12, 13, 27] [0, 22, 23, 24, 25, 54, 55] q q_8) from ⟨i_10, hFq_8⟩)
  · refine dOk_V (ok_lies p2 1 60) (fun r_13 h_14 => ?_)
    replace h_14 : ((Int32.toInt r_13 = 1 ∧ (1 : Int) ≤ Int32.toInt p2 ∧ Int32.toInt p2 ≤ (60 : Int)) ∨ (Int32.toInt r_13 = 0 ∧ (Int32.toInt p2 < (1 : Int) ∨ (60 : Int) < Int32.toInt p2))) := h_14
    have i_15 := h_14
    refine dOk_eq (A := Int32.toInt r_13) (B := 0) rfl (by decide) (fun c_16z c_16 => ?_) (fun c_17z c_17 => ?_)
    · unfold zX10_years_20
      refine dOk_B (ok_refuses q (-1) hT (show (-6) ≤ (-1 : Int) by omega) (show (-1 : Int) ≤ 0 by omega)) (fun r_19 q_20 h_21 => ?_)
      replace h_21 : (TS q_20) ∧ (dFr [1] [0] q q_20) ∧ (Int32.toInt r_19 = (-1 : Int)) := h_21
      obtain ⟨i_22, i_23, i_24⟩ := h_21
      have hFq_20 : dFr [1, 2, 5, 12, 13, 27] [0, 22, 23, 24, 25, 54, 55] q q_20 := (dFr.rf (q := q)).t i_23 (by decide) (by decide)
      exact dOk_some (show (TS q_20) ∧ (dFr [1, 2, 5, 12, 13, 27] [0, 22, 23, 24, 25, 54, 55] q q_20) from ⟨i_22, hFq_20⟩)
    · refine dOk_B (ok_size q hT) (fun r_25 q_26 h_27 => ?_)
      replace h_27 : (q_26 = q) ∧ (Int32.toInt r_25 = Int32.toInt (q.1 2 29)) ∧ (0 ≤ Int32.toInt r_25 ∧ Int32.toInt r_25 ≤ 6) := h_27
      obtain ⟨i_28, i_29, i_30⟩ := h_27
      subst q_26
      have f_31 : 0 ≤ Int32.toInt (q.1 2 29) ∧ Int32.toInt (q.1 2 29) ≤ 6 := hT.1 2 29
      refine dOk_eq (A := Int32.toInt r_25) (B := 0) rfl (by decide) (fun c_32z c_32 => ?_) (fun c_33z c_33 => ?_)
      · refine dOk_B (ok_refuses q (-3) hT (show (-6) ≤ (-3 : Int) by omega) (show (-3 : Int) ≤ 0 by omega)) (fun r_35 q_36 h_37 => ?_)
        replace h_37 : (TS q_36) ∧ (dFr [1] [0] q q_36) ∧ (Int32.toInt r_35 = (-3 : Int)) := h_37
        obtain ⟨i_38, i_39, i_40⟩ := h_37
        have hFq_36 : dFr [1, 2, 5, 12, 13, 27] [0, 22, 23, 24, 25, 54, 55] q q_36 := (dFr.rf (q := q)).t i_39 (by decide) (by decide)
        exact dOk_some (show (TS q_36) ∧ (dFr [1, 2, 5, 12, 13, 27] [0, 22, 23, 24, 25, 54, 55] q q_36) from ⟨i_38, hFq_36⟩)
      · refine dOk_L (fun q_41 eq_41 => ?_)
        have hTq_41 : TS q_41 := by rw [eq_41]; exact ts_f hT (show 0 ≤ Int32.toInt p1 by omega) (show Int32.toInt p1 ≤ 1000002 by omega)
        have hFq_41 : dFr [1, 2, 5, 12, 13, 27] [0, 22, 23, 24, 25, 54, 55] q q_41 := by rw [eq_41]; exact (dFr.rf (q := q)).f (by decide)
        refine dOk_B (ok_size q_41 hTq_41) (fun r_42 q_43 h_44 => ?_)
        replace h_44 : (q_43 = q_41) ∧ (Int32.toInt r_42 = Int32.toInt (q_41.1 2 29)) ∧ (0 ≤ Int32.toInt r_42 ∧ Int32.toInt r_42 ≤ 6) := h_44
        obtain ⟨i_45, i_46, i_47⟩ := h_44
        subst q_43
        have f_48 : 0 ≤ Int32.toInt (q_41.1 2 29) ∧ Int32.toInt (q_41.1 2 29) ≤ 6 := hTq_41.1 2 29
        have w_49 : Int32.toInt (q_41.1 2 29) = Int32.toInt (q.1 2 29) := by rw [eq_41, dui_o (by decide)]
        refine dOk_L (fun q_50 eq_50 => ?_)
        have hTq_50 : TS q_50 := by rw [eq_50]; exact ts_f hTq_41 (show -1 ≤ Int32.toInt r_42 by omega) (show Int32.toInt r_42 ≤ 6 by omega)
        have hFq_50 : dFr [1, 2, 5, 12, 13, 27] [0, 22, 23, 24, 25, 54, 55] q q_50 := by rw [eq_50]; exact hFq_41.f (by decide)
        refine dOk_V (ok_laysAside q_50 0 hTq_50 (show 0 ≤ (0 : Int) by omega) (show (0 : Int) ≤ 1 by omega)) (fun q_51 h_52 => ?_)
        replace h_52 : (TS q_51) ∧ (dFr [5] [] q_50 q_51) := h_52
        obtain ⟨i_53, i_54⟩ := h_52
        have hFq_51 : dFr [1, 2, 5, 12, 13, 27] [0, 22, 23, 24, 25, 54, 55] q q_51 := hFq_50.t i_54 (by decide) (by decide)
        unfold zX10_years_69
        refine dFix_ok (fun (a : dS × Int32 × Int32 × Int32) => (TS a.1) ∧ (dFr [2, 12, 13] [22, 23, 24, 25, 55] q_51 a.1) ∧ (a.2.1 = p2) ∧ (a.2.2.1 = (q_51.1 2 12)) ∧ (0 ≤ Int32.toInt a.2.2.2) ∧ (Int32.toInt a.2.2.2 ≤ 60)) (fun (a : dS × Int32 × Int32 × Int32) => (60 - Int32.toInt a.2.2.2).toNat) ?_ _ ?_ _ (dF_gt ?_)
        · intro a ha k_56 hk_55
          obtain ⟨q_57, x2_58, x3_59, x4_60⟩ := a
          replace ha : (TS q_57) ∧ (dFr [2, 12, 13] [22, 23, 24, 25, 55] q_51 q_57) ∧ (x2_58 = p2) ∧ (x3_59 = (q_51.1 2 12)) ∧ (0 ≤ Int32.toInt x4_60) ∧ (Int32.toInt x4_60 ≤ 60) := ha
          obtain ⟨a_61, a_62, a_63, a_64, a_65, a_66⟩ := ha
          show dOk (zX10_years_69b  (fun q x2 x3 x4 => k_56 (q, x2, x3, x4)) q_57 x2_58 x3_59 x4_60) _
          unfold zX10_years_69b
          have hFq_57 : dFr [1, 2, 5, 12, 13, 27] [0, 22, 23, 24, 25, 54, 55] q q_57 := hFq_51.t a_62 (by decide) (by decide)
          subst x2_58
          subst x3_59
          have f_67 : 0 ≤ Int32.toInt (q_51.1 2 12) ∧ Int32.toInt (q_51.1 2 12) ≤ 9999 := i_53.1 2 12
          have f_68 : 0 ≤ Int32.toInt (q_50.1 2 12) ∧ Int32.toInt (q_50.1 2 12) ≤ 9999 := hTq_50.1 2 12
          have f_69 : 0 ≤ Int32.toInt (q_41.1 2 12) ∧ Int32.toInt (q_41.1 2 12) ≤ 9999 := hTq_41.1 2 12
          have f_70 : 0 ≤ Int32.toInt (q.1 2 12) ∧ Int32.toInt (q.1 2 12) ≤ 9999 := hT.1 2 12
          have w_71 : Int32.toInt (q_41.1 2 12) = Int32.toInt (q.1 2 12) := by rw [eq_41, dui_o (by decide)]
          have w_72 : Int32.toInt (q_50.1 2 12) = Int32.toInt (q_41.1 2 12) := by rw [eq_50, dui_o (by decide)]
          have w_73 : Int32.toInt (q_51.1 2 12) = Int32.toInt (q_50.1 2 12) := by rw [i_54.1 2 (by decide) (by decide)]
          refine dOk_le (A := Int32.toInt p2) (B := Int32.toInt x4_60) rfl rfl (fun c_74 => ?_) (fun c_75 => ?_)
          · unfold zX10_years_177
            unfold zX10_years_191
            refine dFix_ok (fun (a : dS × Int32 × Int32) => (TS a.1) ∧ (dFr [27] [] q_57 a.1) ∧ (a.2.1 = (q_57.1 2 12 - q_51.1 2 12)) ∧ (0 ≤ Int32.toInt a.2.2) ∧ (Int32.toInt a.2.2 ≤ 14)) (fun (a : dS × Int32 × Int32) => (14 - Int32.toInt a.2.2).toNat) ?_ _ ?_ _ (dF_gt ?_)
            · intro a ha k_77 hk_76
              obtain ⟨q_78, x4_79, x5_80⟩ := a
              replace ha : (TS q_78) ∧ (dFr [27] [] q_57 q_78) ∧ (x4_79 = (q_57.1 2 12 - q_51.1 2 12)) ∧ (0 ≤ Int32.toInt x5_80) ∧ (Int32.toInt x5_80 ≤ 14) := ha
              obtain ⟨a_81, a_82, a_83, a_84, a_85⟩ := ha
              show dOk (zX10_years_191b  (fun q x4 x5 => k_77 (q, x4, x5)) q_78 x4_79 x5_80) _
              unfold zX10_years_191b
              have hFq_78 : dFr [1, 2, 5, 12, 13, 27] [0, 22, 23, 24, 25, 54, 55] q q_78 := hFq_57.t a_82 (by decide) (by decide)
              subst x4_79
              have f_86 : 0 ≤ Int32.toInt (q_57.1 2 12) ∧ Int32.toInt (q_57.1 2 12) ≤ 9999 := a_61.1 2 12
              refine dOk_le (A := 14) (B := Int32.toInt x5_80) (by decide) rfl (fun c_87 => ?_) (fun c_88 => ?_)
              · refine dOk_V (ok_takesBack q_78 0 a_81 (show 0 ≤ (0 : Int) by omega) (show (0 : Int) ≤ 1 by omega)) (fun q_89 h_90 => ?_)
                replace h_90 : (TS q_89) ∧ (dFr [2] [] q_78 q_89) := h_90
                obtain ⟨i_91, i_92⟩ := h_90
                have hFq_89 : dFr [1, 2, 5, 12, 13, 27] [0, 22, 23, 24, 25, 54, 55] q q_89 := hFq_78.t i_92 (by decide) (by decide)
                try have t_93 : Int32.toInt (q_57.1 2 12 - q_51.1 2 12) = Int32.toInt (q_57.1 2 12) - Int32.toInt (q_51.1 2 12) := ti_sub rfl rfl (by omega) (by omega)
                refine dOk_B (ok_good q_89 (q_57.1 2 12 - q_51.1 2 12) i_91) (fun r_94 q_95 h_96 => ?_)
                replace h_96 : (TS q_95) ∧ (dFr [] [0] q_89 q_95) ∧ (Int32.toInt r_94 = Int32.toInt (q_57.1 2 12 - q_51.1 2 12)) := h_96
                obtain ⟨i_97, i_98, i_99⟩ := h_96
                have hFq_95 : dFr [1, 2, 5, 12, 13, 27] [0, 22, 23, 24, 25, 54, 55] q q_95 := hFq_89.t i_98 (by decide) (by decide)
                exact dOk_some (show (TS q_95) ∧ (dFr [1, 2, 5, 12, 13, 27] [0, 22, 23, 24, 25, 54, 55] q q_95) from ⟨i_97, hFq_95⟩)
              · refine dOk_G (dg_ok (show 0 ≤ Int32.toInt x5_80 by omega) (show Int32.toInt x5_80 < ((5640 : Nat) : Int) by omega)) ?_
                have n_100 : ((Int32.toNatClampNeg x5_80 : Nat) : Int) = Int32.toInt x5_80 := cl_eq (by omega)
                refine dOk_L (fun v_101 ev_101 => ?_)
                try have g_102 : klo (Int32.toNatClampNeg x5_80) ≤ Int32.toInt v_101 ∧ Int32.toInt v_101 ≤ khi (Int32.toNatClampNeg x5_80) := by rw [ev_101]; exact te_k a_81 _
                try have f_103 : 0 ≤ Int32.toInt v_101 ∧ Int32.toInt v_101 ≤ 5 := by rw [ev_101]; exact te_2r a_81 (by omega) (by omega)
                try have f_104 : 0 ≤ Int32.toInt v_101 ∧ Int32.toInt v_101 ≤ 1 := by rw [ev_101]; exact te_2h a_81 (by omega) (by omega)
                try have f_105 : 0 ≤ Int32.toInt v_101 ∧ Int32.toInt v_101 ≤ 5 := by rw [ev_101]; exact te_2s a_81 (by omega) (by omega)
                try have f_106 : 0 ≤ Int32.toInt v_101 ∧ Int32.toInt v_101 ≤ 400 := by rw [ev_101]; exact te_2z a_81 (by omega) (by omega)
                refine dOk_G (dg_ok (show 0 ≤ Int32.toInt x5_80 by omega) (show Int32.toInt x5_80 < ((14 : Nat) : Int) by omega)) ?_
                refine dOk_L (fun q_107 eq_107 => ?_)
                have hTq_107 : TS q_107 := by rw [eq_107]; first | exact ts_27 a_81 (show (Int32.toNatClampNeg x5_80) % 14 = Int32.toNatClampNeg x5_80 by omega) g_102 | exact ts_set a_81 (by decide) (by simp only [tlo, klo]; omega) (by simp only [thi, khi]; omega)
                have hFq_107 : dFr [1, 2, 5, 12, 13, 27] [0, 22, 23, 24, 25, 54, 55] q q_107 := by rw [eq_107]; exact hFq_78.i (by decide) (by decide)
                try have t_108 : Int32.toInt (q_57.1 2 12 - q_51.1 2 12) = Int32.toInt (q_57.1 2 12) - Int32.toInt (q_51.1 2 12) := ti_sub rfl rfl (by omega) (by omega)
                try have t_109 : Int32.toInt (x5_80 + 1) = Int32.toInt x5_80 + 1 := ti_add rfl (by decide) (by omega) (by omega)
                exact hk_76 (q_107, (q_57.1 2 12 - q_51.1 2 12), (x5_80 + 1)) (show (TS q_107) ∧ (dFr [27] [] q_57 q_107) ∧ ((q_57.1 2 12 - q_51.1 2 12) = (q_57.1 2 12 - q_51.1 2 12)) ∧ (0 ≤ Int32.toInt (x5_80 + 1)) ∧ (Int32.toInt (x5_80 + 1) ≤ 14) from ⟨hTq_107, (by rw [eq_107]; exact (((dFr.rf : dFr [27] [] q_57 q_57).t a_82 (by decide) (by decide)) : dFr [27] [] q_57 q_78).i (by decide) (by decide)), rfl, by omega, by omega⟩) (show (14 - Int32.toInt (x5_80 + 1)).toNat < (14 - Int32.toInt x5_80).toNat by omega)
            · have f_110 : 0 ≤ Int32.toInt (q_57.1 2 12) ∧ Int32.toInt (q_57.1 2 12) ≤ 9999 := a_61.1 2 12
              try have t_111 : Int32.toInt (q_57.1 2 12 - q_51.1 2 12) = Int32.toInt (q_57.1 2 12) - Int32.toInt (q_51.1 2 12) := ti_sub rfl rfl (by omega) (by omega)
              exact (show (TS q_57) ∧ (dFr [27] [] q_57 q_57) ∧ ((q_57.1 2 12 - q_51.1 2 12) = (q_57.1 2 12 - q_51.1 2 12)) ∧ (0 ≤ (0 : Int)) ∧ ((0 : Int) ≤ 14) from ⟨a_61, dFr.rf, rfl, by omega, by omega⟩)
            · have f_112 : 0 ≤ Int32.toInt (q_57.1 2 12) ∧ Int32.toInt (q_57.1 2 12) ≤ 9999 := a_61.1 2 12
              try have t_113 : Int32.toInt (q_57.1 2 12 - q_51.1 2 12) = Int32.toInt (q_57.1 2 12) - Int32.toInt (q_51.1 2 12) := ti_sub rfl rfl (by omega) (by omega)
              show (14 - (0 : Int)).toNat < 1000000000000
              omega
          · have f_114 : 0 ≤ Int32.toInt (q_57.1 2 13) ∧ Int32.toInt (q_57.1 2 13) ≤ 999 := a_61.1 2 13
            refine dOk_le (A := 999) (B := Int32.toInt (q_57.1 2 13)) (by decide) rfl (fun c_115 => ?_) (fun c_116 => ?_)
            · unfold zX10_years_177
              unfold zX10_years_191
              refine dFix_ok (fun (a : dS × Int32 × Int32) => (TS a.1) ∧ (dFr [27] [] q_57 a.1) ∧ (a.2.1 = (q_57.1 2 12 - q_51.1 2 12)) ∧ (0 ≤ Int32.toInt a.2.2) ∧ (Int32.toInt a.2.2 ≤ 14)) (fun (a : dS × Int32 × Int32) => (14 - Int32.toInt a.2.2).toNat) ?_ _ ?_ _ (dF_gt ?_)
              · intro a ha k_118 hk_117
                obtain ⟨q_119, x4_120, x5_121⟩ := a
                replace ha : (TS q_119) ∧ (dFr [27] [] q_57 q_119) ∧ (x4_120 = (q_57.1 2 12 - q_51.1 2 12)) ∧ (0 ≤ Int32.toInt x5_121) ∧ (Int32.toInt x5_121 ≤ 14) := ha
                obtain ⟨a_122, a_123, a_124, a_125, a_126⟩ := ha
                show dOk (zX10_years_191b  (fun q x4 x5 => k_118 (q, x4, x5)) q_119 x4_120 x5_121) _
                unfold zX10_years_191b
                have hFq_119 : dFr [1, 2, 5, 12, 13, 27] [0, 22, 23, 24, 25, 54, 55] q q_119 := hFq_57.t a_123 (by decide) (by decide)
                subst x4_120
                have f_127 : 0 ≤ Int32.toInt (q_57.1 2 12) ∧ Int32.toInt (q_57.1 2 12) ≤ 9999 := a_61.1 2 12
                refine dOk_le (A := 14) (B := Int32.toInt x5_121) (by decide) rfl (fun c_128 => ?_) (fun c_129 => ?_)
                · refine dOk_V (ok_takesBack q_119 0 a_122 (show 0 ≤ (0 : Int) by omega) (show (0 : Int) ≤ 1 by omega)) (fun q_130 h_131 => ?_)
                  replace h_131 : (TS q_130) ∧ (dFr [2] [] q_119 q_130) := h_131
                  obtain ⟨i_132, i_133⟩ := h_131
                  have hFq_130 : dFr [1, 2, 5, 12, 13, 27] [0, 22, 23, 24, 25, 54, 55] q q_130 := hFq_119.t i_133 (by decide) (by decide)
                  try have t_134 : Int32.toInt (q_57.1 2 12 - q_51.1 2 12) = Int32.toInt (q_57.1 2 12) - Int32.toInt (q_51.1 2 12) := ti_sub rfl rfl (by omega) (by omega)
                  refine dOk_B (ok_good q_130 (q_57.1 2 12 - q_51.1 2 12) i_132) (fun r_135 q_136 h_137 => ?_)
                  replace h_137 : (TS q_136) ∧ (dFr [] [0] q_130 q_136) ∧ (Int32.toInt r_135 = Int32.toInt (q_57.1 2 12 - q_51.1 2 12)) := h_137
                  obtain ⟨i_138, i_139, i_140⟩ := h_137
                  have hFq_136 : dFr [1, 2, 5, 12, 13, 27] [0, 22, 23, 24, 25, 54, 55] q q_136 := hFq_130.t i_139 (by decide) (by decide)
                  exact dOk_some (show (TS q_136) ∧ (dFr [1, 2, 5, 12, 13, 27] [0, 22, 23, 24, 25, 54, 55] q q_136) from ⟨i_138, hFq_136⟩)
                · refine dOk_G (dg_ok (show 0 ≤ Int32.toInt x5_121 by omega) (show Int32.toInt x5_121 < ((5640 : Nat) : Int) by omega)) ?_
                  have n_141 : ((Int32.toNatClampNeg x5_121 : Nat) : Int) = Int32.toInt x5_121 := cl_eq (by omega)
                  refine dOk_L (fun v_142 ev_142 => ?_)
                  try have g_143 : klo (Int32.toNatClampNeg x5_121) ≤ Int32.toInt v_142 ∧ Int32.toInt v_142 ≤ khi (Int32.toNatClampNeg x5_121) := by rw [ev_142]; exact te_k a_122 _
                  try have f_144 : 0 ≤ Int32.toInt v_142 ∧ Int32.toInt v_142 ≤ 5 := by rw [ev_142]; exact te_2r a_122 (by omega) (by omega)
                  try have f_145 : 0 ≤ Int32.toInt v_142 ∧ Int32.toInt v_142 ≤ 1 := by rw [ev_142]; exact te_2h a_122 (by omega) (by omega)
                  try have f_146 : 0 ≤ Int32.toInt v_142 ∧ Int32.toInt v_142 ≤ 5 := by rw [ev_142]; exact te_2s a_122 (by omega) (by omega)
                  try have f_147 : 0 ≤ Int32.toInt v_142 ∧ Int32.toInt v_142 ≤ 400 := by rw [ev_142]; exact te_2z a_122 (by omega) (by omega)
                  refine dOk_G (dg_ok (show 0 ≤ Int32.toInt x5_121 by omega) (show Int32.toInt x5_121 < ((14 : Nat) : Int) by omega)) ?_
                  refine dOk_L (fun q_148 eq_148 => ?_)
                  have hTq_148 : TS q_148 := by rw [eq_148]; first | exact ts_27 a_122 (show (Int32.toNatClampNeg x5_121) % 14 = Int32.toNatClampNeg x5_121 by omega) g_143 | exact ts_set a_122 (by decide) (by simp only [tlo, klo]; omega) (by simp only [thi, khi]; omega)
                  have hFq_148 : dFr [1, 2, 5, 12, 13, 27] [0, 22, 23, 24, 25, 54, 55] q q_148 := by rw [eq_148]; exact hFq_119.i (by decide) (by decide)
                  try have t_149 : Int32.toInt (q_57.1 2 12 - q_51.1 2 12) = Int32.toInt (q_57.1 2 12) - Int32.toInt (q_51.1 2 12) := ti_sub rfl rfl (by omega) (by omega)
                  try have t_150 : Int32.toInt (x5_121 + 1) = Int32.toInt x5_121 + 1 := ti_add rfl (by decide) (by omega) (by omega)
                  exact hk_117 (q_148, (q_57.1 2 12 - q_51.1 2 12), (x5_121 + 1)) (show (TS q_148) ∧ (dFr [27] [] q_57 q_148) ∧ ((q_57.1 2 12 - q_51.1 2 12) = (q_57.1 2 12 - q_51.1 2 12)) ∧ (0 ≤ Int32.toInt (x5_121 + 1)) ∧ (Int32.toInt (x5_121 + 1) ≤ 14) from ⟨hTq_148, (by rw [eq_148]; exact (((dFr.rf : dFr [27] [] q_57 q_57).t a_123 (by decide) (by decide)) : dFr [27] [] q_57 q_119).i (by decide) (by decide)), rfl, by omega, by omega⟩) (show (14 - Int32.toInt (x5_121 + 1)).toNat < (14 - Int32.toInt x5_121).toNat by omega)
              · have f_151 : 0 ≤ Int32.toInt (q_57.1 2 12) ∧ Int32.toInt (q_57.1 2 12) ≤ 9999 := a_61.1 2 12
                try have t_152 : Int32.toInt (q_57.1 2 12 - q_51.1 2 12) = Int32.toInt (q_57.1 2 12) - Int32.toInt (q_51.1 2 12) := ti_sub rfl rfl (by omega) (by omega)
                exact (show (TS q_57) ∧ (dFr [27] [] q_57 q_57) ∧ ((q_57.1 2 12 - q_51.1 2 12) = (q_57.1 2 12 - q_51.1 2 12)) ∧ (0 ≤ (0 : Int)) ∧ ((0 : Int) ≤ 14) from ⟨a_61, dFr.rf, rfl, by omega, by omega⟩)
              · have f_153 : 0 ≤ Int32.toInt (q_57.1 2 12) ∧ Int32.toInt (q_57.1 2 12) ≤ 9999 := a_61.1 2 12
                try have t_154 : Int32.toInt (q_57.1 2 12 - q_51.1 2 12) = Int32.toInt (q_57.1 2 12) - Int32.toInt (q_51.1 2 12) := ti_sub rfl rfl (by omega) (by omega)
                show (14 - (0 : Int)).toNat < 1000000000000
                omega
            · refine dOk_B (ok_draws q_57 6 a_61 (show 1 ≤ (6 : Int) by omega)) (fun r_155 q_156 h_157 => ?_)
              replace h_157 : (TS q_156) ∧ (dFr [] [55] q_57 q_156) ∧ (0 ≤ Int32.toInt r_155 ∧ Int32.toInt r_155 < (6 : Int)) := h_157
              obtain ⟨i_158, i_159, i_160⟩ := h_157
              have hFq_156 : dFr [1, 2, 5, 12, 13, 27] [0, 22, 23, 24, 25, 54, 55] q q_156 := hFq_57.t i_159 (by decide) (by decide)
              refine dOk_B (ok_draws q_156 3 i_158 (show 1 ≤ (3 : Int) by omega)) (fun r_161 q_162 h_163 => ?_)
              replace h_163 : (TS q_162) ∧ (dFr [] [55] q_156 q_162) ∧ (0 ≤ Int32.toInt r_161 ∧ Int32.toInt r_161 < (3 : Int)) := h_163
              obtain ⟨i_164, i_165, i_166⟩ := h_163
              have hFq_162 : dFr [1, 2, 5, 12, 13, 27] [0, 22, 23, 24, 25, 54, 55] q q_162 := hFq_156.t i_165 (by decide) (by decide)
              refine dOk_le (A := 2) (B := Int32.toInt r_161) (by decide) rfl (fun c_167 => ?_) (fun c_168 => ?_)
              · unfold zX10_years_129
                refine dOk_eq (A := Int32.toInt r_161) (B := 2) rfl (by decide) (fun c_169z c_169 => ?_) (fun c_170z c_170 => ?_)
                · refine dOk_B (ok_isPlace q_162 r_155 i_164) (fun r_172 q_173 h_174 => ?_)
                  replace h_174 : (q_173 = q_162) ∧ ((Int32.toInt r_172 = 1 ∧ 0 ≤ Int32.toInt r_155 ∧ Int32.toInt r_155 < Int32.toInt (q_162.1 2 29)) ∨ (Int32.toInt r_172 = 0 ∧ (Int32.toInt r_155 < 0 ∨ Int32.toInt (q_162.1 2 29) ≤ Int32.toInt r_155))) := h_174
                  obtain ⟨i_175, i_176⟩ := h_174
                  subst q_173
                  have f_177 : 0 ≤ Int32.toInt (q_162.1 2 29) ∧ Int32.toInt (q_162.1 2 29) ≤ 6 := i_164.1 2 29
                  have f_178 : 0 ≤ Int32.toInt (q_156.1 2 29) ∧ Int32.toInt (q_156.1 2 29) ≤ 6 := i_158.1 2 29
                  have f_179 : 0 ≤ Int32.toInt (q_57.1 2 29) ∧ Int32.toInt (q_57.1 2 29) ≤ 6 := a_61.1 2 29
                  have w_180 : Int32.toInt (q_156.1 2 29) = Int32.toInt (q_57.1 2 29) := by rw [i_159.1 2 (by decide) (by decide)]
                  have w_181 : Int32.toInt (q_162.1 2 29) = Int32.toInt (q_156.1 2 29) := by rw [i_165.1 2 (by decide) (by decide)]
                  refine dOk_eq (A := Int32.toInt r_172) (B := 0) rfl (by decide) (fun c_182z c_182 => ?_) (fun c_183z c_183 => ?_)
                  · unfold zX10_years_166
                    have f_185 : 0 ≤ Int32.toInt (q_162.1 2 13) ∧ Int32.toInt (q_162.1 2 13) ≤ 999 := i_164.1 2 13
                    have f_186 : 0 ≤ Int32.toInt (q_156.1 2 13) ∧ Int32.toInt (q_156.1 2 13) ≤ 999 := i_158.1 2 13
                    have w_187 : Int32.toInt (q_156.1 2 13) = Int32.toInt (q_57.1 2 13) := by rw [i_159.1 2 (by decide) (by decide)]
                    have w_188 : Int32.toInt (q_162.1 2 13) = Int32.toInt (q_156.1 2 13) := by rw [i_165.1 2 (by decide) (by decide)]
                    refine dOk_B (ok_yearPasses q_162 i_164 (show Int32.toInt (q_162.1 2 13) < 999 by omega)) (fun r_189 q_190 h_191 => ?_)
                    replace h_191 : (TS q_190) ∧ (dFk [2, 12, 13] [22, 23, 24, 25] q_162 q_190) ∧ (0 ≤ Int32.toInt r_189) ∧ (Int32.toInt (q_190.1 2 29) = Int32.toInt (q_162.1 2 29)) := h_191
                    obtain ⟨i_192, i_193, i_194, i_195⟩ := h_191
                    have hFq_190 : dFr [1, 2, 5, 12, 13, 27] [0, 22, 23, 24, 25, 54, 55] q q_190 := hFq_162.t i_193.1 (by decide) (by decide)
                    have f_196 : 0 ≤ Int32.toInt (q_190.1 2 29) ∧ Int32.toInt (q_190.1 2 29) ≤ 6 := i_192.1 2 29
                    try have t_197 : Int32.toInt (x4_60 + 1) = Int32.toInt x4_60 + 1 := ti_add rfl (by decide) (by omega) (by omega)
                    exact hk_55 (q_190, p2, (q_51.1 2 12), (x4_60 + 1)) (show (TS q_190) ∧ (dFr [2, 12, 13] [22, 23, 24, 25, 55] q_51 q_190) ∧ (p2 = p2) ∧ ((q_51.1 2 12) = (q_51.1 2 12)) ∧ (0 ≤ Int32.toInt (x4_60 + 1)) ∧ (Int32.toInt (x4_60 + 1) ≤ 60) from ⟨i_192, ((((((((dFr.rf : dFr [2, 12, 13] [22, 23, 24, 25, 55] q_51 q_51).t a_62 (by decide) (by decide)) : dFr [2, 12, 13] [22, 23, 24, 25, 55] q_51 q_57).t i_159 (by decide) (by decide)) : dFr [2, 12, 13] [22, 23, 24, 25, 55] q_51 q_156).t i_165 (by decide) (by decide)) : dFr [2, 12, 13] [22, 23, 24, 25, 55] q_51 q_162).t i_193.1 (by decide) (by decide)), rfl, rfl, by omega, by omega⟩) (show (60 - Int32.toInt (x4_60 + 1)).toNat < (60 - Int32.toInt x4_60).toNat by omega)
                  · try have t_198 : Int32.toInt (6 + r_155) = 6 + Int32.toInt r_155 := ti_add (by decide) rfl (by omega) (by omega)
                    refine dOk_G (dg_ok (show 0 ≤ Int32.toInt (6 + r_155) by omega) (show Int32.toInt (6 + r_155) < ((5640 : Nat) : Int) by omega)) ?_
                    have n_199 : ((Int32.toNatClampNeg (6 + r_155) : Nat) : Int) = Int32.toInt (6 + r_155) := cl_eq (by omega)
                    refine dOk_L (fun v_200 ev_200 => ?_)
                    try have g_201 : klo (Int32.toNatClampNeg (6 + r_155)) ≤ Int32.toInt v_200 ∧ Int32.toInt v_200 ≤ khi (Int32.toNatClampNeg (6 + r_155)) := by rw [ev_200]; exact te_k i_164 _
                    try have f_202 : 0 ≤ Int32.toInt v_200 ∧ Int32.toInt v_200 ≤ 5 := by rw [ev_200]; exact te_2r i_164 (by omega) (by omega)
                    try have f_203 : 0 ≤ Int32.toInt v_200 ∧ Int32.toInt v_200 ≤ 1 := by rw [ev_200]; exact te_2h i_164 (by omega) (by omega)
                    try have f_204 : 0 ≤ Int32.toInt v_200 ∧ Int32.toInt v_200 ≤ 5 := by rw [ev_200]; exact te_2s i_164 (by omega) (by omega)
                    try have f_205 : 0 ≤ Int32.toInt v_200 ∧ Int32.toInt v_200 ≤ 400 := by rw [ev_200]; exact te_2z i_164 (by omega) (by omega)
                    refine dOk_G (dg_ok (show 0 ≤ Int32.toInt (6 + r_155) by omega) (show Int32.toInt (6 + r_155) < ((5640 : Nat) : Int) by omega)) ?_
                    refine dOk_L (fun q_206 eq_206 => ?_)
                    try have t_207 : Int32.toInt (1 - v_200) = 1 - Int32.toInt v_200 := ti_sub (by decide) rfl (by omega) (by omega)
                    have hTq_206 : TS q_206 := by rw [eq_206]; exact ts_set2 i_164 (by omega) (show klo (Int32.toNatClampNeg (6 + r_155)) ≤ Int32.toInt (1 - v_200) by unfold klo; omega) (show Int32.toInt (1 - v_200) ≤ khi (Int32.toNatClampNeg (6 + r_155)) by unfold khi; omega)
                    have hFq_206 : dFr [1, 2, 5, 12, 13, 27] [0, 22, 23, 24, 25, 54, 55] q q_206 := by rw [eq_206]; exact hFq_162.i (by decide) (by decide)
                    unfold zX10_years_166
                    have f_208 : 0 ≤ Int32.toInt (q_206.1 2 13) ∧ Int32.toInt (q_206.1 2 13) ≤ 999 := hTq_206.1 2 13
                    have f_209 : 0 ≤ Int32.toInt (q_162.1 2 13) ∧ Int32.toInt (q_162.1 2 13) ≤ 999 := i_164.1 2 13
                    have f_210 : 0 ≤ Int32.toInt (q_156.1 2 13) ∧ Int32.toInt (q_156.1 2 13) ≤ 999 := i_158.1 2 13
                    have w_211 : Int32.toInt (q_156.1 2 13) = Int32.toInt (q_57.1 2 13) := by rw [i_159.1 2 (by decide) (by decide)]
                    have w_212 : Int32.toInt (q_162.1 2 13) = Int32.toInt (q_156.1 2 13) := by rw [i_165.1 2 (by decide) (by decide)]
                    try have w_213 : Int32.toInt (q_206.1 2 13) = Int32.toInt (q_162.1 2 13) := by rw [eq_206, dui_n (by omega)]
                    refine dOk_B (ok_yearPasses q_206 hTq_206 (show Int32.toInt (q_206.1 2 13) < 999 by omega)) (fun r_214 q_215 h_216 => ?_)
                    replace h_216 : (TS q_215) ∧ (dFk [2, 12, 13] [22, 23, 24, 25] q_206 q_215) ∧ (0 ≤ Int32.toInt r_214) ∧ (Int32.toInt (q_215.1 2 29) = Int32.toInt (q_206.1 2 29)) := h_216
                    obtain ⟨i_217, i_218, i_219, i_220⟩ := h_216
                    have hFq_215 : dFr [1, 2, 5, 12, 13, 27] [0, 22, 23, 24, 25, 54, 55] q q_215 := hFq_206.t i_218.1 (by decide) (by decide)
                    have f_221 : 0 ≤ Int32.toInt (q_215.1 2 29) ∧ Int32.toInt (q_215.1 2 29) ≤ 6 := i_217.1 2 29
                    have f_222 : 0 ≤ Int32.toInt (q_206.1 2 29) ∧ Int32.toInt (q_206.1 2 29) ≤ 6 := hTq_206.1 2 29
                    try have w_223 : Int32.toInt (q_206.1 2 29) = Int32.toInt (q_162.1 2 29) := by rw [eq_206, dui_n (by omega)]
                    try have t_224 : Int32.toInt (x4_60 + 1) = Int32.toInt x4_60 + 1 := ti_add rfl (by decide) (by omega) (by omega)
                    exact hk_55 (q_215, p2, (q_51.1 2 12), (x4_60 + 1)) (show (TS q_215) ∧ (dFr [2, 12, 13] [22, 23, 24, 25, 55] q_51 q_215) ∧ (p2 = p2) ∧ ((q_51.1 2 12) = (q_51.1 2 12)) ∧ (0 ≤ Int32.toInt (x4_60 + 1)) ∧ (Int32.toInt (x4_60 + 1) ≤ 60) from ⟨i_217, (((by rw [eq_206]; exact (((((((dFr.rf : dFr [2, 12, 13] [22, 23, 24, 25, 55] q_51 q_51).t a_62 (by decide) (by decide)) : dFr [2, 12, 13] [22, 23, 24, 25, 55] q_51 q_57).t i_159 (by decide) (by decide)) : dFr [2, 12, 13] [22, 23, 24, 25, 55] q_51 q_156).t i_165 (by decide) (by decide)) : dFr [2, 12, 13] [22, 23, 24, 25, 55] q_51 q_162).i (by decide) (by decide)) : dFr [2, 12, 13] [22, 23, 24, 25, 55] q_51 q_206).t i_218.1 (by decide) (by decide)), rfl, rfl, by omega, by omega⟩) (show (60 - Int32.toInt (x4_60 + 1)).toNat < (60 - Int32.toInt x4_60).toNat by omega)
                · unfold zX10_years_166
                  have f_225 : 0 ≤ Int32.toInt (q_162.1 2 13) ∧ Int32.toInt (q_162.1 2 13) ≤ 999 := i_164.1 2 13
                  have f_226 : 0 ≤ Int32.toInt (q_156.1 2 13) ∧ Int32.toInt (q_156.1 2 13) ≤ 999 := i_158.1 2 13
                  have w_227 : Int32.toInt (q_156.1 2 13) = Int32.toInt (q_57.1 2 13) := by rw [i_159.1 2 (by decide) (by decide)]
                  have w_228 : Int32.toInt (q_162.1 2 13) = Int32.toInt (q_156.1 2 13) := by rw [i_165.1 2 (by decide) (by decide)]
                  refine dOk_B (ok_yearPasses q_162 i_164 (show Int32.toInt (q_162.1 2 13) < 999 by omega)) (fun r_229 q_230 h_231 => ?_)
                  replace h_231 : (TS q_230) ∧ (dFk [2, 12, 13] [22, 23, 24, 25] q_162 q_230) ∧ (0 ≤ Int32.toInt r_229) ∧ (Int32.toInt (q_230.1 2 29) = Int32.toInt (q_162.1 2 29)) := h_231
                  obtain ⟨i_232, i_233, i_234, i_235⟩ := h_231
                  have hFq_230 : dFr [1, 2, 5, 12, 13, 27] [0, 22, 23, 24, 25, 54, 55] q q_230 := hFq_162.t i_233.1 (by decide) (by decide)
                  have f_236 : 0 ≤ Int32.toInt (q_230.1 2 29) ∧ Int32.toInt (q_230.1 2 29) ≤ 6 := i_232.1 2 29
                  have f_237 : 0 ≤ Int32.toInt (q_162.1 2 29) ∧ Int32.toInt (q_162.1 2 29) ≤ 6 := i_164.1 2 29
                  have f_238 : 0 ≤ Int32.toInt (q_156.1 2 29) ∧ Int32.toInt (q_156.1 2 29) ≤ 6 := i_158.1 2 29
                  have f_239 : 0 ≤ Int32.toInt (q_57.1 2 29) ∧ Int32.toInt (q_57.1 2 29) ≤ 6 := a_61.1 2 29
                  have w_240 : Int32.toInt (q_156.1 2 29) = Int32.toInt (q_57.1 2 29) := by rw [i_159.1 2 (by decide) (by decide)]
                  have w_241 : Int32.toInt (q_162.1 2 29) = Int32.toInt (q_156.1 2 29) := by rw [i_165.1 2 (by decide) (by decide)]
                  try have t_242 : Int32.toInt (x4_60 + 1) = Int32.toInt x4_60 + 1 := ti_add rfl (by decide) (by omega) (by omega)
                  exact hk_55 (q_230, p2, (q_51.1 2 12), (x4_60 + 1)) (show (TS q_230) ∧ (dFr [2, 12, 13] [22, 23, 24, 25, 55] q_51 q_230) ∧ (p2 = p2) ∧ ((q_51.1 2 12) = (q_51.1 2 12)) ∧ (0 ≤ Int32.toInt (x4_60 + 1)) ∧ (Int32.toInt (x4_60 + 1) ≤ 60) from ⟨i_232, ((((((((dFr.rf : dFr [2, 12, 13] [22, 23, 24, 25, 55] q_51 q_51).t a_62 (by decide) (by decide)) : dFr [2, 12, 13] [22, 23, 24, 25, 55] q_51 q_57).t i_159 (by decide) (by decide)) : dFr [2, 12, 13] [22, 23, 24, 25, 55] q_51 q_156).t i_165 (by decide) (by decide)) : dFr [2, 12, 13] [22, 23, 24, 25, 55] q_51 q_162).t i_233.1 (by decide) (by decide)), rfl, rfl, by omega, by omega⟩) (show (60 - Int32.toInt (x4_60 + 1)).toNat < (60 - Int32.toInt x4_60).toNat by omega)
              · try have t_243 : Int32.toInt (r_155 + 1) = Int32.toInt r_155 + 1 := ti_add rfl (by decide) (by omega) (by omega)
                refine dOk_B (ok_canTurn q_162 (r_155 + 1) i_164 (show 1 ≤ Int32.toInt (r_155 + 1) by omega)) (fun r_244 q_245 h_246 => ?_)
                replace h_246 : (TS q_245) ∧ (dFr [12] [22, 23, 24, 25] q_162 q_245) ∧ ((Int32.toInt r_244 = 1 ∧ Int32.toInt (r_155 + 1) ≤ Int32.toInt (q_162.1 2 29)) ∨ Int32.toInt r_244 = 0) := h_246
                obtain ⟨i_247, i_248, i_249⟩ := h_246
                have hFq_245 : dFr [1, 2, 5, 12, 13, 27] [0, 22, 23, 24, 25, 54, 55] q q_245 := hFq_162.t i_248 (by decide) (by decide)
                have f_250 : 0 ≤ Int32.toInt (q_162.1 2 29) ∧ Int32.toInt (q_162.1 2 29) ≤ 6 := i_164.1 2 29
                have f_251 : 0 ≤ Int32.toInt (q_156.1 2 29) ∧ Int32.toInt (q_156.1 2 29) ≤ 6 := i_158.1 2 29
                have f_252 : 0 ≤ Int32.toInt (q_57.1 2 29) ∧ Int32.toInt (q_57.1 2 29) ≤ 6 := a_61.1 2 29
                have w_253 : Int32.toInt (q_156.1 2 29) = Int32.toInt (q_57.1 2 29) := by rw [i_159.1 2 (by decide) (by decide)]
                have w_254 : Int32.toInt (q_162.1 2 29) = Int32.toInt (q_156.1 2 29) := by rw [i_165.1 2 (by decide) (by decide)]
                refine dOk_eq (A := Int32.toInt r_244) (B := 0) rfl (by decide) (fun c_255z c_255 => ?_) (fun c_256z c_256 => ?_)
                · unfold zX10_years_129
                  refine dOk_eq (A := Int32.toInt r_161) (B := 2) rfl (by decide) (fun c_258z c_258 => ?_) (fun c_259z c_259 => ?_)
                  · refine dOk_B (ok_isPlace q_245 r_155 i_247) (fun r_261 q_262 h_263 => ?_)
                    replace h_263 : (q_262 = q_245) ∧ ((Int32.toInt r_261 = 1 ∧ 0 ≤ Int32.toInt r_155 ∧ Int32.toInt r_155 < Int32.toInt (q_245.1 2 29)) ∨ (Int32.toInt r_261 = 0 ∧ (Int32.toInt r_155 < 0 ∨ Int32.toInt (q_245.1 2 29) ≤ Int32.toInt r_155))) := h_263
                    obtain ⟨i_264, i_265⟩ := h_263
                    subst q_262
                    have f_266 : 0 ≤ Int32.toInt (q_245.1 2 29) ∧ Int32.toInt (q_245.1 2 29) ≤ 6 := i_247.1 2 29
                    have w_267 : Int32.toInt (q_245.1 2 29) = Int32.toInt (q_162.1 2 29) := by rw [i_248.1 2 (by decide) (by decide)]
                    refine dOk_eq (A := Int32.toInt r_261) (B := 0) rfl (by decide) (fun c_268z c_268 => ?_) (fun c_269z c_269 => ?_)
                    · unfold zX10_years_166
                      have f_271 : 0 ≤ Int32.toInt (q_245.1 2 13) ∧ Int32.toInt (q_245.1 2 13) ≤ 999 := i_247.1 2 13
                      have f_272 : 0 ≤ Int32.toInt (q_162.1 2 13) ∧ Int32.toInt (q_162.1 2 13) ≤ 999 := i_164.1 2 13
                      have f_273 : 0 ≤ Int32.toInt (q_156.1 2 13) ∧ Int32.toInt (q_156.1 2 13) ≤ 999 := i_158.1 2 13
                      have w_274 : Int32.toInt (q_156.1 2 13) = Int32.toInt (q_57.1 2 13) := by rw [i_159.1 2 (by decide) (by decide)]
                      have w_275 : Int32.toInt (q_162.1 2 13) = Int32.toInt (q_156.1 2 13) := by rw [i_165.1 2 (by decide) (by decide)]
                      have w_276 : Int32.toInt (q_245.1 2 13) = Int32.toInt (q_162.1 2 13) := by rw [i_248.1 2 (by decide) (by decide)]
                      refine dOk_B (ok_yearPasses q_245 i_247 (show Int32.toInt (q_245.1 2 13) < 999 by omega)) (fun r_277 q_278 h_279 => ?_)
                      replace h_279 : (TS q_278) ∧ (dFk [2, 12, 13] [22, 23, 24, 25] q_245 q_278) ∧ (0 ≤ Int32.toInt r_277) ∧ (Int32.toInt (q_278.1 2 29) = Int32.toInt (q_245.1 2 29)) := h_279
                      obtain ⟨i_280, i_281, i_282, i_283⟩ := h_279
                      have hFq_278 : dFr [1, 2, 5, 12, 13, 27] [0, 22, 23, 24, 25, 54, 55] q q_278 := hFq_245.t i_281.1 (by decide) (by decide)
                      have f_284 : 0 ≤ Int32.toInt (q_278.1 2 29) ∧ Int32.toInt (q_278.1 2 29) ≤ 6 := i_280.1 2 29
                      try have t_285 : Int32.toInt (x4_60 + 1) = Int32.toInt x4_60 + 1 := ti_add rfl (by decide) (by omega) (by omega)
                      exact hk_55 (q_278, p2, (q_51.1 2 12), (x4_60 + 1)) (show (TS q_278) ∧ (dFr [2, 12, 13] [22, 23, 24, 25, 55] q_51 q_278) ∧ (p2 = p2) ∧ ((q_51.1 2 12) = (q_51.1 2 12)) ∧ (0 ≤ Int32.toInt (x4_60 + 1)) ∧ (Int32.toInt (x4_60 + 1) ≤ 60) from ⟨i_280, ((((((((((dFr.rf : dFr [2, 12, 13] [22, 23, 24, 25, 55] q_51 q_51).t a_62 (by decide) (by decide)) : dFr [2, 12, 13] [22, 23, 24, 25, 55] q_51 q_57).t i_159 (by decide) (by decide)) : dFr [2, 12, 13] [22, 23, 24, 25, 55] q_51 q_156).t i_165 (by decide) (by decide)) : dFr [2, 12, 13] [22, 23, 24, 25, 55] q_51 q_162).t i_248 (by decide) (by decide)) : dFr [2, 12, 13] [22, 23, 24, 25, 55] q_51 q_245).t i_281.1 (by decide) (by decide)), rfl, rfl, by omega, by omega⟩) (show (60 - Int32.toInt (x4_60 + 1)).toNat < (60 - Int32.toInt x4_60).toNat by omega)
                    · try have t_286 : Int32.toInt (6 + r_155) = 6 + Int32.toInt r_155 := ti_add (by decide) rfl (by omega) (by omega)
                      refine dOk_G (dg_ok (show 0 ≤ Int32.toInt (6 + r_155) by omega) (show Int32.toInt (6 + r_155) < ((5640 : Nat) : Int) by omega)) ?_
                      have n_287 : ((Int32.toNatClampNeg (6 + r_155) : Nat) : Int) = Int32.toInt (6 + r_155) := cl_eq (by omega)
                      refine dOk_L (fun v_288 ev_288 => ?_)
                      try have g_289 : klo (Int32.toNatClampNeg (6 + r_155)) ≤ Int32.toInt v_288 ∧ Int32.toInt v_288 ≤ khi (Int32.toNatClampNeg (6 + r_155)) := by rw [ev_288]; exact te_k i_247 _
                      try have f_290 : 0 ≤ Int32.toInt v_288 ∧ Int32.toInt v_288 ≤ 5 := by rw [ev_288]; exact te_2r i_247 (by omega) (by omega)
                      try have f_291 : 0 ≤ Int32.toInt v_288 ∧ Int32.toInt v_288 ≤ 1 := by rw [ev_288]; exact te_2h i_247 (by omega) (by omega)
                      try have f_292 : 0 ≤ Int32.toInt v_288 ∧ Int32.toInt v_288 ≤ 5 := by rw [ev_288]; exact te_2s i_247 (by omega) (by omega)
                      try have f_293 : 0 ≤ Int32.toInt v_288 ∧ Int32.toInt v_288 ≤ 400 := by rw [ev_288]; exact te_2z i_247 (by omega) (by omega)
                      refine dOk_G (dg_ok (show 0 ≤ Int32.toInt (6 + r_155) by omega) (show Int32.toInt (6 + r_155) < ((5640 : Nat) : Int) by omega)) ?_
                      refine dOk_L (fun q_294 eq_294 => ?_)
                      try have t_295 : Int32.toInt (1 - v_288) = 1 - Int32.toInt v_288 := ti_sub (by decide) rfl (by omega) (by omega)
                      have hTq_294 : TS q_294 := by rw [eq_294]; exact ts_set2 i_247 (by omega) (show klo (Int32.toNatClampNeg (6 + r_155)) ≤ Int32.toInt (1 - v_288) by unfold klo; omega) (show Int32.toInt (1 - v_288) ≤ khi (Int32.toNatClampNeg (6 + r_155)) by unfold khi; omega)
                      have hFq_294 : dFr [1, 2, 5, 12, 13, 27] [0, 22, 23, 24, 25, 54, 55] q q_294 := by rw [eq_294]; exact hFq_245.i (by decide) (by decide)
                      unfold zX10_years_166
                      have f_296 : 0 ≤ Int32.toInt (q_294.1 2 13) ∧ Int32.toInt (q_294.1 2 13) ≤ 999 := hTq_294.1 2 13
                      have f_297 : 0 ≤ Int32.toInt (q_245.1 2 13) ∧ Int32.toInt (q_245.1 2 13) ≤ 999 := i_247.1 2 13
                      have f_298 : 0 ≤ Int32.toInt (q_162.1 2 13) ∧ Int32.toInt (q_162.1 2 13) ≤ 999 := i_164.1 2 13
                      have f_299 : 0 ≤ Int32.toInt (q_156.1 2 13) ∧ Int32.toInt (q_156.1 2 13) ≤ 999 := i_158.1 2 13
                      have w_300 : Int32.toInt (q_156.1 2 13) = Int32.toInt (q_57.1 2 13) := by rw [i_159.1 2 (by decide) (by decide)]
                      have w_301 : Int32.toInt (q_162.1 2 13) = Int32.toInt (q_156.1 2 13) := by rw [i_165.1 2 (by decide) (by decide)]
                      have w_302 : Int32.toInt (q_245.1 2 13) = Int32.toInt (q_162.1 2 13) := by rw [i_248.1 2 (by decide) (by decide)]
                      try have w_303 : Int32.toInt (q_294.1 2 13) = Int32.toInt (q_245.1 2 13) := by rw [eq_294, dui_n (by omega)]
                      refine dOk_B (ok_yearPasses q_294 hTq_294 (show Int32.toInt (q_294.1 2 13) < 999 by omega)) (fun r_304 q_305 h_306 => ?_)
                      replace h_306 : (TS q_305) ∧ (dFk [2, 12, 13] [22, 23, 24, 25] q_294 q_305) ∧ (0 ≤ Int32.toInt r_304) ∧ (Int32.toInt (q_305.1 2 29) = Int32.toInt (q_294.1 2 29)) := h_306
                      obtain ⟨i_307, i_308, i_309, i_310⟩ := h_306
                      have hFq_305 : dFr [1, 2, 5, 12, 13, 27] [0, 22, 23, 24, 25, 54, 55] q q_305 := hFq_294.t i_308.1 (by decide) (by decide)
                      have f_311 : 0 ≤ Int32.toInt (q_305.1 2 29) ∧ Int32.toInt (q_305.1 2 29) ≤ 6 := i_307.1 2 29
                      have f_312 : 0 ≤ Int32.toInt (q_294.1 2 29) ∧ Int32.toInt (q_294.1 2 29) ≤ 6 := hTq_294.1 2 29
                      try have w_313 : Int32.toInt (q_294.1 2 29) = Int32.toInt (q_245.1 2 29) := by rw [eq_294, dui_n (by omega)]
                      try have t_314 : Int32.toInt (x4_60 + 1) = Int32.toInt x4_60 + 1 := ti_add rfl (by decide) (by omega) (by omega)
                      exact hk_55 (q_305, p2, (q_51.1 2 12), (x4_60 + 1)) (show (TS q_305) ∧ (dFr [2, 12, 13] [22, 23, 24, 25, 55] q_51 q_305) ∧ (p2 = p2) ∧ ((q_51.1 2 12) = (q_51.1 2 12)) ∧ (0 ≤ Int32.toInt (x4_60 + 1)) ∧ (Int32.toInt (x4_60 + 1) ≤ 60) from ⟨i_307, (((by rw [eq_294]; exact (((((((((dFr.rf : dFr [2, 12, 13] [22, 23, 24, 25, 55] q_51 q_51).t a_62 (by decide) (by decide)) : dFr [2, 12, 13] [22, 23, 24, 25, 55] q_51 q_57).t i_159 (by decide) (by decide)) : dFr [2, 12, 13] [22, 23, 24, 25, 55] q_51 q_156).t i_165 (by decide) (by decide)) : dFr [2, 12, 13] [22, 23, 24, 25, 55] q_51 q_162).t i_248 (by decide) (by decide)) : dFr [2, 12, 13] [22, 23, 24, 25, 55] q_51 q_245).i (by decide) (by decide)) : dFr [2, 12, 13] [22, 23, 24, 25, 55] q_51 q_294).t i_308.1 (by decide) (by decide)), rfl, rfl, by omega, by omega⟩) (show (60 - Int32.toInt (x4_60 + 1)).toNat < (60 - Int32.toInt x4_60).toNat by omega)
                  · unfold zX10_years_166
                    have f_315 : 0 ≤ Int32.toInt (q_245.1 2 13) ∧ Int32.toInt (q_245.1 2 13) ≤ 999 := i_247.1 2 13
                    have f_316 : 0 ≤ Int32.toInt (q_162.1 2 13) ∧ Int32.toInt (q_162.1 2 13) ≤ 999 := i_164.1 2 13
                    have f_317 : 0 ≤ Int32.toInt (q_156.1 2 13) ∧ Int32.toInt (q_156.1 2 13) ≤ 999 := i_158.1 2 13
                    have w_318 : Int32.toInt (q_156.1 2 13) = Int32.toInt (q_57.1 2 13) := by rw [i_159.1 2 (by decide) (by decide)]
                    have w_319 : Int32.toInt (q_162.1 2 13) = Int32.toInt (q_156.1 2 13) := by rw [i_165.1 2 (by decide) (by decide)]
                    have w_320 : Int32.toInt (q_245.1 2 13) = Int32.toInt (q_162.1 2 13) := by rw [i_248.1 2 (by decide) (by decide)]
                    refine dOk_B (ok_yearPasses q_245 i_247 (show Int32.toInt (q_245.1 2 13) < 999 by omega)) (fun r_321 q_322 h_323 => ?_)
                    replace h_323 : (TS q_322) ∧ (dFk [2, 12, 13] [22, 23, 24, 25] q_245 q_322) ∧ (0 ≤ Int32.toInt r_321) ∧ (Int32.toInt (q_322.1 2 29) = Int32.toInt (q_245.1 2 29)) := h_323
                    obtain ⟨i_324, i_325, i_326, i_327⟩ := h_323
                    have hFq_322 : dFr [1, 2, 5, 12, 13, 27] [0, 22, 23, 24, 25, 54, 55] q q_322 := hFq_245.t i_325.1 (by decide) (by decide)
                    have f_328 : 0 ≤ Int32.toInt (q_322.1 2 29) ∧ Int32.toInt (q_322.1 2 29) ≤ 6 := i_324.1 2 29
                    have f_329 : 0 ≤ Int32.toInt (q_245.1 2 29) ∧ Int32.toInt (q_245.1 2 29) ≤ 6 := i_247.1 2 29
                    have w_330 : Int32.toInt (q_245.1 2 29) = Int32.toInt (q_162.1 2 29) := by rw [i_248.1 2 (by decide) (by decide)]
                    try have t_331 : Int32.toInt (x4_60 + 1) = Int32.toInt x4_60 + 1 := ti_add rfl (by decide) (by omega) (by omega)
                    exact hk_55 (q_322, p2, (q_51.1 2 12), (x4_60 + 1)) (show (TS q_322) ∧ (dFr [2, 12, 13] [22, 23, 24, 25, 55] q_51 q_322) ∧ (p2 = p2) ∧ ((q_51.1 2 12) = (q_51.1 2 12)) ∧ (0 ≤ Int32.toInt (x4_60 + 1)) ∧ (Int32.toInt (x4_60 + 1) ≤ 60) from ⟨i_324, ((((((((((dFr.rf : dFr [2, 12, 13] [22, 23, 24, 25, 55] q_51 q_51).t a_62 (by decide) (by decide)) : dFr [2, 12, 13] [22, 23, 24, 25, 55] q_51 q_57).t i_159 (by decide) (by decide)) : dFr [2, 12, 13] [22, 23, 24, 25, 55] q_51 q_156).t i_165 (by decide) (by decide)) : dFr [2, 12, 13] [22, 23, 24, 25, 55] q_51 q_162).t i_248 (by decide) (by decide)) : dFr [2, 12, 13] [22, 23, 24, 25, 55] q_51 q_245).t i_325.1 (by decide) (by decide)), rfl, rfl, by omega, by omega⟩) (show (60 - Int32.toInt (x4_60 + 1)).toNat < (60 - Int32.toInt x4_60).toNat by omega)
                · have f_332 : 0 ≤ Int32.toInt (q_245.1 2 29) ∧ Int32.toInt (q_245.1 2 29) ≤ 6 := i_247.1 2 29
                  have w_333 : Int32.toInt (q_245.1 2 29) = Int32.toInt (q_162.1 2 29) := by rw [i_248.1 2 (by decide) (by decide)]
                  refine dOk_B (ok_turns q_245 (r_155 + 1) i_247 (show 1 ≤ Int32.toInt (r_155 + 1) by omega) (show Int32.toInt (r_155 + 1) ≤ Int32.toInt (q_245.1 2 29) by omega)) (fun r_334 q_335 h_336 => ?_)
                  replace h_336 : (TS q_335) ∧ (dFk [2, 12] [22, 23, 24, 25] q_245 q_335) ∧ (0 ≤ Int32.toInt r_334 ∧ Int32.toInt r_334 ≤ 99) ∧ (Int32.toInt (q_335.1 2 29) = Int32.toInt (q_245.1 2 29)) ∧ (Int32.toInt (q_335.1 2 13) = Int32.toInt (q_245.1 2 13)) := h_336
                  obtain ⟨i_337, i_338, i_339, i_340, i_341⟩ := h_336
                  have hFq_335 : dFr [1, 2, 5, 12, 13, 27] [0, 22, 23, 24, 25, 54, 55] q q_335 := hFq_245.t i_338.1 (by decide) (by decide)
                  have f_342 : 0 ≤ Int32.toInt (q_335.1 2 29) ∧ Int32.toInt (q_335.1 2 29) ≤ 6 := i_337.1 2 29
                  have f_343 : 0 ≤ Int32.toInt (q_335.1 2 13) ∧ Int32.toInt (q_335.1 2 13) ≤ 999 := i_337.1 2 13
                  have f_344 : 0 ≤ Int32.toInt (q_245.1 2 13) ∧ Int32.toInt (q_245.1 2 13) ≤ 999 := i_247.1 2 13
                  have f_345 : 0 ≤ Int32.toInt (q_162.1 2 13) ∧ Int32.toInt (q_162.1 2 13) ≤ 999 := i_164.1 2 13
                  have f_346 : 0 ≤ Int32.toInt (q_156.1 2 13) ∧ Int32.toInt (q_156.1 2 13) ≤ 999 := i_158.1 2 13
                  have w_347 : Int32.toInt (q_156.1 2 13) = Int32.toInt (q_57.1 2 13) := by rw [i_159.1 2 (by decide) (by decide)]
                  have w_348 : Int32.toInt (q_162.1 2 13) = Int32.toInt (q_156.1 2 13) := by rw [i_165.1 2 (by decide) (by decide)]
                  have w_349 : Int32.toInt (q_245.1 2 13) = Int32.toInt (q_162.1 2 13) := by rw [i_248.1 2 (by decide) (by decide)]
                  unfold zX10_years_129
                  refine dOk_eq (A := Int32.toInt r_161) (B := 2) rfl (by decide) (fun c_350z c_350 => ?_) (fun c_351z c_351 => ?_)
                  · refine dOk_B (ok_isPlace q_335 r_155 i_337) (fun r_353 q_354 h_355 => ?_)
                    replace h_355 : (q_354 = q_335) ∧ ((Int32.toInt r_353 = 1 ∧ 0 ≤ Int32.toInt r_155 ∧ Int32.toInt r_155 < Int32.toInt (q_335.1 2 29)) ∨ (Int32.toInt r_353 = 0 ∧ (Int32.toInt r_155 < 0 ∨ Int32.toInt (q_335.1 2 29) ≤ Int32.toInt r_155))) := h_355
                    obtain ⟨i_356, i_357⟩ := h_355
                    subst q_354
                    refine dOk_eq (A := Int32.toInt r_353) (B := 0) rfl (by decide) (fun c_358z c_358 => ?_) (fun c_359z c_359 => ?_)
                    · unfold zX10_years_166
                      refine dOk_B (ok_yearPasses q_335 i_337 (show Int32.toInt (q_335.1 2 13) < 999 by omega)) (fun r_361 q_362 h_363 => ?_)
                      replace h_363 : (TS q_362) ∧ (dFk [2, 12, 13] [22, 23, 24, 25] q_335 q_362) ∧ (0 ≤ Int32.toInt r_361) ∧ (Int32.toInt (q_362.1 2 29) = Int32.toInt (q_335.1 2 29)) := h_363
                      obtain ⟨i_364, i_365, i_366, i_367⟩ := h_363
                      have hFq_362 : dFr [1, 2, 5, 12, 13, 27] [0, 22, 23, 24, 25, 54, 55] q q_362 := hFq_335.t i_365.1 (by decide) (by decide)
                      have f_368 : 0 ≤ Int32.toInt (q_362.1 2 29) ∧ Int32.toInt (q_362.1 2 29) ≤ 6 := i_364.1 2 29
                      try have t_369 : Int32.toInt (x4_60 + 1) = Int32.toInt x4_60 + 1 := ti_add rfl (by decide) (by omega) (by omega)
                      exact hk_55 (q_362, p2, (q_51.1 2 12), (x4_60 + 1)) (show (TS q_362) ∧ (dFr [2, 12, 13] [22, 23, 24, 25, 55] q_51 q_362) ∧ (p2 = p2) ∧ ((q_51.1 2 12) = (q_51.1 2 12)) ∧ (0 ≤ Int32.toInt (x4_60 + 1)) ∧ (Int32.toInt (x4_60 + 1) ≤ 60) from ⟨i_364, ((((((((((((dFr.rf : dFr [2, 12, 13] [22, 23, 24, 25, 55] q_51 q_51).t a_62 (by decide) (by decide)) : dFr [2, 12, 13] [22, 23, 24, 25, 55] q_51 q_57).t i_159 (by decide) (by decide)) : dFr [2, 12, 13] [22, 23, 24, 25, 55] q_51 q_156).t i_165 (by decide) (by decide)) : dFr [2, 12, 13] [22, 23, 24, 25, 55] q_51 q_162).t i_248 (by decide) (by decide)) : dFr [2, 12, 13] [22, 23, 24, 25, 55] q_51 q_245).t i_338.1 (by decide) (by decide)) : dFr [2, 12, 13] [22, 23, 24, 25, 55] q_51 q_335).t i_365.1 (by decide) (by decide)), rfl, rfl, by omega, by omega⟩) (show (60 - Int32.toInt (x4_60 + 1)).toNat < (60 - Int32.toInt x4_60).toNat by omega)
                    · try have t_370 : Int32.toInt (6 + r_155) = 6 + Int32.toInt r_155 := ti_add (by decide) rfl (by omega) (by omega)
                      refine dOk_G (dg_ok (show 0 ≤ Int32.toInt (6 + r_155) by omega) (show Int32.toInt (6 + r_155) < ((5640 : Nat) : Int) by omega)) ?_
                      have n_371 : ((Int32.toNatClampNeg (6 + r_155) : Nat) : Int) = Int32.toInt (6 + r_155) := cl_eq (by omega)
                      refine dOk_L (fun v_372 ev_372 => ?_)
                      try have g_373 : klo (Int32.toNatClampNeg (6 + r_155)) ≤ Int32.toInt v_372 ∧ Int32.toInt v_372 ≤ khi (Int32.toNatClampNeg (6 + r_155)) := by rw [ev_372]; exact te_k i_337 _
                      try have f_374 : 0 ≤ Int32.toInt v_372 ∧ Int32.toInt v_372 ≤ 5 := by rw [ev_372]; exact te_2r i_337 (by omega) (by omega)
                      try have f_375 : 0 ≤ Int32.toInt v_372 ∧ Int32.toInt v_372 ≤ 1 := by rw [ev_372]; exact te_2h i_337 (by omega) (by omega)
                      try have f_376 : 0 ≤ Int32.toInt v_372 ∧ Int32.toInt v_372 ≤ 5 := by rw [ev_372]; exact te_2s i_337 (by omega) (by omega)
                      try have f_377 : 0 ≤ Int32.toInt v_372 ∧ Int32.toInt v_372 ≤ 400 := by rw [ev_372]; exact te_2z i_337 (by omega) (by omega)
                      refine dOk_G (dg_ok (show 0 ≤ Int32.toInt (6 + r_155) by omega) (show Int32.toInt (6 + r_155) < ((5640 : Nat) : Int) by omega)) ?_
                      refine dOk_L (fun q_378 eq_378 => ?_)
                      try have t_379 : Int32.toInt (1 - v_372) = 1 - Int32.toInt v_372 := ti_sub (by decide) rfl (by omega) (by omega)
                      have hTq_378 : TS q_378 := by rw [eq_378]; exact ts_set2 i_337 (by omega) (show klo (Int32.toNatClampNeg (6 + r_155)) ≤ Int32.toInt (1 - v_372) by unfold klo; omega) (show Int32.toInt (1 - v_372) ≤ khi (Int32.toNatClampNeg (6 + r_155)) by unfold khi; omega)
                      have hFq_378 : dFr [1, 2, 5, 12, 13, 27] [0, 22, 23, 24, 25, 54, 55] q q_378 := by rw [eq_378]; exact hFq_335.i (by decide) (by decide)
                      unfold zX10_years_166
                      have f_380 : 0 ≤ Int32.toInt (q_378.1 2 13) ∧ Int32.toInt (q_378.1 2 13) ≤ 999 := hTq_378.1 2 13
                      try have w_381 : Int32.toInt (q_378.1 2 13) = Int32.toInt (q_335.1 2 13) := by rw [eq_378, dui_n (by omega)]
                      refine dOk_B (ok_yearPasses q_378 hTq_378 (show Int32.toInt (q_378.1 2 13) < 999 by omega)) (fun r_382 q_383 h_384 => ?_)
                      replace h_384 : (TS q_383) ∧ (dFk [2, 12, 13] [22, 23, 24, 25] q_378 q_383) ∧ (0 ≤ Int32.toInt r_382) ∧ (Int32.toInt (q_383.1 2 29) = Int32.toInt (q_378.1 2 29)) := h_384
                      obtain ⟨i_385, i_386, i_387, i_388⟩ := h_384
                      have hFq_383 : dFr [1, 2, 5, 12, 13, 27] [0, 22, 23, 24, 25, 54, 55] q q_383 := hFq_378.t i_386.1 (by decide) (by decide)
                      have f_389 : 0 ≤ Int32.toInt (q_383.1 2 29) ∧ Int32.toInt (q_383.1 2 29) ≤ 6 := i_385.1 2 29
                      have f_390 : 0 ≤ Int32.toInt (q_378.1 2 29) ∧ Int32.toInt (q_378.1 2 29) ≤ 6 := hTq_378.1 2 29
                      try have w_391 : Int32.toInt (q_378.1 2 29) = Int32.toInt (q_335.1 2 29) := by rw [eq_378, dui_n (by omega)]
                      try have t_392 : Int32.toInt (x4_60 + 1) = Int32.toInt x4_60 + 1 := ti_add rfl (by decide) (by omega) (by omega)
                      exact hk_55 (q_383, p2, (q_51.1 2 12), (x4_60 + 1)) (show (TS q_383) ∧ (dFr [2, 12, 13] [22, 23, 24, 25, 55] q_51 q_383) ∧ (p2 = p2) ∧ ((q_51.1 2 12) = (q_51.1 2 12)) ∧ (0 ≤ Int32.toInt (x4_60 + 1)) ∧ (Int32.toInt (x4_60 + 1) ≤ 60) from ⟨i_385, (((by rw [eq_378]; exact (((((((((((dFr.rf : dFr [2, 12, 13] [22, 23, 24, 25, 55] q_51 q_51).t a_62 (by decide) (by decide)) : dFr [2, 12, 13] [22, 23, 24, 25, 55] q_51 q_57).t i_159 (by decide) (by decide)) : dFr [2, 12, 13] [22, 23, 24, 25, 55] q_51 q_156).t i_165 (by decide) (by decide)) : dFr [2, 12, 13] [22, 23, 24, 25, 55] q_51 q_162).t i_248 (by decide) (by decide)) : dFr [2, 12, 13] [22, 23, 24, 25, 55] q_51 q_245).t i_338.1 (by decide) (by decide)) : dFr [2, 12, 13] [22, 23, 24, 25, 55] q_51 q_335).i (by decide) (by decide)) : dFr [2, 12, 13] [22, 23, 24, 25, 55] q_51 q_378).t i_386.1 (by decide) (by decide)), rfl, rfl, by omega, by omega⟩) (show (60 - Int32.toInt (x4_60 + 1)).toNat < (60 - Int32.toInt x4_60).toNat by omega)
                  · unfold zX10_years_166
                    refine dOk_B (ok_yearPasses q_335 i_337 (show Int32.toInt (q_335.1 2 13) < 999 by omega)) (fun r_393 q_394 h_395 => ?_)
                    replace h_395 : (TS q_394) ∧ (dFk [2, 12, 13] [22, 23, 24, 25] q_335 q_394) ∧ (0 ≤ Int32.toInt r_393) ∧ (Int32.toInt (q_394.1 2 29) = Int32.toInt (q_335.1 2 29)) := h_395
                    obtain ⟨i_396, i_397, i_398, i_399⟩ := h_395
                    have hFq_394 : dFr [1, 2, 5, 12, 13, 27] [0, 22, 23, 24, 25, 54, 55] q q_394 := hFq_335.t i_397.1 (by decide) (by decide)
                    have f_400 : 0 ≤ Int32.toInt (q_394.1 2 29) ∧ Int32.toInt (q_394.1 2 29) ≤ 6 := i_396.1 2 29
                    try have t_401 : Int32.toInt (x4_60 + 1) = Int32.toInt x4_60 + 1 := ti_add rfl (by decide) (by omega) (by omega)
                    exact hk_55 (q_394, p2, (q_51.1 2 12), (x4_60 + 1)) (show (TS q_394) ∧ (dFr [2, 12, 13] [22, 23, 24, 25, 55] q_51 q_394) ∧ (p2 = p2) ∧ ((q_51.1 2 12) = (q_51.1 2 12)) ∧ (0 ≤ Int32.toInt (x4_60 + 1)) ∧ (Int32.toInt (x4_60 + 1) ≤ 60) from ⟨i_396, ((((((((((((dFr.rf : dFr [2, 12, 13] [22, 23, 24, 25, 55] q_51 q_51).t a_62 (by decide) (by decide)) : dFr [2, 12, 13] [22, 23, 24, 25, 55] q_51 q_57).t i_159 (by decide) (by decide)) : dFr [2, 12, 13] [22, 23, 24, 25, 55] q_51 q_156).t i_165 (by decide) (by decide)) : dFr [2, 12, 13] [22, 23, 24, 25, 55] q_51 q_162).t i_248 (by decide) (by decide)) : dFr [2, 12, 13] [22, 23, 24, 25, 55] q_51 q_245).t i_338.1 (by decide) (by decide)) : dFr [2, 12, 13] [22, 23, 24, 25, 55] q_51 q_335).t i_397.1 (by decide) (by decide)), rfl, rfl, by omega, by omega⟩) (show (60 - Int32.toInt (x4_60 + 1)).toNat < (60 - Int32.toInt x4_60).toNat by omega)
        · have f_402 : 0 ≤ Int32.toInt (q_51.1 2 12) ∧ Int32.toInt (q_51.1 2 12) ≤ 9999 := i_53.1 2 12
          have f_403 : 0 ≤ Int32.toInt (q_50.1 2 12) ∧ Int32.toInt (q_50.1 2 12) ≤ 9999 := hTq_50.1 2 12
          have f_404 : 0 ≤ Int32.toInt (q_41.1 2 12) ∧ Int32.toInt (q_41.1 2 12) ≤ 9999 := hTq_41.1 2 12
          have f_405 : 0 ≤ Int32.toInt (q.1 2 12) ∧ Int32.toInt (q.1 2 12) ≤ 9999 := hT.1 2 12
          have w_406 : Int32.toInt (q_41.1 2 12) = Int32.toInt (q.1 2 12) := by rw [eq_41, dui_o (by decide)]
          have w_407 : Int32.toInt (q_50.1 2 12) = Int32.toInt (q_41.1 2 12) := by rw [eq_50, dui_o (by decide)]
          have w_408 : Int32.toInt (q_51.1 2 12) = Int32.toInt (q_50.1 2 12) := by rw [i_54.1 2 (by decide) (by decide)]
          exact (show (TS q_51) ∧ (dFr [2, 12, 13] [22, 23, 24, 25, 55] q_51 q_51) ∧ (p2 = p2) ∧ ((q_51.1 2 12) = (q_51.1 2 12)) ∧ (0 ≤ (0 : Int)) ∧ ((0 : Int) ≤ 60) from ⟨i_53, dFr.rf, rfl, rfl, by omega, by omega⟩)
        · have f_409 : 0 ≤ Int32.toInt (q_51.1 2 12) ∧ Int32.toInt (q_51.1 2 12) ≤ 9999 := i_53.1 2 12
          have f_410 : 0 ≤ Int32.toInt (q_50.1 2 12) ∧ Int32.toInt (q_50.1 2 12) ≤ 9999 := hTq_50.1 2 12
          have f_411 : 0 ≤ Int32.toInt (q_41.1 2 12) ∧ Int32.toInt (q_41.1 2 12) ≤ 9999 := hTq_41.1 2 12
          have f_412 : 0 ≤ Int32.toInt (q.1 2 12) ∧ Int32.toInt (q.1 2 12) ≤ 9999 := hT.1 2 12
          have w_413 : Int32.toInt (q_41.1 2 12) = Int32.toInt (q.1 2 12) := by rw [eq_41, dui_o (by decide)]
          have w_414 : Int32.toInt (q_50.1 2 12) = Int32.toInt (q_41.1 2 12) := by rw [eq_50, dui_o (by decide)]
          have w_415 : Int32.toInt (q_51.1 2 12) = Int32.toInt (q_50.1 2 12) := by rw [i_54.1 2 (by decide) (by decide)]
          show (60 - (0 : Int)).toNat < 1000000000000
          omega
