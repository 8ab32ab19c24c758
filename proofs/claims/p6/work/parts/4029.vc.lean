set_option maxHeartbeats 4000000 in
set_option maxRecDepth 100000 in
theorem ok_years (q : dS) (p1 : Int32) (p2 : Int32) (hT : TS q) : dOk (zX10_years q p1 p2) (fun (o : Int32 × dS) => (TS o.2) ∧ (dFk [1, 2, 5, 12, 13, 27] [0, 22, 23, 24, 25, 54, 55] q o.2)) := by
  unfold zX10_years
  refine dOk_V (ok_lies p1 0 1000000) (fun r_1 h_2 => ?_)
  replace h_2 : ((Int32.toInt r_1 = 1 ∧ (0 : Int) ≤ Int32.toInt p1 ∧ Int32.toInt p1 ≤ (1000000 : Int)) ∨ (Int32.toInt r_1 = 0 ∧ (Int32.toInt p1 < (0 : Int) ∨ (1000000 : Int) < Int32.toInt p1))) := h_2
  have i_3 := h_2
  refine dOk_eq (A := Int32.toInt r_1) (B := 0) rfl (by decide) (fun c_4z c_4 => ?_) (fun c_5z c_5 => ?_)
  · unfold zX10_years_20
    refine dOk_B (ok_refuses q (-1) hT (show (-6) ≤ (-1 : Int) by omega) (show (-1 : Int) ≤ 0 by omega)) (fun r_7 q_8 h_9 => ?_)
    replace h_9 : (TS q_8) ∧ (dFr [1] [0] q q_8) ∧ (Int32.toInt r_7 = (-1 : Int)) := h_9
    obtain ⟨i_10, i_11, i_12⟩ := h_9
    have hFq_8 : dFk [1, 2, 5, 12, 13, 27] [0, 22, 23, 24, 25, 54, 55] q q_8 := (dFk.rf (q := q)).tr i_11 (by decide) (by decide) (by decide)
    exact dOk_some (show (TS q_8) ∧ (dFk [1, 2, 5, 12, 13, 27] [0, 22, 23, 24, 25, 54, 55] q q_8) from ⟨i_10, hFq_8⟩)
  · refine dOk_V (ok_lies p2 1 60) (fun r_13 h_14 => ?_)
    replace h_14 : ((Int32.toInt r_13 = 1 ∧ (1 : Int) ≤ Int32.toInt p2 ∧ Int32.toInt p2 ≤ (60 : Int)) ∨ (Int32.toInt r_13 = 0 ∧ (Int32.toInt p2 < (1 : Int) ∨ (60 : Int) < Int32.toInt p2))) := h_14
    have i_15 := h_14
    refine dOk_eq (A := Int32.toInt r_13) (B := 0) rfl (by decide) (fun c_16z c_16 => ?_) (fun c_17z c_17 => ?_)
    · unfold zX10_years_20
      refine dOk_B (ok_refuses q (-1) hT (show (-6) ≤ (-1 : Int) by omega) (show (-1 : Int) ≤ 0 by omega)) (fun r_19 q_20 h_21 => ?_)
      replace h_21 : (TS q_20) ∧ (dFr [1] [0] q q_20) ∧ (Int32.toInt r_19 = (-1 : Int)) := h_21
      obtain ⟨i_22, i_23, i_24⟩ := h_21
      have hFq_20 : dFk [1, 2, 5, 12, 13, 27] [0, 22, 23, 24, 25, 54, 55] q q_20 := (dFk.rf (q := q)).tr i_23 (by decide) (by decide) (by decide)
      exact dOk_some (show (TS q_20) ∧ (dFk [1, 2, 5, 12, 13, 27] [0, 22, 23, 24, 25, 54, 55] q q_20) from ⟨i_22, hFq_20⟩)
    · refine dOk_B (ok_size q hT) (fun r_25 q_26 h_27 => ?_)
      replace h_27 : (q_26 = q) ∧ (Int32.toInt r_25 = Int32.toInt (q.1 2 29)) ∧ (0 ≤ Int32.toInt r_25 ∧ Int32.toInt r_25 ≤ 6) := h_27
      obtain ⟨i_28, i_29, i_30⟩ := h_27
      subst q_26
      have f_31 : 0 ≤ Int32.toInt (q.1 2 29) ∧ Int32.toInt (q.1 2 29) ≤ 6 := hT.1 2 29
      refine dOk_eq (A := Int32.toInt r_25) (B := 0) rfl (by decide) (fun c_32z c_32 => ?_) (fun c_33z c_33 => ?_)
      · refine dOk_B (ok_refuses q (-3) hT (show (-6) ≤ (-3 : Int) by omega) (show (-3 : Int) ≤ 0 by omega)) (fun r_35 q_36 h_37 => ?_)
        replace h_37 : (TS q_36) ∧ (dFr [1] [0] q q_36) ∧ (Int32.toInt r_35 = (-3 : Int)) := h_37
        obtain ⟨i_38, i_39, i_40⟩ := h_37
        have hFq_36 : dFk [1, 2, 5, 12, 13, 27] [0, 22, 23, 24, 25, 54, 55] q q_36 := (dFk.rf (q := q)).tr i_39 (by decide) (by decide) (by decide)
        exact dOk_some (show (TS q_36) ∧ (dFk [1, 2, 5, 12, 13, 27] [0, 22, 23, 24, 25, 54, 55] q q_36) from ⟨i_38, hFq_36⟩)
      · refine dOk_L (fun q_41 eq_41 => ?_)
        have hTq_41 : TS q_41 := by rw [eq_41]; exact ts_f hT (show 0 ≤ Int32.toInt p1 by omega) (show Int32.toInt p1 ≤ 1000002 by omega)
        have hFq_41 : dFk [1, 2, 5, 12, 13, 27] [0, 22, 23, 24, 25, 54, 55] q q_41 := by rw [eq_41]; exact (dFk.rf (q := q)).f (by decide)
        refine dOk_B (ok_size q_41 hTq_41) (fun r_42 q_43 h_44 => ?_)
        replace h_44 : (q_43 = q_41) ∧ (Int32.toInt r_42 = Int32.toInt (q_41.1 2 29)) ∧ (0 ≤ Int32.toInt r_42 ∧ Int32.toInt r_42 ≤ 6) := h_44
        obtain ⟨i_45, i_46, i_47⟩ := h_44
        subst q_43
        have f_48 : 0 ≤ Int32.toInt (q_41.1 2 29) ∧ Int32.toInt (q_41.1 2 29) ≤ 6 := hTq_41.1 2 29
        have w_49 : Int32.toInt (q_41.1 2 29) = Int32.toInt (q.1 2 29) := by rw [eq_41, dui_o (by decide)]
        refine dOk_L (fun q_50 eq_50 => ?_)
        have hTq_50 : TS q_50 := by rw [eq_50]; exact ts_f hTq_41 (show -1 ≤ Int32.toInt r_42 by omega) (show Int32.toInt r_42 ≤ 6 by omega)
        have hFq_50 : dFk [1, 2, 5, 12, 13, 27] [0, 22, 23, 24, 25, 54, 55] q q_50 := by rw [eq_50]; exact hFq_41.f (by decide)
        refine dOk_V (ok_laysAside q_50 0 hTq_50 (show 0 ≤ (0 : Int) by omega) (show (0 : Int) ≤ 1 by omega)) (fun q_51 h_52 => ?_)
        replace h_52 : (TS q_51) ∧ (dFr [5] [] q_50 q_51) := h_52
        obtain ⟨i_53, i_54⟩ := h_52
        have hFq_51 : dFk [1, 2, 5, 12, 13, 27] [0, 22, 23, 24, 25, 54, 55] q q_51 := hFq_50.tr i_54 (by decide) (by decide) (by decide)
        unfold zX10_years_69
        refine dFix_ok (fun (a : dS × Int32 × Int32 × Int32) => (TS a.1) ∧ (dFk [2, 12, 13] [22, 23, 24, 25, 55] q_51 a.1) ∧ (a.2.1 = p2) ∧ (a.2.2.1 = (q_51.1 2 12)) ∧ (0 ≤ Int32.toInt a.2.2.2) ∧ (Int32.toInt a.2.2.2 ≤ 60)) (fun (a : dS × Int32 × Int32 × Int32) => (60 - Int32.toInt a.2.2.2).toNat) ?_ _ ?_ _ (dF_gt ?_)
        · intro a ha k_56 hk_55
          obtain ⟨q_57, x2_58, x3_59, x4_60⟩ := a
          replace ha : (TS q_57) ∧ (dFk [2, 12, 13] [22, 23, 24, 25, 55] q_51 q_57) ∧ (x2_58 = p2) ∧ (x3_59 = (q_51.1 2 12)) ∧ (0 ≤ Int32.toInt x4_60) ∧ (Int32.toInt x4_60 ≤ 60) := ha
          obtain ⟨a_61, a_62, a_63, a_64, a_65, a_66⟩ := ha
          show dOk (zX10_years_69b  (fun q x2 x3 x4 => k_56 (q, x2, x3, x4)) q_57 x2_58 x3_59 x4_60) _
          unfold zX10_years_69b
          have hFq_57 : dFk [1, 2, 5, 12, 13, 27] [0, 22, 23, 24, 25, 54, 55] q q_57 := hFq_51.t a_62 (by decide) (by decide)
          subst x2_58
          subst x3_59
          have f_67 : 0 ≤ Int32.toInt (q_51.1 2 12) ∧ Int32.toInt (q_51.1 2 12) ≤ 9999 := i_53.1 2 12
          have f_68 : 0 ≤ Int32.toInt (q_50.1 2 12) ∧ Int32.toInt (q_50.1 2 12) ≤ 9999 := hTq_50.1 2 12
          have f_69 : 0 ≤ Int32.toInt (q_41.1 2 12) ∧ Int32.toInt (q_41.1 2 12) ≤ 9999 := hTq_41.1 2 12
          have f_70 : 0 ≤ Int32.toInt (q.1 2 12) ∧ Int32.toInt (q.1 2 12) ≤ 9999 := hT.1 2 12
          have w_71 : Int32.toInt (q_41.1 2 12) = Int32.toInt (q.1 2 12) := by rw [eq_41, dui_o (by decide)]
          have w_72 : Int32.toInt (q_50.1 2 12) = Int32.toInt (q_41.1 2 12) := by rw [eq_50, dui_o (by decide)]
          have w_73 : Int32.toInt (q_51.1 2 12) = Int32.toInt (q_50.1 2 12) := by rw [i_54.1 2 (by decide) (by decide)]
          refine dOk_le (A := Int32.toInt p2) (B := Int32.toInt x4_60) rfl rfl (fun c_74 => ?_) (fun c_75 => ?_)
          · unfold zX10_years_177
            unfold zX10_years_191
            refine dFix_ok (fun (a : dS × Int32 × Int32) => (TS a.1) ∧ (dFk [27] [] q_57 a.1) ∧ (a.2.1 = (q_57.1 2 12 - q_51.1 2 12)) ∧ (0 ≤ Int32.toInt a.2.2) ∧ (Int32.toInt a.2.2 ≤ 14)) (fun (a : dS × Int32 × Int32) => (14 - Int32.toInt a.2.2).toNat) ?_ _ ?_ _ (dF_gt ?_)
            · intro a ha k_77 hk_76
              obtain ⟨q_78, x4_79, x5_80⟩ := a
              replace ha : (TS q_78) ∧ (dFk [27] [] q_57 q_78) ∧ (x4_79 = (q_57.1 2 12 - q_51.1 2 12)) ∧ (0 ≤ Int32.toInt x5_80) ∧ (Int32.toInt x5_80 ≤ 14) := ha
              obtain ⟨a_81, a_82, a_83, a_84, a_85⟩ := ha
              show dOk (zX10_years_191b  (fun q x4 x5 => k_77 (q, x4, x5)) q_78 x4_79 x5_80) _
              unfold zX10_years_191b
              have hFq_78 : dFk [1, 2, 5, 12, 13, 27] [0, 22, 23, 24, 25, 54, 55] q q_78 := hFq_57.t a_82 (by decide) (by decide)
              subst x4_79
              have f_86 : 0 ≤ Int32.toInt (q_57.1 2 12) ∧ Int32.toInt (q_57.1 2 12) ≤ 9999 := a_61.1 2 12
              refine dOk_le (A := 14) (B := Int32.toInt x5_80) (by decide) rfl (fun c_87 => ?_) (fun c_88 => ?_)
              · refine dOk_V (ok_takesBack q_78 0 a_81 (show 0 ≤ (0 : Int) by omega) (show (0 : Int) ≤ 1 by omega)) (fun q_89 h_90 => ?_)
                replace h_90 : (TS q_89) ∧ (dFk [2] [] q_78 q_89) := h_90
                obtain ⟨i_91, i_92⟩ := h_90
                have hFq_89 : dFk [1, 2, 5, 12, 13, 27] [0, 22, 23, 24, 25, 54, 55] q q_89 := hFq_78.t i_92 (by decide) (by decide)
                try have t_93 : Int32.toInt (q_57.1 2 12 - q_51.1 2 12) = Int32.toInt (q_57.1 2 12) - Int32.toInt (q_51.1 2 12) := ti_sub rfl rfl (by omega) (by omega)
                refine dOk_B (ok_good q_89 (q_57.1 2 12 - q_51.1 2 12) i_91) (fun r_94 q_95 h_96 => ?_)
                replace h_96 : (TS q_95) ∧ (dFr [] [0] q_89 q_95) ∧ (Int32.toInt r_94 = Int32.toInt (q_57.1 2 12 - q_51.1 2 12)) := h_96
                obtain ⟨i_97, i_98, i_99⟩ := h_96
                have hFq_95 : dFk [1, 2, 5, 12, 13, 27] [0, 22, 23, 24, 25, 54, 55] q q_95 := hFq_89.tr i_98 (by decide) (by decide) (by decide)
                exact dOk_some (show (TS q_95) ∧ (dFk [1, 2, 5, 12, 13, 27] [0, 22, 23, 24, 25, 54, 55] q q_95) from ⟨i_97, hFq_95⟩)
              · refine dOk_G (dg_ok (show 0 ≤ Int32.toInt x5_80 by omega) (show Int32.toInt x5_80 < ((5640 : Nat) : Int) by omega)) ?_
                have n_100 : ((Int32.toNatClampNeg x5_80 : Nat) : Int) = Int32.toInt x5_80 := cl_eq (by omega)
                refine dOk_L (fun v_101 ev_101 => ?_)
                try have g_102 : klo (Int32.toNatClampNeg x5_80) ≤ Int32.toInt v_101 ∧ Int32.toInt v_101 ≤ khi (Int32.toNatClampNeg x5_80) := by rw [ev_101]; exact te_k a_81 _
                try have f_103 : 0 ≤ Int32.toInt v_101 ∧ Int32.toInt v_101 ≤ 5 := by rw [ev_101]; exact te_2r a_81 (by omega) (by omega)
                try have f_104 : 0 ≤ Int32.toInt v_101 ∧ Int32.toInt v_101 ≤ 1 := by rw [ev_101]; exact te_2h a_81 (by omega) (by omega)
                try have f_105 : 0 ≤ Int32.toInt v_101 ∧ Int32.toInt v_101 ≤ 5 := by rw [ev_101]; exact te_2s a_81 (by omega) (by omega)
                try have f_106 : 0 ≤ Int32.toInt v_101 ∧ Int32.toInt v_101 ≤ 400 := by rw [ev_101]; exact te_2z a_81 (by omega) (by omega)
                refine dOk_G (dg_ok (show 0 ≤ Int32.toInt x5_80 by omega) (show Int32.toInt x5_80 < ((14 : Nat) : Int) by omega)) ?_
                refine dOk_L (fun q_107 eq_107 => ?_)
                have hTq_107 : TS q_107 := by rw [eq_107]; first | exact ts_27 a_81 (show (Int32.toNatClampNeg x5_80) % 14 = Int32.toNatClampNeg x5_80 by omega) g_102 | exact ts_set a_81 (by decide) (by simp only [tlo, klo]; omega) (by simp only [thi, khi]; omega)
                have hFq_107 : dFk [1, 2, 5, 12, 13, 27] [0, 22, 23, 24, 25, 54, 55] q q_107 := by rw [eq_107]; exact hFq_78.i (by decide) (by decide) (by decide)
                try have t_108 : Int32.toInt (q_57.1 2 12 - q_51.1 2 12) = Int32.toInt (q_57.1 2 12) - Int32.toInt (q_51.1 2 12) := ti_sub rfl rfl (by omega) (by omega)
                try have t_109 : Int32.toInt (x5_80 + 1) = Int32.toInt x5_80 + 1 := ti_add rfl (by decide) (by omega) (by omega)
                exact hk_76 (q_107, (q_57.1 2 12 - q_51.1 2 12), (x5_80 + 1)) (show (TS q_107) ∧ (dFk [27] [] q_57 q_107) ∧ ((q_57.1 2 12 - q_51.1 2 12) = (q_57.1 2 12 - q_51.1 2 12)) ∧ (0 ≤ Int32.toInt (x5_80 + 1)) ∧ (Int32.toInt (x5_80 + 1) ≤ 14) from ⟨hTq_107, (by rw [eq_107]; exact (((dFk.rf : dFk [27] [] q_57 q_57).t a_82 (by decide) (by decide)) : dFk [27] [] q_57 q_78).i (by decide) (by decide) (by decide)), rfl, by omega, by omega⟩) (show (14 - Int32.toInt (x5_80 + 1)).toNat < (14 - Int32.toInt x5_80).toNat by omega)
            · have f_110 : 0 ≤ Int32.toInt (q_57.1 2 12) ∧ Int32.toInt (q_57.1 2 12) ≤ 9999 := a_61.1 2 12
              try have t_111 : Int32.toInt (q_57.1 2 12 - q_51.1 2 12) = Int32.toInt (q_57.1 2 12) - Int32.toInt (q_51.1 2 12) := ti_sub rfl rfl (by omega) (by omega)
              exact (show (TS q_57) ∧ (dFk [27] [] q_57 q_57) ∧ ((q_57.1 2 12 - q_51.1 2 12) = (q_57.1 2 12 - q_51.1 2 12)) ∧ (0 ≤ (0 : Int)) ∧ ((0 : Int) ≤ 14) from ⟨a_61, dFk.rf, rfl, by omega, by omega⟩)
            · have f_112 : 0 ≤ Int32.toInt (q_57.1 2 12) ∧ Int32.toInt (q_57.1 2 12) ≤ 9999 := a_61.1 2 12
              try have t_113 : Int32.toInt (q_57.1 2 12 - q_51.1 2 12) = Int32.toInt (q_57.1 2 12) - Int32.toInt (q_51.1 2 12) := ti_sub rfl rfl (by omega) (by omega)
              show (14 - (0 : Int)).toNat < 1000000000000
              omega
          · have f_114 : 0 ≤ Int32.toInt (q_57.1 2 13) ∧ Int32.toInt (q_57.1 2 13) ≤ 999 := a_61.1 2 13
            refine dOk_le (A := 999) (B := Int32.toInt (q_57.1 2 13)) (by decide) rfl (fun c_115 => ?_) (fun c_116 => ?_)
            · unfold zX10_years_177
              unfold zX10_years_191
              refine dFix_ok (fun (a : dS × Int32 × Int32) => (TS a.1) ∧ (dFk [27] [] q_57 a.1) ∧ (a.2.1 = (q_57.1 2 12 - q_51.1 2 12)) ∧ (0 ≤ Int32.toInt a.2.2) ∧ (Int32.toInt a.2.2 ≤ 14)) (fun (a : dS × Int32 × Int32) => (14 - Int32.toInt a.2.2).toNat) ?_ _ ?_ _ (dF_gt ?_)
              · intro a ha k_118 hk_117
                obtain ⟨q_119, x4_120, x5_121⟩ := a
                replace ha : (TS q_119) ∧ (dFk [27] [] q_57 q_119) ∧ (x4_120 = (q_57.1 2 12 - q_51.1 2 12)) ∧ (0 ≤ Int32.toInt x5_121) ∧ (Int32.toInt x5_121 ≤ 14) := ha
                obtain ⟨a_122, a_123, a_124, a_125, a_126⟩ := ha
                show dOk (zX10_years_191b  (fun q x4 x5 => k_118 (q, x4, x5)) q_119 x4_120 x5_121) _
                unfold zX10_years_191b
                have hFq_119 : dFk [1, 2, 5, 12, 13, 27] [0, 22, 23, 24, 25, 54, 55] q q_119 := hFq_57.t a_123 (by decide) (by decide)
                subst x4_120
                have f_127 : 0 ≤ Int32.toInt (q_57.1 2 12) ∧ Int32.toInt (q_57.1 2 12) ≤ 9999 := a_61.1 2 12
                refine dOk_le (A := 14) (B := Int32.toInt x5_121) (by decide) rfl (fun c_128 => ?_) (fun c_129 => ?_)
                · refine dOk_V (ok_takesBack q_119 0 a_122 (show 0 ≤ (0 : Int) by omega) (show (0 : Int) ≤ 1 by omega)) (fun q_130 h_131 => ?_)
                  replace h_131 : (TS q_130) ∧ (dFk [2] [] q_119 q_130) := h_131
                  obtain ⟨i_132, i_133⟩ := h_131
                  have hFq_130 : dFk [1, 2, 5, 12, 13, 27] [0, 22, 23, 24, 25, 54, 55] q q_130 := hFq_119.t i_133 (by decide) (by decide)
                  try have t_134 : Int32.toInt (q_57.1 2 12 - q_51.1 2 12) = Int32.toInt (q_57.1 2 12) - Int32.toInt (q_51.1 2 12) := ti_sub rfl rfl (by omega) (by omega)
                  refine dOk_B (ok_good q_130 (q_57.1 2 12 - q_51.1 2 12) i_132) (fun r_135 q_136 h_137 => ?_)
                  replace h_137 : (TS q_136) ∧ (dFr [] [0] q_130 q_136) ∧ (Int32.toInt r_135 = Int32.toInt (q_57.1 2 12 - q_51.1 2 12)) := h_137
                  obtain ⟨i_138, i_139, i_140⟩ := h_137
                  have hFq_136 : dFk [1, 2, 5, 12, 13, 27] [0, 22, 23, 24, 25, 54, 55] q q_136 := hFq_130.tr i_139 (by decide) (by decide) (by decide)
                  exact dOk_some (show (TS q_136) ∧ (dFk [1, 2, 5, 12, 13, 27] [0, 22, 23, 24, 25, 54, 55] q q_136) from ⟨i_138, hFq_136⟩)
                · refine dOk_G (dg_ok (show 0 ≤ Int32.toInt x5_121 by omega) (show Int32.toInt x5_121 < ((5640 : Nat) : Int) by omega)) ?_
                  have n_141 : ((Int32.toNatClampNeg x5_121 : Nat) : Int) = Int32.toInt x5_121 := cl_eq (by omega)
                  refine dOk_L (fun v_142 ev_142 => ?_)
                  try have g_143 : klo (Int32.toNatClampNeg x5_121) ≤ Int32.toInt v_142 ∧ Int32.toInt v_142 ≤ khi (Int32.toNatClampNeg x5_121) := by rw [ev_142]; exact te_k a_122 _
                  try have f_144 : 0 ≤ Int32.toInt v_142 ∧ Int32.toInt v_142 ≤ 5 := by rw [ev_142]; exact te_2r a_122 (by omega) (by omega)
                  try have f_145 : 0 ≤ Int32.toInt v_142 ∧ Int32.toInt v_142 ≤ 1 := by rw [ev_142]; exact te_2h a_122 (by omega) (by omega)
                  try have f_146 : 0 ≤ Int32.toInt v_142 ∧ Int32.toInt v_142 ≤ 5 := by rw [ev_142]; exact te_2s a_122 (by omega) (by omega)
                  try have f_147 : 0 ≤ Int32.toInt v_142 ∧ Int32.toInt v_142 ≤ 400 := by rw [ev_142]; exact te_2z a_122 (by omega) (by omega)
                  refine dOk_G (dg_ok (show 0 ≤ Int32.toInt x5_121 by omega) (show Int32.toInt x5_121 < ((14 : Nat) : Int) by omega)) ?_
                  refine dOk_L (fun q_148 eq_148 => ?_)
                  have hTq_148 : TS q_148 := by rw [eq_148]; first | exact ts_27 a_122 (show (Int32.toNatClampNeg x5_121) % 14 = Int32.toNatClampNeg x5_121 by omega) g_143 | exact ts_set a_122 (by decide) (by simp only [tlo, klo]; omega) (by simp only [thi, khi]; omega)
                  have hFq_148 : dFk [1, 2, 5, 12, 13, 27] [0, 22, 23, 24, 25, 54, 55] q q_148 := by rw [eq_148]; exact hFq_119.i (by decide) (by decide) (by decide)
                  try have t_149 : Int32.toInt (q_57.1 2 12 - q_51.1 2 12) = Int32.toInt (q_57.1 2 12) - Int32.toInt (q_51.1 2 12) := ti_sub rfl rfl (by omega) (by omega)
                  try have t_150 : Int32.toInt (x5_121 + 1) = Int32.toInt x5_121 + 1 := ti_add rfl (by decide) (by omega) (by omega)
                  exact hk_117 (q_148, (q_57.1 2 12 - q_51.1 2 12), (x5_121 + 1)) (show (TS q_148) ∧ (dFk [27] [] q_57 q_148) ∧ ((q_57.1 2 12 - q_51.1 2 12) = (q_57.1 2 12 - q_51.1 2 12)) ∧ (0 ≤ Int32.toInt (x5_121 + 1)) ∧ (Int32.toInt (x5_121 + 1) ≤ 14) from ⟨hTq_148, (by rw [eq_148]; exact (((dFk.rf : dFk [27] [] q_57 q_57).t a_123 (by decide) (by decide)) : dFk [27] [] q_57 q_119).i (by decide) (by decide) (by decide)), rfl, by omega, by omega⟩) (show (14 - Int32.toInt (x5_121 + 1)).toNat < (14 - Int32.toInt x5_121).toNat by omega)
              · have f_151 : 0 ≤ Int32.toInt (q_57.1 2 12) ∧ Int32.toInt (q_57.1 2 12) ≤ 9999 := a_61.1 2 12
                try have t_152 : Int32.toInt (q_57.1 2 12 - q_51.1 2 12) = Int32.toInt (q_57.1 2 12) - Int32.toInt (q_51.1 2 12) := ti_sub rfl rfl (by omega) (by omega)
                exact (show (TS q_57) ∧ (dFk [27] [] q_57 q_57) ∧ ((q_57.1 2 12 - q_51.1 2 12) = (q_57.1 2 12 - q_51.1 2 12)) ∧ (0 ≤ (0 : Int)) ∧ ((0 : Int) ≤ 14) from ⟨a_61, dFk.rf, rfl, by omega, by omega⟩)
              · have f_153 : 0 ≤ Int32.toInt (q_57.1 2 12) ∧ Int32.toInt (q_57.1 2 12) ≤ 9999 := a_61.1 2 12
                try have t_154 : Int32.toInt (q_57.1 2 12 - q_51.1 2 12) = Int32.toInt (q_57.1 2 12) - Int32.toInt (q_51.1 2 12) := ti_sub rfl rfl (by omega) (by omega)
                show (14 - (0 : Int)).toNat < 1000000000000
                omega
            · refine dOk_B (ok_draws q_57 6 a_61 (show 1 ≤ (6 : Int) by omega)) (fun r_155 q_156 h_157 => ?_)
              replace h_157 : (TS q_156) ∧ (dFr [] [55] q_57 q_156) ∧ (0 ≤ Int32.toInt r_155 ∧ Int32.toInt r_155 < (6 : Int)) := h_157
              obtain ⟨i_158, i_159, i_160⟩ := h_157
              have hFq_156 : dFk [1, 2, 5, 12, 13, 27] [0, 22, 23, 24, 25, 54, 55] q q_156 := hFq_57.tr i_159 (by decide) (by decide) (by decide)
              refine dOk_B (ok_draws q_156 3 i_158 (show 1 ≤ (3 : Int) by omega)) (fun r_161 q_162 h_163 => ?_)
              replace h_163 : (TS q_162) ∧ (dFr [] [55] q_156 q_162) ∧ (0 ≤ Int32.toInt r_161 ∧ Int32.toInt r_161 < (3 : Int)) := h_163
              obtain ⟨i_164, i_165, i_166⟩ := h_163
              have hFq_162 : dFk [1, 2, 5, 12, 13, 27] [0, 22, 23, 24, 25, 54, 55] q q_162 := hFq_156.tr i_165 (by decide) (by decide) (by decide)
              refine dOk_le (A := 2) (B := Int32.toInt r_161) (by decide) rfl (fun c_167 => ?_) (fun c_168 => ?_)
              · unfold zX10_years_129
                refine dOk_eq (A := Int32.toInt r_161) (B := 2) rfl (by decide) (fun c_169z c_169 => ?_) (fun c_170z c_170 => ?_)
                · refine dOk_B (ok_isPlace q_162 r_155 i_164) (fun r_172 q_173 h_174 => ?_)
                  replace h_174 : (q_173 = q_162) ∧ ((Int32.toInt r_172 = 1 ∧ 0 ≤ Int32.toInt r_155 ∧ Int32.toInt r_155 < Int32.toInt (q_162.1 2 29)) ∨ (Int32.toInt r_172 = 0 ∧ (Int32.toInt r_155 < 0 ∨ Int32.toInt (q_162.1 2 29) ≤ Int32.toInt r_155))) := h_174
                  obtain ⟨i_175, i_176⟩ := h_174
                  subst q_173
                  have f_177 : 0 ≤ Int32.toInt (q_162.1 2 29) ∧ Int32.toInt (q_162.1 2 29) ≤ 6 := i_164.1 2 29
                  have f_178 : 0 ≤ Int32.toInt (q_156.1 2 29) ∧ Int32.toInt (q_156.1 2 29) ≤ 6 := i_158.1 2 29
                  have f_179 : 0 ≤ Int32.toInt (q_57.1 2 29) ∧ Int32.toInt (q_57.1 2 29) ≤ 6 := a_61.1 2 29
                  have f_180 : 0 ≤ Int32.toInt (q_51.1 2 29) ∧ Int32.toInt (q_51.1 2 29) ≤ 6 := i_53.1 2 29
                  have f_181 : 0 ≤ Int32.toInt (q_50.1 2 29) ∧ Int32.toInt (q_50.1 2 29) ≤ 6 := hTq_50.1 2 29
                  have w_182 : Int32.toInt (q_50.1 2 29) = Int32.toInt (q_41.1 2 29) := by rw [eq_50, dui_o (by decide)]
                  have w_183 : Int32.toInt (q_51.1 2 29) = Int32.toInt (q_50.1 2 29) := by rw [i_54.1 2 (by decide) (by decide)]
                  have w_184 : Int32.toInt (q_57.1 2 29) = Int32.toInt (q_51.1 2 29) := by rw [a_62.2 29 (by decide)]
                  have w_185 : Int32.toInt (q_156.1 2 29) = Int32.toInt (q_57.1 2 29) := by rw [i_159.1 2 (by decide) (by decide)]
                  have w_186 : Int32.toInt (q_162.1 2 29) = Int32.toInt (q_156.1 2 29) := by rw [i_165.1 2 (by decide) (by decide)]
                  refine dOk_eq (A := Int32.toInt r_172) (B := 0) rfl (by decide) (fun c_187z c_187 => ?_) (fun c_188z c_188 => ?_)
                  · unfold zX10_years_166
                    have f_190 : 0 ≤ Int32.toInt (q_162.1 2 13) ∧ Int32.toInt (q_162.1 2 13) ≤ 999 := i_164.1 2 13
                    have f_191 : 0 ≤ Int32.toInt (q_156.1 2 13) ∧ Int32.toInt (q_156.1 2 13) ≤ 999 := i_158.1 2 13
                    have w_192 : Int32.toInt (q_156.1 2 13) = Int32.toInt (q_57.1 2 13) := by rw [i_159.1 2 (by decide) (by decide)]
                    have w_193 : Int32.toInt (q_162.1 2 13) = Int32.toInt (q_156.1 2 13) := by rw [i_165.1 2 (by decide) (by decide)]
                    refine dOk_B (ok_yearPasses q_162 i_164 (show Int32.toInt (q_162.1 2 13) < 999 by omega)) (fun r_194 q_195 h_196 => ?_)
                    replace h_196 : (TS q_195) ∧ (dFk [2, 12, 13] [22, 23, 24, 25] q_162 q_195) ∧ (0 ≤ Int32.toInt r_194) ∧ (Int32.toInt (q_195.1 2 29) = Int32.toInt (q_162.1 2 29)) := h_196
                    obtain ⟨i_197, i_198, i_199, i_200⟩ := h_196
                    have hFq_195 : dFk [1, 2, 5, 12, 13, 27] [0, 22, 23, 24, 25, 54, 55] q q_195 := hFq_162.t i_198 (by decide) (by decide)
                    have f_201 : 0 ≤ Int32.toInt (q_195.1 2 29) ∧ Int32.toInt (q_195.1 2 29) ≤ 6 := i_197.1 2 29
                    have w_202 : Int32.toInt (q_195.1 2 29) = Int32.toInt (q_162.1 2 29) := by rw [i_198.2 29 (by decide)]
                    try have t_203 : Int32.toInt (x4_60 + 1) = Int32.toInt x4_60 + 1 := ti_add rfl (by decide) (by omega) (by omega)
                    exact hk_55 (q_195, p2, (q_51.1 2 12), (x4_60 + 1)) (show (TS q_195) ∧ (dFk [2, 12, 13] [22, 23, 24, 25, 55] q_51 q_195) ∧ (p2 = p2) ∧ ((q_51.1 2 12) = (q_51.1 2 12)) ∧ (0 ≤ Int32.toInt (x4_60 + 1)) ∧ (Int32.toInt (x4_60 + 1) ≤ 60) from ⟨i_197, ((((((((dFk.rf : dFk [2, 12, 13] [22, 23, 24, 25, 55] q_51 q_51).t a_62 (by decide) (by decide)) : dFk [2, 12, 13] [22, 23, 24, 25, 55] q_51 q_57).tr i_159 (by decide) (by decide) (by decide)) : dFk [2, 12, 13] [22, 23, 24, 25, 55] q_51 q_156).tr i_165 (by decide) (by decide) (by decide)) : dFk [2, 12, 13] [22, 23, 24, 25, 55] q_51 q_162).t i_198 (by decide) (by decide)), rfl, rfl, by omega, by omega⟩) (show (60 - Int32.toInt (x4_60 + 1)).toNat < (60 - Int32.toInt x4_60).toNat by omega)
                  · try have t_204 : Int32.toInt (6 + r_155) = 6 + Int32.toInt r_155 := ti_add (by decide) rfl (by omega) (by omega)
                    refine dOk_G (dg_ok (show 0 ≤ Int32.toInt (6 + r_155) by omega) (show Int32.toInt (6 + r_155) < ((5640 : Nat) : Int) by omega)) ?_
                    have n_205 : ((Int32.toNatClampNeg (6 + r_155) : Nat) : Int) = Int32.toInt (6 + r_155) := cl_eq (by omega)
                    refine dOk_L (fun v_206 ev_206 => ?_)
                    try have g_207 : klo (Int32.toNatClampNeg (6 + r_155)) ≤ Int32.toInt v_206 ∧ Int32.toInt v_206 ≤ khi (Int32.toNatClampNeg (6 + r_155)) := by rw [ev_206]; exact te_k i_164 _
                    try have f_208 : 0 ≤ Int32.toInt v_206 ∧ Int32.toInt v_206 ≤ 5 := by rw [ev_206]; exact te_2r i_164 (by omega) (by omega)
                    try have f_209 : 0 ≤ Int32.toInt v_206 ∧ Int32.toInt v_206 ≤ 1 := by rw [ev_206]; exact te_2h i_164 (by omega) (by omega)
                    try have f_210 : 0 ≤ Int32.toInt v_206 ∧ Int32.toInt v_206 ≤ 5 := by rw [ev_206]; exact te_2s i_164 (by omega) (by omega)
                    try have f_211 : 0 ≤ Int32.toInt v_206 ∧ Int32.toInt v_206 ≤ 400 := by rw [ev_206]; exact te_2z i_164 (by omega) (by omega)
                    refine dOk_G (dg_ok (show 0 ≤ Int32.toInt (6 + r_155) by omega) (show Int32.toInt (6 + r_155) < ((5640 : Nat) : Int) by omega)) ?_
                    refine dOk_L (fun q_212 eq_212 => ?_)
                    try have t_213 : Int32.toInt (1 - v_206) = 1 - Int32.toInt v_206 := ti_sub (by decide) rfl (by omega) (by omega)
                    have hTq_212 : TS q_212 := by rw [eq_212]; exact ts_set2 i_164 (by omega) (show klo (Int32.toNatClampNeg (6 + r_155)) ≤ Int32.toInt (1 - v_206) by unfold klo; omega) (show Int32.toInt (1 - v_206) ≤ khi (Int32.toNatClampNeg (6 + r_155)) by unfold khi; omega)
                    have hFq_212 : dFk [1, 2, 5, 12, 13, 27] [0, 22, 23, 24, 25, 54, 55] q q_212 := by rw [eq_212]; exact hFq_162.k (by omega) (by decide)
                    unfold zX10_years_166
                    have f_214 : 0 ≤ Int32.toInt (q_212.1 2 13) ∧ Int32.toInt (q_212.1 2 13) ≤ 999 := hTq_212.1 2 13
                    have f_215 : 0 ≤ Int32.toInt (q_162.1 2 13) ∧ Int32.toInt (q_162.1 2 13) ≤ 999 := i_164.1 2 13
                    have f_216 : 0 ≤ Int32.toInt (q_156.1 2 13) ∧ Int32.toInt (q_156.1 2 13) ≤ 999 := i_158.1 2 13
                    have w_217 : Int32.toInt (q_156.1 2 13) = Int32.toInt (q_57.1 2 13) := by rw [i_159.1 2 (by decide) (by decide)]
                    have w_218 : Int32.toInt (q_162.1 2 13) = Int32.toInt (q_156.1 2 13) := by rw [i_165.1 2 (by decide) (by decide)]
                    try have w_219 : Int32.toInt (q_212.1 2 13) = Int32.toInt (q_162.1 2 13) := by rw [eq_212, dui_n (by omega)]
                    refine dOk_B (ok_yearPasses q_212 hTq_212 (show Int32.toInt (q_212.1 2 13) < 999 by omega)) (fun r_220 q_221 h_222 => ?_)
                    replace h_222 : (TS q_221) ∧ (dFk [2, 12, 13] [22, 23, 24, 25] q_212 q_221) ∧ (0 ≤ Int32.toInt r_220) ∧ (Int32.toInt (q_221.1 2 29) = Int32.toInt (q_212.1 2 29)) := h_222
                    obtain ⟨i_223, i_224, i_225, i_226⟩ := h_222
                    have hFq_221 : dFk [1, 2, 5, 12, 13, 27] [0, 22, 23, 24, 25, 54, 55] q q_221 := hFq_212.t i_224 (by decide) (by decide)
                    have f_227 : 0 ≤ Int32.toInt (q_221.1 2 29) ∧ Int32.toInt (q_221.1 2 29) ≤ 6 := i_223.1 2 29
                    have f_228 : 0 ≤ Int32.toInt (q_212.1 2 29) ∧ Int32.toInt (q_212.1 2 29) ≤ 6 := hTq_212.1 2 29
                    try have w_229 : Int32.toInt (q_212.1 2 29) = Int32.toInt (q_162.1 2 29) := by rw [eq_212, dui_n (by omega)]
                    have w_230 : Int32.toInt (q_221.1 2 29) = Int32.toInt (q_212.1 2 29) := by rw [i_224.2 29 (by decide)]
                    try have t_231 : Int32.toInt (x4_60 + 1) = Int32.toInt x4_60 + 1 := ti_add rfl (by decide) (by omega) (by omega)
                    exact hk_55 (q_221, p2, (q_51.1 2 12), (x4_60 + 1)) (show (TS q_221) ∧ (dFk [2, 12, 13] [22, 23, 24, 25, 55] q_51 q_221) ∧ (p2 = p2) ∧ ((q_51.1 2 12) = (q_51.1 2 12)) ∧ (0 ≤ Int32.toInt (x4_60 + 1)) ∧ (Int32.toInt (x4_60 + 1) ≤ 60) from ⟨i_223, (((by rw [eq_212]; exact (((((((dFk.rf : dFk [2, 12, 13] [22, 23, 24, 25, 55] q_51 q_51).t a_62 (by decide) (by decide)) : dFk [2, 12, 13] [22, 23, 24, 25, 55] q_51 q_57).tr i_159 (by decide) (by decide) (by decide)) : dFk [2, 12, 13] [22, 23, 24, 25, 55] q_51 q_156).tr i_165 (by decide) (by decide) (by decide)) : dFk [2, 12, 13] [22, 23, 24, 25, 55] q_51 q_162).k (by omega) (by decide)) : dFk [2, 12, 13] [22, 23, 24, 25, 55] q_51 q_212).t i_224 (by decide) (by decide)), rfl, rfl, by omega, by omega⟩) (show (60 - Int32.toInt (x4_60 + 1)).toNat < (60 - Int32.toInt x4_60).toNat by omega)
                · unfold zX10_years_166
                  have f_232 : 0 ≤ Int32.toInt (q_162.1 2 13) ∧ Int32.toInt (q_162.1 2 13) ≤ 999 := i_164.1 2 13
                  have f_233 : 0 ≤ Int32.toInt (q_156.1 2 13) ∧ Int32.toInt (q_156.1 2 13) ≤ 999 := i_158.1 2 13
                  have w_234 : Int32.toInt (q_156.1 2 13) = Int32.toInt (q_57.1 2 13) := by rw [i_159.1 2 (by decide) (by decide)]
                  have w_235 : Int32.toInt (q_162.1 2 13) = Int32.toInt (q_156.1 2 13) := by rw [i_165.1 2 (by decide) (by decide)]
                  refine dOk_B (ok_yearPasses q_162 i_164 (show Int32.toInt (q_162.1 2 13) < 999 by omega)) (fun r_236 q_237 h_238 => ?_)
                  replace h_238 : (TS q_237) ∧ (dFk [2, 12, 13] [22, 23, 24, 25] q_162 q_237) ∧ (0 ≤ Int32.toInt r_236) ∧ (Int32.toInt (q_237.1 2 29) = Int32.toInt (q_162.1 2 29)) := h_238
                  obtain ⟨i_239, i_240, i_241, i_242⟩ := h_238
                  have hFq_237 : dFk [1, 2, 5, 12, 13, 27] [0, 22, 23, 24, 25, 54, 55] q q_237 := hFq_162.t i_240 (by decide) (by decide)
                  have f_243 : 0 ≤ Int32.toInt (q_237.1 2 29) ∧ Int32.toInt (q_237.1 2 29) ≤ 6 := i_239.1 2 29
                  have f_244 : 0 ≤ Int32.toInt (q_162.1 2 29) ∧ Int32.toInt (q_162.1 2 29) ≤ 6 := i_164.1 2 29
                  have f_245 : 0 ≤ Int32.toInt (q_156.1 2 29) ∧ Int32.toInt (q_156.1 2 29) ≤ 6 := i_158.1 2 29
                  have f_246 : 0 ≤ Int32.toInt (q_57.1 2 29) ∧ Int32.toInt (q_57.1 2 29) ≤ 6 := a_61.1 2 29
                  have f_247 : 0 ≤ Int32.toInt (q_51.1 2 29) ∧ Int32.toInt (q_51.1 2 29) ≤ 6 := i_53.1 2 29
                  have f_248 : 0 ≤ Int32.toInt (q_50.1 2 29) ∧ Int32.toInt (q_50.1 2 29) ≤ 6 := hTq_50.1 2 29
                  have w_249 : Int32.toInt (q_50.1 2 29) = Int32.toInt (q_41.1 2 29) := by rw [eq_50, dui_o (by decide)]
                  have w_250 : Int32.toInt (q_51.1 2 29) = Int32.toInt (q_50.1 2 29) := by rw [i_54.1 2 (by decide) (by decide)]
                  have w_251 : Int32.toInt (q_57.1 2 29) = Int32.toInt (q_51.1 2 29) := by rw [a_62.2 29 (by decide)]
                  have w_252 : Int32.toInt (q_156.1 2 29) = Int32.toInt (q_57.1 2 29) := by rw [i_159.1 2 (by decide) (by decide)]
                  have w_253 : Int32.toInt (q_162.1 2 29) = Int32.toInt (q_156.1 2 29) := by rw [i_165.1 2 (by decide) (by decide)]
                  have w_254 : Int32.toInt (q_237.1 2 29) = Int32.toInt (q_162.1 2 29) := by rw [i_240.2 29 (by decide)]
                  try have t_255 : Int32.toInt (x4_60 + 1) = Int32.toInt x4_60 + 1 := ti_add rfl (by decide) (by omega) (by omega)
                  exact hk_55 (q_237, p2, (q_51.1 2 12), (x4_60 + 1)) (show (TS q_237) ∧ (dFk [2, 12, 13] [22, 23, 24, 25, 55] q_51 q_237) ∧ (p2 = p2) ∧ ((q_51.1 2 12) = (q_51.1 2 12)) ∧ (0 ≤ Int32.toInt (x4_60 + 1)) ∧ (Int32.toInt (x4_60 + 1) ≤ 60) from ⟨i_239, ((((((((dFk.rf : dFk [2, 12, 13] [22, 23, 24, 25, 55] q_51 q_51).t a_62 (by decide) (by decide)) : dFk [2, 12, 13] [22, 23, 24, 25, 55] q_51 q_57).tr i_159 (by decide) (by decide) (by decide)) : dFk [2, 12, 13] [22, 23, 24, 25, 55] q_51 q_156).tr i_165 (by decide) (by decide) (by decide)) : dFk [2, 12, 13] [22, 23, 24, 25, 55] q_51 q_162).t i_240 (by decide) (by decide)), rfl, rfl, by omega, by omega⟩) (show (60 - Int32.toInt (x4_60 + 1)).toNat < (60 - Int32.toInt x4_60).toNat by omega)
              · try have t_256 : Int32.toInt (r_155 + 1) = Int32.toInt r_155 + 1 := ti_add rfl (by decide) (by omega) (by omega)
                refine dOk_B (ok_canTurn q_162 (r_155 + 1) i_164 (show 1 ≤ Int32.toInt (r_155 + 1) by omega)) (fun r_257 q_258 h_259 => ?_)
                replace h_259 : (TS q_258) ∧ (dFr [12] [22, 23, 24, 25] q_162 q_258) ∧ ((Int32.toInt r_257 = 1 ∧ Int32.toInt (r_155 + 1) ≤ Int32.toInt (q_162.1 2 29)) ∨ Int32.toInt r_257 = 0) := h_259
                obtain ⟨i_260, i_261, i_262⟩ := h_259
                have hFq_258 : dFk [1, 2, 5, 12, 13, 27] [0, 22, 23, 24, 25, 54, 55] q q_258 := hFq_162.tr i_261 (by decide) (by decide) (by decide)
                have f_263 : 0 ≤ Int32.toInt (q_162.1 2 29) ∧ Int32.toInt (q_162.1 2 29) ≤ 6 := i_164.1 2 29
                have f_264 : 0 ≤ Int32.toInt (q_156.1 2 29) ∧ Int32.toInt (q_156.1 2 29) ≤ 6 := i_158.1 2 29
                have f_265 : 0 ≤ Int32.toInt (q_57.1 2 29) ∧ Int32.toInt (q_57.1 2 29) ≤ 6 := a_61.1 2 29
                have f_266 : 0 ≤ Int32.toInt (q_51.1 2 29) ∧ Int32.toInt (q_51.1 2 29) ≤ 6 := i_53.1 2 29
                have f_267 : 0 ≤ Int32.toInt (q_50.1 2 29) ∧ Int32.toInt (q_50.1 2 29) ≤ 6 := hTq_50.1 2 29
                have w_268 : Int32.toInt (q_50.1 2 29) = Int32.toInt (q_41.1 2 29) := by rw [eq_50, dui_o (by decide)]
                have w_269 : Int32.toInt (q_51.1 2 29) = Int32.toInt (q_50.1 2 29) := by rw [i_54.1 2 (by decide) (by decide)]
                have w_270 : Int32.toInt (q_57.1 2 29) = Int32.toInt (q_51.1 2 29) := by rw [a_62.2 29 (by decide)]
                have w_271 : Int32.toInt (q_156.1 2 29) = Int32.toInt (q_57.1 2 29) := by rw [i_159.1 2 (by decide) (by decide)]
                have w_272 : Int32.toInt (q_162.1 2 29) = Int32.toInt (q_156.1 2 29) := by rw [i_165.1 2 (by decide) (by decide)]
                refine dOk_eq (A := Int32.toInt r_257) (B := 0) rfl (by decide) (fun c_273z c_273 => ?_) (fun c_274z c_274 => ?_)
                · unfold zX10_years_129
                  refine dOk_eq (A := Int32.toInt r_161) (B := 2) rfl (by decide) (fun c_276z c_276 => ?_) (fun c_277z c_277 => ?_)
                  · refine dOk_B (ok_isPlace q_258 r_155 i_260) (fun r_279 q_280 h_281 => ?_)
                    replace h_281 : (q_280 = q_258) ∧ ((Int32.toInt r_279 = 1 ∧ 0 ≤ Int32.toInt r_155 ∧ Int32.toInt r_155 < Int32.toInt (q_258.1 2 29)) ∨ (Int32.toInt r_279 = 0 ∧ (Int32.toInt r_155 < 0 ∨ Int32.toInt (q_258.1 2 29) ≤ Int32.toInt r_155))) := h_281
                    obtain ⟨i_282, i_283⟩ := h_281
                    subst q_280
                    have f_284 : 0 ≤ Int32.toInt (q_258.1 2 29) ∧ Int32.toInt (q_258.1 2 29) ≤ 6 := i_260.1 2 29
                    have w_285 : Int32.toInt (q_258.1 2 29) = Int32.toInt (q_162.1 2 29) := by rw [i_261.1 2 (by decide) (by decide)]
                    refine dOk_eq (A := Int32.toInt r_279) (B := 0) rfl (by decide) (fun c_286z c_286 => ?_) (fun c_287z c_287 => ?_)
                    · unfold zX10_years_166
                      have f_289 : 0 ≤ Int32.toInt (q_258.1 2 13) ∧ Int32.toInt (q_258.1 2 13) ≤ 999 := i_260.1 2 13
                      have f_290 : 0 ≤ Int32.toInt (q_162.1 2 13) ∧ Int32.toInt (q_162.1 2 13) ≤ 999 := i_164.1 2 13
                      have f_291 : 0 ≤ Int32.toInt (q_156.1 2 13) ∧ Int32.toInt (q_156.1 2 13) ≤ 999 := i_158.1 2 13
                      have w_292 : Int32.toInt (q_156.1 2 13) = Int32.toInt (q_57.1 2 13) := by rw [i_159.1 2 (by decide) (by decide)]
                      have w_293 : Int32.toInt (q_162.1 2 13) = Int32.toInt (q_156.1 2 13) := by rw [i_165.1 2 (by decide) (by decide)]
                      have w_294 : Int32.toInt (q_258.1 2 13) = Int32.toInt (q_162.1 2 13) := by rw [i_261.1 2 (by decide) (by decide)]
                      refine dOk_B (ok_yearPasses q_258 i_260 (show Int32.toInt (q_258.1 2 13) < 999 by omega)) (fun r_295 q_296 h_297 => ?_)
                      replace h_297 : (TS q_296) ∧ (dFk [2, 12, 13] [22, 23, 24, 25] q_258 q_296) ∧ (0 ≤ Int32.toInt r_295) ∧ (Int32.toInt (q_296.1 2 29) = Int32.toInt (q_258.1 2 29)) := h_297
                      obtain ⟨i_298, i_299, i_300, i_301⟩ := h_297
                      have hFq_296 : dFk [1, 2, 5, 12, 13, 27] [0, 22, 23, 24, 25, 54, 55] q q_296 := hFq_258.t i_299 (by decide) (by decide)
                      have f_302 : 0 ≤ Int32.toInt (q_296.1 2 29) ∧ Int32.toInt (q_296.1 2 29) ≤ 6 := i_298.1 2 29
                      have w_303 : Int32.toInt (q_296.1 2 29) = Int32.toInt (q_258.1 2 29) := by rw [i_299.2 29 (by decide)]
                      try have t_304 : Int32.toInt (x4_60 + 1) = Int32.toInt x4_60 + 1 := ti_add rfl (by decide) (by omega) (by omega)
                      exact hk_55 (q_296, p2, (q_51.1 2 12), (x4_60 + 1)) (show (TS q_296) ∧ (dFk [2, 12, 13] [22, 23, 24, 25, 55] q_51 q_296) ∧ (p2 = p2) ∧ ((q_51.1 2 12) = (q_51.1 2 12)) ∧ (0 ≤ Int32.toInt (x4_60 + 1)) ∧ (Int32.toInt (x4_60 + 1) ≤ 60) from ⟨i_298, ((((((((((dFk.rf : dFk [2, 12, 13] [22, 23, 24, 25, 55] q_51 q_51).t a_62 (by decide) (by decide)) : dFk [2, 12, 13] [22, 23, 24, 25, 55] q_51 q_57).tr i_159 (by decide) (by decide) (by decide)) : dFk [2, 12, 13] [22, 23, 24, 25, 55] q_51 q_156).tr i_165 (by decide) (by decide) (by decide)) : dFk [2, 12, 13] [22, 23, 24, 25, 55] q_51 q_162).tr i_261 (by decide) (by decide) (by decide)) : dFk [2, 12, 13] [22, 23, 24, 25, 55] q_51 q_258).t i_299 (by decide) (by decide)), rfl, rfl, by omega, by omega⟩) (show (60 - Int32.toInt (x4_60 + 1)).toNat < (60 - Int32.toInt x4_60).toNat by omega)
                    · try have t_305 : Int32.toInt (6 + r_155) = 6 + Int32.toInt r_155 := ti_add (by decide) rfl (by omega) (by omega)
                      refine dOk_G (dg_ok (show 0 ≤ Int32.toInt (6 + r_155) by omega) (show Int32.toInt (6 + r_155) < ((5640 : Nat) : Int) by omega)) ?_
                      have n_306 : ((Int32.toNatClampNeg (6 + r_155) : Nat) : Int) = Int32.toInt (6 + r_155) := cl_eq (by omega)
                      refine dOk_L (fun v_307 ev_307 => ?_)
                      try have g_308 : klo (Int32.toNatClampNeg (6 + r_155)) ≤ Int32.toInt v_307 ∧ Int32.toInt v_307 ≤ khi (Int32.toNatClampNeg (6 + r_155)) := by rw [ev_307]; exact te_k i_260 _
                      try have f_309 : 0 ≤ Int32.toInt v_307 ∧ Int32.toInt v_307 ≤ 5 := by rw [ev_307]; exact te_2r i_260 (by omega) (by omega)
                      try have f_310 : 0 ≤ Int32.toInt v_307 ∧ Int32.toInt v_307 ≤ 1 := by rw [ev_307]; exact te_2h i_260 (by omega) (by omega)
                      try have f_311 : 0 ≤ Int32.toInt v_307 ∧ Int32.toInt v_307 ≤ 5 := by rw [ev_307]; exact te_2s i_260 (by omega) (by omega)
                      try have f_312 : 0 ≤ Int32.toInt v_307 ∧ Int32.toInt v_307 ≤ 400 := by rw [ev_307]; exact te_2z i_260 (by omega) (by omega)
                      refine dOk_G (dg_ok (show 0 ≤ Int32.toInt (6 + r_155) by omega) (show Int32.toInt (6 + r_155) < ((5640 : Nat) : Int) by omega)) ?_
                      refine dOk_L (fun q_313 eq_313 => ?_)
                      try have t_314 : Int32.toInt (1 - v_307) = 1 - Int32.toInt v_307 := ti_sub (by decide) rfl (by omega) (by omega)
                      have hTq_313 : TS q_313 := by rw [eq_313]; exact ts_set2 i_260 (by omega) (show klo (Int32.toNatClampNeg (6 + r_155)) ≤ Int32.toInt (1 - v_307) by unfold klo; omega) (show Int32.toInt (1 - v_307) ≤ khi (Int32.toNatClampNeg (6 + r_155)) by unfold khi; omega)
                      have hFq_313 : dFk [1, 2, 5, 12, 13, 27] [0, 22, 23, 24, 25, 54, 55] q q_313 := by rw [eq_313]; exact hFq_258.k (by omega) (by decide)
                      unfold zX10_years_166
                      have f_315 : 0 ≤ Int32.toInt (q_313.1 2 13) ∧ Int32.toInt (q_313.1 2 13) ≤ 999 := hTq_313.1 2 13
                      have f_316 : 0 ≤ Int32.toInt (q_258.1 2 13) ∧ Int32.toInt (q_258.1 2 13) ≤ 999 := i_260.1 2 13
                      have f_317 : 0 ≤ Int32.toInt (q_162.1 2 13) ∧ Int32.toInt (q_162.1 2 13) ≤ 999 := i_164.1 2 13
                      have f_318 : 0 ≤ Int32.toInt (q_156.1 2 13) ∧ Int32.toInt (q_156.1 2 13) ≤ 999 := i_158.1 2 13
                      have w_319 : Int32.toInt (q_156.1 2 13) = Int32.toInt (q_57.1 2 13) := by rw [i_159.1 2 (by decide) (by decide)]
                      have w_320 : Int32.toInt (q_162.1 2 13) = Int32.toInt (q_156.1 2 13) := by rw [i_165.1 2 (by decide) (by decide)]
                      have w_321 : Int32.toInt (q_258.1 2 13) = Int32.toInt (q_162.1 2 13) := by rw [i_261.1 2 (by decide) (by decide)]
                      try have w_322 : Int32.toInt (q_313.1 2 13) = Int32.toInt (q_258.1 2 13) := by rw [eq_313, dui_n (by omega)]
                      refine dOk_B (ok_yearPasses q_313 hTq_313 (show Int32.toInt (q_313.1 2 13) < 999 by omega)) (fun r_323 q_324 h_325 => ?_)
                      replace h_325 : (TS q_324) ∧ (dFk [2, 12, 13] [22, 23, 24, 25] q_313 q_324) ∧ (0 ≤ Int32.toInt r_323) ∧ (Int32.toInt (q_324.1 2 29) = Int32.toInt (q_313.1 2 29)) := h_325
                      obtain ⟨i_326, i_327, i_328, i_329⟩ := h_325
                      have hFq_324 : dFk [1, 2, 5, 12, 13, 27] [0, 22, 23, 24, 25, 54, 55] q q_324 := hFq_313.t i_327 (by decide) (by decide)
                      have f_330 : 0 ≤ Int32.toInt (q_324.1 2 29) ∧ Int32.toInt (q_324.1 2 29) ≤ 6 := i_326.1 2 29
                      have f_331 : 0 ≤ Int32.toInt (q_313.1 2 29) ∧ Int32.toInt (q_313.1 2 29) ≤ 6 := hTq_313.1 2 29
                      try have w_332 : Int32.toInt (q_313.1 2 29) = Int32.toInt (q_258.1 2 29) := by rw [eq_313, dui_n (by omega)]
                      have w_333 : Int32.toInt (q_324.1 2 29) = Int32.toInt (q_313.1 2 29) := by rw [i_327.2 29 (by decide)]
                      try have t_334 : Int32.toInt (x4_60 + 1) = Int32.toInt x4_60 + 1 := ti_add rfl (by decide) (by omega) (by omega)
                      exact hk_55 (q_324, p2, (q_51.1 2 12), (x4_60 + 1)) (show (TS q_324) ∧ (dFk [2, 12, 13] [22, 23, 24, 25, 55] q_51 q_324) ∧ (p2 = p2) ∧ ((q_51.1 2 12) = (q_51.1 2 12)) ∧ (0 ≤ Int32.toInt (x4_60 + 1)) ∧ (Int32.toInt (x4_60 + 1) ≤ 60) from ⟨i_326, (((by rw [eq_313]; exact (((((((((dFk.rf : dFk [2, 12, 13] [22, 23, 24, 25, 55] q_51 q_51).t a_62 (by decide) (by decide)) : dFk [2, 12, 13] [22, 23, 24, 25, 55] q_51 q_57).tr i_159 (by decide) (by decide) (by decide)) : dFk [2, 12, 13] [22, 23, 24, 25, 55] q_51 q_156).tr i_165 (by decide) (by decide) (by decide)) : dFk [2, 12, 13] [22, 23, 24, 25, 55] q_51 q_162).tr i_261 (by decide) (by decide) (by decide)) : dFk [2, 12, 13] [22, 23, 24, 25, 55] q_51 q_258).k (by omega) (by decide)) : dFk [2, 12, 13] [22, 23, 24, 25, 55] q_51 q_313).t i_327 (by decide) (by decide)), rfl, rfl, by omega, by omega⟩) (show (60 - Int32.toInt (x4_60 + 1)).toNat < (60 - Int32.toInt x4_60).toNat by omega)
                  · unfold zX10_years_166
                    have f_335 : 0 ≤ Int32.toInt (q_258.1 2 13) ∧ Int32.toInt (q_258.1 2 13) ≤ 999 := i_260.1 2 13
                    have f_336 : 0 ≤ Int32.toInt (q_162.1 2 13) ∧ Int32.toInt (q_162.1 2 13) ≤ 999 := i_164.1 2 13
                    have f_337 : 0 ≤ Int32.toInt (q_156.1 2 13) ∧ Int32.toInt (q_156.1 2 13) ≤ 999 := i_158.1 2 13
                    have w_338 : Int32.toInt (q_156.1 2 13) = Int32.toInt (q_57.1 2 13) := by rw [i_159.1 2 (by decide) (by decide)]
                    have w_339 : Int32.toInt (q_162.1 2 13) = Int32.toInt (q_156.1 2 13) := by rw [i_165.1 2 (by decide) (by decide)]
                    have w_340 : Int32.toInt (q_258.1 2 13) = Int32.toInt (q_162.1 2 13) := by rw [i_261.1 2 (by decide) (by decide)]
                    refine dOk_B (ok_yearPasses q_258 i_260 (show Int32.toInt (q_258.1 2 13) < 999 by omega)) (fun r_341 q_342 h_343 => ?_)
                    replace h_343 : (TS q_342) ∧ (dFk [2, 12, 13] [22, 23, 24, 25] q_258 q_342) ∧ (0 ≤ Int32.toInt r_341) ∧ (Int32.toInt (q_342.1 2 29) = Int32.toInt (q_258.1 2 29)) := h_343
                    obtain ⟨i_344, i_345, i_346, i_347⟩ := h_343
                    have hFq_342 : dFk [1, 2, 5, 12, 13, 27] [0, 22, 23, 24, 25, 54, 55] q q_342 := hFq_258.t i_345 (by decide) (by decide)
                    have f_348 : 0 ≤ Int32.toInt (q_342.1 2 29) ∧ Int32.toInt (q_342.1 2 29) ≤ 6 := i_344.1 2 29
                    have f_349 : 0 ≤ Int32.toInt (q_258.1 2 29) ∧ Int32.toInt (q_258.1 2 29) ≤ 6 := i_260.1 2 29
                    have w_350 : Int32.toInt (q_258.1 2 29) = Int32.toInt (q_162.1 2 29) := by rw [i_261.1 2 (by decide) (by decide)]
                    have w_351 : Int32.toInt (q_342.1 2 29) = Int32.toInt (q_258.1 2 29) := by rw [i_345.2 29 (by decide)]
                    try have t_352 : Int32.toInt (x4_60 + 1) = Int32.toInt x4_60 + 1 := ti_add rfl (by decide) (by omega) (by omega)
                    exact hk_55 (q_342, p2, (q_51.1 2 12), (x4_60 + 1)) (show (TS q_342) ∧ (dFk [2, 12, 13] [22, 23, 24, 25, 55] q_51 q_342) ∧ (p2 = p2) ∧ ((q_51.1 2 12) = (q_51.1 2 12)) ∧ (0 ≤ Int32.toInt (x4_60 + 1)) ∧ (Int32.toInt (x4_60 + 1) ≤ 60) from ⟨i_344, ((((((((((dFk.rf : dFk [2, 12, 13] [22, 23, 24, 25, 55] q_51 q_51).t a_62 (by decide) (by decide)) : dFk [2, 12, 13] [22, 23, 24, 25, 55] q_51 q_57).tr i_159 (by decide) (by decide) (by decide)) : dFk [2, 12, 13] [22, 23, 24, 25, 55] q_51 q_156).tr i_165 (by decide) (by decide) (by decide)) : dFk [2, 12, 13] [22, 23, 24, 25, 55] q_51 q_162).tr i_261 (by decide) (by decide) (by decide)) : dFk [2, 12, 13] [22, 23, 24, 25, 55] q_51 q_258).t i_345 (by decide) (by decide)), rfl, rfl, by omega, by omega⟩) (show (60 - Int32.toInt (x4_60 + 1)).toNat < (60 - Int32.toInt x4_60).toNat by omega)
                · have f_353 : 0 ≤ Int32.toInt (q_258.1 2 29) ∧ Int32.toInt (q_258.1 2 29) ≤ 6 := i_260.1 2 29
                  have w_354 : Int32.toInt (q_258.1 2 29) = Int32.toInt (q_162.1 2 29) := by rw [i_261.1 2 (by decide) (by decide)]
                  refine dOk_B (ok_turns q_258 (r_155 + 1) i_260 (show 1 ≤ Int32.toInt (r_155 + 1) by omega) (show Int32.toInt (r_155 + 1) ≤ Int32.toInt (q_258.1 2 29) by omega)) (fun r_355 q_356 h_357 => ?_)
                  replace h_357 : (TS q_356) ∧ (dFk [2, 12] [22, 23, 24, 25] q_258 q_356) ∧ (0 ≤ Int32.toInt r_355 ∧ Int32.toInt r_355 ≤ 99) ∧ (Int32.toInt (q_356.1 2 29) = Int32.toInt (q_258.1 2 29)) ∧ (Int32.toInt (q_356.1 2 13) = Int32.toInt (q_258.1 2 13)) := h_357
                  obtain ⟨i_358, i_359, i_360, i_361, i_362⟩ := h_357
                  have hFq_356 : dFk [1, 2, 5, 12, 13, 27] [0, 22, 23, 24, 25, 54, 55] q q_356 := hFq_258.t i_359 (by decide) (by decide)
                  have f_363 : 0 ≤ Int32.toInt (q_356.1 2 29) ∧ Int32.toInt (q_356.1 2 29) ≤ 6 := i_358.1 2 29
                  have w_364 : Int32.toInt (q_356.1 2 29) = Int32.toInt (q_258.1 2 29) := by rw [i_359.2 29 (by decide)]
                  have f_365 : 0 ≤ Int32.toInt (q_356.1 2 13) ∧ Int32.toInt (q_356.1 2 13) ≤ 999 := i_358.1 2 13
                  have f_366 : 0 ≤ Int32.toInt (q_258.1 2 13) ∧ Int32.toInt (q_258.1 2 13) ≤ 999 := i_260.1 2 13
                  have f_367 : 0 ≤ Int32.toInt (q_162.1 2 13) ∧ Int32.toInt (q_162.1 2 13) ≤ 999 := i_164.1 2 13
                  have f_368 : 0 ≤ Int32.toInt (q_156.1 2 13) ∧ Int32.toInt (q_156.1 2 13) ≤ 999 := i_158.1 2 13
                  have w_369 : Int32.toInt (q_156.1 2 13) = Int32.toInt (q_57.1 2 13) := by rw [i_159.1 2 (by decide) (by decide)]
                  have w_370 : Int32.toInt (q_162.1 2 13) = Int32.toInt (q_156.1 2 13) := by rw [i_165.1 2 (by decide) (by decide)]
                  have w_371 : Int32.toInt (q_258.1 2 13) = Int32.toInt (q_162.1 2 13) := by rw [i_261.1 2 (by decide) (by decide)]
                  unfold zX10_years_129
                  refine dOk_eq (A := Int32.toInt r_161) (B := 2) rfl (by decide) (fun c_372z c_372 => ?_) (fun c_373z c_373 => ?_)
                  · refine dOk_B (ok_isPlace q_356 r_155 i_358) (fun r_375 q_376 h_377 => ?_)
                    replace h_377 : (q_376 = q_356) ∧ ((Int32.toInt r_375 = 1 ∧ 0 ≤ Int32.toInt r_155 ∧ Int32.toInt r_155 < Int32.toInt (q_356.1 2 29)) ∨ (Int32.toInt r_375 = 0 ∧ (Int32.toInt r_155 < 0 ∨ Int32.toInt (q_356.1 2 29) ≤ Int32.toInt r_155))) := h_377
                    obtain ⟨i_378, i_379⟩ := h_377
                    subst q_376
                    refine dOk_eq (A := Int32.toInt r_375) (B := 0) rfl (by decide) (fun c_380z c_380 => ?_) (fun c_381z c_381 => ?_)
                    · unfold zX10_years_166
                      refine dOk_B (ok_yearPasses q_356 i_358 (show Int32.toInt (q_356.1 2 13) < 999 by omega)) (fun r_383 q_384 h_385 => ?_)
                      replace h_385 : (TS q_384) ∧ (dFk [2, 12, 13] [22, 23, 24, 25] q_356 q_384) ∧ (0 ≤ Int32.toInt r_383) ∧ (Int32.toInt (q_384.1 2 29) = Int32.toInt (q_356.1 2 29)) := h_385
                      obtain ⟨i_386, i_387, i_388, i_389⟩ := h_385
                      have hFq_384 : dFk [1, 2, 5, 12, 13, 27] [0, 22, 23, 24, 25, 54, 55] q q_384 := hFq_356.t i_387 (by decide) (by decide)
                      have f_390 : 0 ≤ Int32.toInt (q_384.1 2 29) ∧ Int32.toInt (q_384.1 2 29) ≤ 6 := i_386.1 2 29
                      have w_391 : Int32.toInt (q_384.1 2 29) = Int32.toInt (q_356.1 2 29) := by rw [i_387.2 29 (by decide)]
                      try have t_392 : Int32.toInt (x4_60 + 1) = Int32.toInt x4_60 + 1 := ti_add rfl (by decide) (by omega) (by omega)
                      exact hk_55 (q_384, p2, (q_51.1 2 12), (x4_60 + 1)) (show (TS q_384) ∧ (dFk [2, 12, 13] [22, 23, 24, 25, 55] q_51 q_384) ∧ (p2 = p2) ∧ ((q_51.1 2 12) = (q_51.1 2 12)) ∧ (0 ≤ Int32.toInt (x4_60 + 1)) ∧ (Int32.toInt (x4_60 + 1) ≤ 60) from ⟨i_386, ((((((((((((dFk.rf : dFk [2, 12, 13] [22, 23, 24, 25, 55] q_51 q_51).t a_62 (by decide) (by decide)) : dFk [2, 12, 13] [22, 23, 24, 25, 55] q_51 q_57).tr i_159 (by decide) (by decide) (by decide)) : dFk [2, 12, 13] [22, 23, 24, 25, 55] q_51 q_156).tr i_165 (by decide) (by decide) (by decide)) : dFk [2, 12, 13] [22, 23, 24, 25, 55] q_51 q_162).tr i_261 (by decide) (by decide) (by decide)) : dFk [2, 12, 13] [22, 23, 24, 25, 55] q_51 q_258).t i_359 (by decide) (by decide)) : dFk [2, 12, 13] [22, 23, 24, 25, 55] q_51 q_356).t i_387 (by decide) (by decide)), rfl, rfl, by omega, by omega⟩) (show (60 - Int32.toInt (x4_60 + 1)).toNat < (60 - Int32.toInt x4_60).toNat by omega)
                    · try have t_393 : Int32.toInt (6 + r_155) = 6 + Int32.toInt r_155 := ti_add (by decide) rfl (by omega) (by omega)
                      refine dOk_G (dg_ok (show 0 ≤ Int32.toInt (6 + r_155) by omega) (show Int32.toInt (6 + r_155) < ((5640 : Nat) : Int) by omega)) ?_
                      have n_394 : ((Int32.toNatClampNeg (6 + r_155) : Nat) : Int) = Int32.toInt (6 + r_155) := cl_eq (by omega)
                      refine dOk_L (fun v_395 ev_395 => ?_)
                      try have g_396 : klo (Int32.toNatClampNeg (6 + r_155)) ≤ Int32.toInt v_395 ∧ Int32.toInt v_395 ≤ khi (Int32.toNatClampNeg (6 + r_155)) := by rw [ev_395]; exact te_k i_358 _
                      try have f_397 : 0 ≤ Int32.toInt v_395 ∧ Int32.toInt v_395 ≤ 5 := by rw [ev_395]; exact te_2r i_358 (by omega) (by omega)
                      try have f_398 : 0 ≤ Int32.toInt v_395 ∧ Int32.toInt v_395 ≤ 1 := by rw [ev_395]; exact te_2h i_358 (by omega) (by omega)
                      try have f_399 : 0 ≤ Int32.toInt v_395 ∧ Int32.toInt v_395 ≤ 5 := by rw [ev_395]; exact te_2s i_358 (by omega) (by omega)
                      try have f_400 : 0 ≤ Int32.toInt v_395 ∧ Int32.toInt v_395 ≤ 400 := by rw [ev_395]; exact te_2z i_358 (by omega) (by omega)
                      refine dOk_G (dg_ok (show 0 ≤ Int32.toInt (6 + r_155) by omega) (show Int32.toInt (6 + r_155) < ((5640 : Nat) : Int) by omega)) ?_
                      refine dOk_L (fun q_401 eq_401 => ?_)
                      try have t_402 : Int32.toInt (1 - v_395) = 1 - Int32.toInt v_395 := ti_sub (by decide) rfl (by omega) (by omega)
                      have hTq_401 : TS q_401 := by rw [eq_401]; exact ts_set2 i_358 (by omega) (show klo (Int32.toNatClampNeg (6 + r_155)) ≤ Int32.toInt (1 - v_395) by unfold klo; omega) (show Int32.toInt (1 - v_395) ≤ khi (Int32.toNatClampNeg (6 + r_155)) by unfold khi; omega)
                      have hFq_401 : dFk [1, 2, 5, 12, 13, 27] [0, 22, 23, 24, 25, 54, 55] q q_401 := by rw [eq_401]; exact hFq_356.k (by omega) (by decide)
                      unfold zX10_years_166
                      have f_403 : 0 ≤ Int32.toInt (q_401.1 2 13) ∧ Int32.toInt (q_401.1 2 13) ≤ 999 := hTq_401.1 2 13
                      try have w_404 : Int32.toInt (q_401.1 2 13) = Int32.toInt (q_356.1 2 13) := by rw [eq_401, dui_n (by omega)]
                      refine dOk_B (ok_yearPasses q_401 hTq_401 (show Int32.toInt (q_401.1 2 13) < 999 by omega)) (fun r_405 q_406 h_407 => ?_)
                      replace h_407 : (TS q_406) ∧ (dFk [2, 12, 13] [22, 23, 24, 25] q_401 q_406) ∧ (0 ≤ Int32.toInt r_405) ∧ (Int32.toInt (q_406.1 2 29) = Int32.toInt (q_401.1 2 29)) := h_407
                      obtain ⟨i_408, i_409, i_410, i_411⟩ := h_407
                      have hFq_406 : dFk [1, 2, 5, 12, 13, 27] [0, 22, 23, 24, 25, 54, 55] q q_406 := hFq_401.t i_409 (by decide) (by decide)
                      have f_412 : 0 ≤ Int32.toInt (q_406.1 2 29) ∧ Int32.toInt (q_406.1 2 29) ≤ 6 := i_408.1 2 29
                      have f_413 : 0 ≤ Int32.toInt (q_401.1 2 29) ∧ Int32.toInt (q_401.1 2 29) ≤ 6 := hTq_401.1 2 29
                      try have w_414 : Int32.toInt (q_401.1 2 29) = Int32.toInt (q_356.1 2 29) := by rw [eq_401, dui_n (by omega)]
                      have w_415 : Int32.toInt (q_406.1 2 29) = Int32.toInt (q_401.1 2 29) := by rw [i_409.2 29 (by decide)]
                      try have t_416 : Int32.toInt (x4_60 + 1) = Int32.toInt x4_60 + 1 := ti_add rfl (by decide) (by omega) (by omega)
                      exact hk_55 (q_406, p2, (q_51.1 2 12), (x4_60 + 1)) (show (TS q_406) ∧ (dFk [2, 12, 13] [22, 23, 24, 25, 55] q_51 q_406) ∧ (p2 = p2) ∧ ((q_51.1 2 12) = (q_51.1 2 12)) ∧ (0 ≤ Int32.toInt (x4_60 + 1)) ∧ (Int32.toInt (x4_60 + 1) ≤ 60) from ⟨i_408, (((by rw [eq_401]; exact (((((((((((dFk.rf : dFk [2, 12, 13] [22, 23, 24, 25, 55] q_51 q_51).t a_62 (by decide) (by decide)) : dFk [2, 12, 13] [22, 23, 24, 25, 55] q_51 q_57).tr i_159 (by decide) (by decide) (by decide)) : dFk [2, 12, 13] [22, 23, 24, 25, 55] q_51 q_156).tr i_165 (by decide) (by decide) (by decide)) : dFk [2, 12, 13] [22, 23, 24, 25, 55] q_51 q_162).tr i_261 (by decide) (by decide) (by decide)) : dFk [2, 12, 13] [22, 23, 24, 25, 55] q_51 q_258).t i_359 (by decide) (by decide)) : dFk [2, 12, 13] [22, 23, 24, 25, 55] q_51 q_356).k (by omega) (by decide)) : dFk [2, 12, 13] [22, 23, 24, 25, 55] q_51 q_401).t i_409 (by decide) (by decide)), rfl, rfl, by omega, by omega⟩) (show (60 - Int32.toInt (x4_60 + 1)).toNat < (60 - Int32.toInt x4_60).toNat by omega)
                  · unfold zX10_years_166
                    refine dOk_B (ok_yearPasses q_356 i_358 (show Int32.toInt (q_356.1 2 13) < 999 by omega)) (fun r_417 q_418 h_419 => ?_)
                    replace h_419 : (TS q_418) ∧ (dFk [2, 12, 13] [22, 23, 24, 25] q_356 q_418) ∧ (0 ≤ Int32.toInt r_417) ∧ (Int32.toInt (q_418.1 2 29) = Int32.toInt (q_356.1 2 29)) := h_419
                    obtain ⟨i_420, i_421, i_422, i_423⟩ := h_419
                    have hFq_418 : dFk [1, 2, 5, 12, 13, 27] [0, 22, 23, 24, 25, 54, 55] q q_418 := hFq_356.t i_421 (by decide) (by decide)
                    have f_424 : 0 ≤ Int32.toInt (q_418.1 2 29) ∧ Int32.toInt (q_418.1 2 29) ≤ 6 := i_420.1 2 29
                    have w_425 : Int32.toInt (q_418.1 2 29) = Int32.toInt (q_356.1 2 29) := by rw [i_421.2 29 (by decide)]
                    try have t_426 : Int32.toInt (x4_60 + 1) = Int32.toInt x4_60 + 1 := ti_add rfl (by decide) (by omega) (by omega)
                    exact hk_55 (q_418, p2, (q_51.1 2 12), (x4_60 + 1)) (show (TS q_418) ∧ (dFk [2, 12, 13] [22, 23, 24, 25, 55] q_51 q_418) ∧ (p2 = p2) ∧ ((q_51.1 2 12) = (q_51.1 2 12)) ∧ (0 ≤ Int32.toInt (x4_60 + 1)) ∧ (Int32.toInt (x4_60 + 1) ≤ 60) from ⟨i_420, ((((((((((((dFk.rf : dFk [2, 12, 13] [22, 23, 24, 25, 55] q_51 q_51).t a_62 (by decide) (by decide)) : dFk [2, 12, 13] [22, 23, 24, 25, 55] q_51 q_57).tr i_159 (by decide) (by decide) (by decide)) : dFk [2, 12, 13] [22, 23, 24, 25, 55] q_51 q_156).tr i_165 (by decide) (by decide) (by decide)) : dFk [2, 12, 13] [22, 23, 24, 25, 55] q_51 q_162).tr i_261 (by decide) (by decide) (by decide)) : dFk [2, 12, 13] [22, 23, 24, 25, 55] q_51 q_258).t i_359 (by decide) (by decide)) : dFk [2, 12, 13] [22, 23, 24, 25, 55] q_51 q_356).t i_421 (by decide) (by decide)), rfl, rfl, by omega, by omega⟩) (show (60 - Int32.toInt (x4_60 + 1)).toNat < (60 - Int32.toInt x4_60).toNat by omega)
        · have f_427 : 0 ≤ Int32.toInt (q_51.1 2 12) ∧ Int32.toInt (q_51.1 2 12) ≤ 9999 := i_53.1 2 12
          have f_428 : 0 ≤ Int32.toInt (q_50.1 2 12) ∧ Int32.toInt (q_50.1 2 12) ≤ 9999 := hTq_50.1 2 12
          have f_429 : 0 ≤ Int32.toInt (q_41.1 2 12) ∧ Int32.toInt (q_41.1 2 12) ≤ 9999 := hTq_41.1 2 12
          have f_430 : 0 ≤ Int32.toInt (q.1 2 12) ∧ Int32.toInt (q.1 2 12) ≤ 9999 := hT.1 2 12
          have w_431 : Int32.toInt (q_41.1 2 12) = Int32.toInt (q.1 2 12) := by rw [eq_41, dui_o (by decide)]
          have w_432 : Int32.toInt (q_50.1 2 12) = Int32.toInt (q_41.1 2 12) := by rw [eq_50, dui_o (by decide)]
          have w_433 : Int32.toInt (q_51.1 2 12) = Int32.toInt (q_50.1 2 12) := by rw [i_54.1 2 (by decide) (by decide)]
          exact (show (TS q_51) ∧ (dFk [2, 12, 13] [22, 23, 24, 25, 55] q_51 q_51) ∧ (p2 = p2) ∧ ((q_51.1 2 12) = (q_51.1 2 12)) ∧ (0 ≤ (0 : Int)) ∧ ((0 : Int) ≤ 60) from ⟨i_53, dFk.rf, rfl, rfl, by omega, by omega⟩)
        · have f_434 : 0 ≤ Int32.toInt (q_51.1 2 12) ∧ Int32.toInt (q_51.1 2 12) ≤ 9999 := i_53.1 2 12
          have f_435 : 0 ≤ Int32.toInt (q_50.1 2 12) ∧ Int32.toInt (q_50.1 2 12) ≤ 9999 := hTq_50.1 2 12
          have f_436 : 0 ≤ Int32.toInt (q_41.1 2 12) ∧ Int32.toInt (q_41.1 2 12) ≤ 9999 := hTq_41.1 2 12
          have f_437 : 0 ≤ Int32.toInt (q.1 2 12) ∧ Int32.toInt (q.1 2 12) ≤ 9999 := hT.1 2 12
          have w_438 : Int32.toInt (q_41.1 2 12) = Int32.toInt (q.1 2 12) := by rw [eq_41, dui_o (by decide)]
          have w_439 : Int32.toInt (q_50.1 2 12) = Int32.toInt (q_41.1 2 12) := by rw [eq_50, dui_o (by decide)]
          have w_440 : Int32.toInt (q_51.1 2 12) = Int32.toInt (q_50.1 2 12) := by rw [i_54.1 2 (by decide) (by decide)]
          show (60 - (0 : Int)).toNat < 1000000000000
          omega
