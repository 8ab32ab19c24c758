section
set_option maxHeartbeats 4000000 in
set_option maxRecDepth 100000 in
theorem ok_X9_years_s0 (q : dK) (p1 : Int32) (p2 : Int32) (hT : TC q) : dOk (zX9_years_s0 q p1 p2) (fun (o : Int32 × dK) => (TC o.2) ∧ (cFr [16, 17, 19, 21, 48] [(0, 18), (15, 2), (15, 3), (15, 4), (18, 1), (20, 2)] q o.2)) := by
  unfold zX9_years_s0
  refine dOk_lt (A := Int32.toInt p1) (B := 0) rfl (by decide) (fun c_1 => ?_) (fun c_2 => ?_)
  · unfold zX9_years_s0_22
    refine dOk_B (ok_X9_refuse_s0 q (-1) hT) (fun r_3 q_4 h_5 => ?_)
    replace h_5 : (TC q_4) ∧ (cFr [48] [(0, 18)] q q_4) ∧ (Int32.toInt r_3 = (-1 : Int)) := h_5
    obtain ⟨i_6, i_7, i_8⟩ := h_5
    have hFq_4 : cFr [16, 17, 19, 21, 48] [(0, 18), (15, 2), (15, 3), (15, 4), (18, 1), (20, 2)] q q_4 := (cFr.rf (q := q)).t i_7 (by decide) (by decide)
    exact dOk_some (show (TC q_4) ∧ (cFr [16, 17, 19, 21, 48] [(0, 18), (15, 2), (15, 3), (15, 4), (18, 1), (20, 2)] q q_4) from ⟨i_6, hFq_4⟩)
  · refine dOk_lt (A := 1000000) (B := Int32.toInt p1) (by decide) rfl (fun c_9 => ?_) (fun c_10 => ?_)
    · unfold zX9_years_s0_22
      refine dOk_B (ok_X9_refuse_s0 q (-1) hT) (fun r_11 q_12 h_13 => ?_)
      replace h_13 : (TC q_12) ∧ (cFr [48] [(0, 18)] q q_12) ∧ (Int32.toInt r_11 = (-1 : Int)) := h_13
      obtain ⟨i_14, i_15, i_16⟩ := h_13
      have hFq_12 : cFr [16, 17, 19, 21, 48] [(0, 18), (15, 2), (15, 3), (15, 4), (18, 1), (20, 2)] q q_12 := (cFr.rf (q := q)).t i_15 (by decide) (by decide)
      exact dOk_some (show (TC q_12) ∧ (cFr [16, 17, 19, 21, 48] [(0, 18), (15, 2), (15, 3), (15, 4), (18, 1), (20, 2)] q q_12) from ⟨i_14, hFq_12⟩)
    · refine dOk_lt (A := Int32.toInt p2) (B := 1) rfl (by decide) (fun c_17 => ?_) (fun c_18 => ?_)
      · unfold zX9_years_s0_22
        refine dOk_B (ok_X9_refuse_s0 q (-1) hT) (fun r_19 q_20 h_21 => ?_)
        replace h_21 : (TC q_20) ∧ (cFr [48] [(0, 18)] q q_20) ∧ (Int32.toInt r_19 = (-1 : Int)) := h_21
        obtain ⟨i_22, i_23, i_24⟩ := h_21
        have hFq_20 : cFr [16, 17, 19, 21, 48] [(0, 18), (15, 2), (15, 3), (15, 4), (18, 1), (20, 2)] q q_20 := (cFr.rf (q := q)).t i_23 (by decide) (by decide)
        exact dOk_some (show (TC q_20) ∧ (cFr [16, 17, 19, 21, 48] [(0, 18), (15, 2), (15, 3), (15, 4), (18, 1), (20, 2)] q q_20) from ⟨i_22, hFq_20⟩)
      · refine dOk_le (A := Int32.toInt p2) (B := 60) rfl (by decide) (fun c_25 => ?_) (fun c_26 => ?_)
        · have f_27 : 0 ≤ Int32.toInt (q.1 2 2) ∧ Int32.toInt (q.1 2 2) ≤ 6 := rg_2_2 hT
          refine dOk_eq (A := Int32.toInt (q.1 2 2)) (B := 0) rfl (by decide) (fun c_28z c_28 => ?_) (fun c_29z c_29 => ?_)
          · refine dOk_B (ok_X9_refuse_s0 q (-3) hT) (fun r_31 q_32 h_33 => ?_)
            replace h_33 : (TC q_32) ∧ (cFr [48] [(0, 18)] q q_32) ∧ (Int32.toInt r_31 = (-3 : Int)) := h_33
            obtain ⟨i_34, i_35, i_36⟩ := h_33
            have hFq_32 : cFr [16, 17, 19, 21, 48] [(0, 18), (15, 2), (15, 3), (15, 4), (18, 1), (20, 2)] q q_32 := (cFr.rf (q := q)).t i_35 (by decide) (by decide)
            exact dOk_some (show (TC q_32) ∧ (cFr [16, 17, 19, 21, 48] [(0, 18), (15, 2), (15, 3), (15, 4), (18, 1), (20, 2)] q q_32) from ⟨i_34, hFq_32⟩)
          · refine dOk_B (ok_X8_pack_s2 q hT) (fun r_37 q_38 h_39 => ?_)
            replace h_39 : (q_38 = q) ∧ (0 ≤ Int64.toInt r_37) := h_39
            obtain ⟨i_40, i_41⟩ := h_39
            subst q_38
            refine dOk_V (ok_X8_unpack_s15 q (r_37) hT (show 0 ≤ Int64.toInt (r_37) by omega)) (fun q_42 h_43 => ?_)
            replace h_43 : (TC q_42) ∧ (cFr [16, 17] [(15, 2), (15, 3), (15, 4)] q q_42) := h_43
            obtain ⟨i_44, i_45⟩ := h_43
            have hFq_42 : cFr [16, 17, 19, 21, 48] [(0, 18), (15, 2), (15, 3), (15, 4), (18, 1), (20, 2)] q q_42 := (cFr.rf (q := q)).t i_45 (by decide) (by decide)
            refine dOk_V (ok_X9_seated_s0 q_42 i_44) (fun q_46 h_47 => ?_)
            replace h_47 : (TC q_46) ∧ (cFr [21] [(20, 2)] q_42 q_46) := h_47
            obtain ⟨i_48, i_49⟩ := h_47
            have hFq_46 : cFr [16, 17, 19, 21, 48] [(0, 18), (15, 2), (15, 3), (15, 4), (18, 1), (20, 2)] q q_46 := hFq_42.t i_49 (by decide) (by decide)
            unfold zX9_years_s0_75
            refine dFix_ok (fun (a : dK × Int32 × Int32 × Int32) => (TC a.1) ∧ (cFr [16, 17, 19, 21] [(15, 3), (15, 4), (18, 1)] q_46 a.1) ∧ (a.2.1 = p2) ∧ (0 ≤ Int32.toInt a.2.2.2) ∧ (Int32.toInt a.2.2.2 ≤ 60) ∧ (0 ≤ Int32.toInt a.2.2.1 ∧ Int32.toInt a.2.2.1 ≤ 1000002)) (fun (a : dK × Int32 × Int32 × Int32) => (60 - Int32.toInt a.2.2.2).toNat) ?_ _ ?_ _ (dF_gt ?_)
            · intro a ha k_51 hk_50
              obtain ⟨q_52, x2_53, x3_54, x4_55⟩ := a
              replace ha : (TC q_52) ∧ (cFr [16, 17, 19, 21] [(15, 3), (15, 4), (18, 1)] q_46 q_52) ∧ (x2_53 = p2) ∧ (0 ≤ Int32.toInt x4_55) ∧ (Int32.toInt x4_55 ≤ 60) ∧ (0 ≤ Int32.toInt x3_54 ∧ Int32.toInt x3_54 ≤ 1000002) := ha
              obtain ⟨a_56, a_57, a_58, a_59, a_60, a_61⟩ := ha
              show dOk (zX9_years_s0_75b  (fun q x2 x3 x4 => k_51 (q, x2, x3, x4)) q_52 x2_53 x3_54 x4_55) _
              unfold zX9_years_s0_75b
              have hFq_52 : cFr [16, 17, 19, 21, 48] [(0, 18), (15, 2), (15, 3), (15, 4), (18, 1), (20, 2)] q q_52 := hFq_46.t a_57 (by decide) (by decide)
              subst x2_53
              refine dOk_le (A := Int32.toInt p2) (B := Int32.toInt x4_55) rfl rfl (fun c_62 => ?_) (fun c_63 => ?_)
              · unfold zX9_years_s0_172
                have f_64 : 0 ≤ Int32.toInt (q_52.1 15 3) ∧ Int32.toInt (q_52.1 15 3) ≤ 16383 := rg_15_3 a_56
                have f_65 : 0 ≤ Int32.toInt (q_52.1 2 3) ∧ Int32.toInt (q_52.1 2 3) ≤ 16383 := rg_2_3 a_56
                have f_66 : 0 ≤ Int32.toInt (q_46.1 2 3) ∧ Int32.toInt (q_46.1 2 3) ≤ 16383 := rg_2_3 i_48
                have f_67 : 0 ≤ Int32.toInt (q_42.1 2 3) ∧ Int32.toInt (q_42.1 2 3) ≤ 16383 := rg_2_3 i_44
                have f_68 : 0 ≤ Int32.toInt (q.1 2 3) ∧ Int32.toInt (q.1 2 3) ≤ 16383 := rg_2_3 hT
                have w_69 : Int32.toInt (q_42.1 2 3) = Int32.toInt (q.1 2 3) := by rw [i_45.1 2 3 (by decide) (by decide)]
                have w_70 : Int32.toInt (q_46.1 2 3) = Int32.toInt (q_42.1 2 3) := by rw [i_49.1 2 3 (by decide) (by decide)]
                have w_71 : Int32.toInt (q_52.1 2 3) = Int32.toInt (q_46.1 2 3) := by rw [a_57.1 2 3 (by decide) (by decide)]
                try have t_72 : Int32.toInt (q_52.1 15 3 - q_52.1 2 3) = Int32.toInt (q_52.1 15 3) - Int32.toInt (q_52.1 2 3) := ti_sub rfl rfl (by omega) (by omega)
                refine dOk_B (ok_X9_accept_s0 q_52 (q_52.1 15 3 - q_52.1 2 3) a_56) (fun r_73 q_74 h_75 => ?_)
                replace h_75 : (TC q_74) ∧ (cFr [] [(0, 18)] q_52 q_74) ∧ (Int32.toInt r_73 = Int32.toInt (q_52.1 15 3 - q_52.1 2 3)) := h_75
                obtain ⟨i_76, i_77, i_78⟩ := h_75
                have hFq_74 : cFr [16, 17, 19, 21, 48] [(0, 18), (15, 2), (15, 3), (15, 4), (18, 1), (20, 2)] q q_74 := hFq_52.t i_77 (by decide) (by decide)
                exact dOk_some (show (TC q_74) ∧ (cFr [16, 17, 19, 21, 48] [(0, 18), (15, 2), (15, 3), (15, 4), (18, 1), (20, 2)] q q_74) from ⟨i_76, hFq_74⟩)
              · have f_79 : 0 ≤ Int32.toInt (q_52.1 15 4) ∧ Int32.toInt (q_52.1 15 4) ≤ 1023 := rg_15_4 a_56
                refine dOk_le (A := 999) (B := Int32.toInt (q_52.1 15 4)) (by decide) rfl (fun c_80 => ?_) (fun c_81 => ?_)
                · unfold zX9_years_s0_172
                  have f_82 : 0 ≤ Int32.toInt (q_52.1 15 3) ∧ Int32.toInt (q_52.1 15 3) ≤ 16383 := rg_15_3 a_56
                  have f_83 : 0 ≤ Int32.toInt (q_52.1 2 3) ∧ Int32.toInt (q_52.1 2 3) ≤ 16383 := rg_2_3 a_56
                  have f_84 : 0 ≤ Int32.toInt (q_46.1 2 3) ∧ Int32.toInt (q_46.1 2 3) ≤ 16383 := rg_2_3 i_48
                  have f_85 : 0 ≤ Int32.toInt (q_42.1 2 3) ∧ Int32.toInt (q_42.1 2 3) ≤ 16383 := rg_2_3 i_44
                  have f_86 : 0 ≤ Int32.toInt (q.1 2 3) ∧ Int32.toInt (q.1 2 3) ≤ 16383 := rg_2_3 hT
                  have w_87 : Int32.toInt (q_42.1 2 3) = Int32.toInt (q.1 2 3) := by rw [i_45.1 2 3 (by decide) (by decide)]
                  have w_88 : Int32.toInt (q_46.1 2 3) = Int32.toInt (q_42.1 2 3) := by rw [i_49.1 2 3 (by decide) (by decide)]
                  have w_89 : Int32.toInt (q_52.1 2 3) = Int32.toInt (q_46.1 2 3) := by rw [a_57.1 2 3 (by decide) (by decide)]
                  try have t_90 : Int32.toInt (q_52.1 15 3 - q_52.1 2 3) = Int32.toInt (q_52.1 15 3) - Int32.toInt (q_52.1 2 3) := ti_sub rfl rfl (by omega) (by omega)
                  refine dOk_B (ok_X9_accept_s0 q_52 (q_52.1 15 3 - q_52.1 2 3) a_56) (fun r_91 q_92 h_93 => ?_)
                  replace h_93 : (TC q_92) ∧ (cFr [] [(0, 18)] q_52 q_92) ∧ (Int32.toInt r_91 = Int32.toInt (q_52.1 15 3 - q_52.1 2 3)) := h_93
                  obtain ⟨i_94, i_95, i_96⟩ := h_93
                  have hFq_92 : cFr [16, 17, 19, 21, 48] [(0, 18), (15, 2), (15, 3), (15, 4), (18, 1), (20, 2)] q q_92 := hFq_52.t i_95 (by decide) (by decide)
                  exact dOk_some (show (TC q_92) ∧ (cFr [16, 17, 19, 21, 48] [(0, 18), (15, 2), (15, 3), (15, 4), (18, 1), (20, 2)] q q_92) from ⟨i_94, hFq_92⟩)
                · refine dOk_V (ok_X9_nextDraw x3_54 (show 0 ≤ Int32.toInt x3_54 by omega) (show Int32.toInt x3_54 ≤ 1000002 by omega)) (fun r_97 h_98 => ?_)
                  replace h_98 : (0 ≤ Int32.toInt r_97 ∧ Int32.toInt r_97 ≤ 1000002) := h_98
                  have i_99 := h_98
                  refine dOk_V (ok_X9_nextDraw r_97 (show 0 ≤ Int32.toInt r_97 by omega) (show Int32.toInt r_97 ≤ 1000002 by omega)) (fun r_100 h_101 => ?_)
                  replace h_101 : (0 ≤ Int32.toInt r_100 ∧ Int32.toInt r_100 ≤ 1000002) := h_101
                  have i_102 := h_101
                  try have t_103 : Int32.toInt (r_100 - r_100 / 3 * 3) = Int32.toInt r_100 % 3 := ti_rem rfl (by decide) (by omega) (by omega)
                  refine dOk_eq (A := Int32.toInt (r_100 - r_100 / 3 * 3)) (B := 2) rfl (by decide) (fun c_104z c_104 => ?_) (fun c_105z c_105 => ?_)
                  · try have t_107 : Int32.toInt (r_97 - r_97 / 6 * 6) = Int32.toInt r_97 % 6 := ti_rem rfl (by decide) (by omega) (by omega)
                    refine dOk_B (ok_X8_act_s15_s20 q_52 1 (r_97 - r_97 / 6 * 6) a_56) (fun r_108 q_109 h_110 => ?_)
                    replace h_110 : (TC q_109) ∧ (cFr [16, 17, 19, 21] [(15, 3), (15, 4), (18, 1)] q_52 q_109) ∧ (-3 ≤ Int32.toInt r_108 ∧ Int32.toInt r_108 ≤ 99) := h_110
                    obtain ⟨i_111, i_112, i_113⟩ := h_110
                    have hFq_109 : cFr [16, 17, 19, 21, 48] [(0, 18), (15, 2), (15, 3), (15, 4), (18, 1), (20, 2)] q q_109 := hFq_52.t i_112 (by decide) (by decide)
                    unfold zX9_years_s0_152
                    refine dOk_B (ok_X8_act_s15_s20 q_109 3 0 i_111) (fun r_114 q_115 h_116 => ?_)
                    replace h_116 : (TC q_115) ∧ (cFr [16, 17, 19, 21] [(15, 3), (15, 4), (18, 1)] q_109 q_115) ∧ (-3 ≤ Int32.toInt r_114 ∧ Int32.toInt r_114 ≤ 99) := h_116
                    obtain ⟨i_117, i_118, i_119⟩ := h_116
                    have hFq_115 : cFr [16, 17, 19, 21, 48] [(0, 18), (15, 2), (15, 3), (15, 4), (18, 1), (20, 2)] q q_115 := hFq_109.t i_118 (by decide) (by decide)
                    try have t_120 : Int32.toInt (x4_55 + 1) = Int32.toInt x4_55 + 1 := ti_add rfl (by decide) (by omega) (by omega)
                    exact hk_50 (q_115, p2, r_100, (x4_55 + 1)) (show (TC q_115) ∧ (cFr [16, 17, 19, 21] [(15, 3), (15, 4), (18, 1)] q_46 q_115) ∧ (p2 = p2) ∧ (0 ≤ Int32.toInt (x4_55 + 1)) ∧ (Int32.toInt (x4_55 + 1) ≤ 60) ∧ (0 ≤ Int32.toInt r_100 ∧ Int32.toInt r_100 ≤ 1000002) from ⟨i_117, ((((((cFr.rf : cFr [16, 17, 19, 21] [(15, 3), (15, 4), (18, 1)] q_46 q_46).t a_57 (by decide) (by decide)) : cFr [16, 17, 19, 21] [(15, 3), (15, 4), (18, 1)] q_46 q_52).t i_112 (by decide) (by decide)) : cFr [16, 17, 19, 21] [(15, 3), (15, 4), (18, 1)] q_46 q_109).t i_118 (by decide) (by decide)), rfl, by omega, by omega, by omega⟩) (show (60 - Int32.toInt (x4_55 + 1)).toNat < (60 - Int32.toInt x4_55).toNat by omega)
                  · try have t_121 : Int32.toInt (r_97 - r_97 / 6 * 6) = Int32.toInt r_97 % 6 := ti_rem rfl (by decide) (by omega) (by omega)
                    try have t_122 : Int32.toInt (r_97 - r_97 / 6 * 6 + 1) = Int32.toInt (r_97 - r_97 / 6 * 6) + 1 := ti_add rfl (by decide) (by omega) (by omega)
                    refine dOk_B (ok_X8_act_s15_s20 q_52 0 (r_97 - r_97 / 6 * 6 + 1) a_56) (fun r_123 q_124 h_125 => ?_)
                    replace h_125 : (TC q_124) ∧ (cFr [16, 17, 19, 21] [(15, 3), (15, 4), (18, 1)] q_52 q_124) ∧ (-3 ≤ Int32.toInt r_123 ∧ Int32.toInt r_123 ≤ 99) := h_125
                    obtain ⟨i_126, i_127, i_128⟩ := h_125
                    have hFq_124 : cFr [16, 17, 19, 21, 48] [(0, 18), (15, 2), (15, 3), (15, 4), (18, 1), (20, 2)] q q_124 := hFq_52.t i_127 (by decide) (by decide)
                    unfold zX9_years_s0_152
                    refine dOk_B (ok_X8_act_s15_s20 q_124 3 0 i_126) (fun r_129 q_130 h_131 => ?_)
                    replace h_131 : (TC q_130) ∧ (cFr [16, 17, 19, 21] [(15, 3), (15, 4), (18, 1)] q_124 q_130) ∧ (-3 ≤ Int32.toInt r_129 ∧ Int32.toInt r_129 ≤ 99) := h_131
                    obtain ⟨i_132, i_133, i_134⟩ := h_131
                    have hFq_130 : cFr [16, 17, 19, 21, 48] [(0, 18), (15, 2), (15, 3), (15, 4), (18, 1), (20, 2)] q q_130 := hFq_124.t i_133 (by decide) (by decide)
                    try have t_135 : Int32.toInt (x4_55 + 1) = Int32.toInt x4_55 + 1 := ti_add rfl (by decide) (by omega) (by omega)
                    exact hk_50 (q_130, p2, r_100, (x4_55 + 1)) (show (TC q_130) ∧ (cFr [16, 17, 19, 21] [(15, 3), (15, 4), (18, 1)] q_46 q_130) ∧ (p2 = p2) ∧ (0 ≤ Int32.toInt (x4_55 + 1)) ∧ (Int32.toInt (x4_55 + 1) ≤ 60) ∧ (0 ≤ Int32.toInt r_100 ∧ Int32.toInt r_100 ≤ 1000002) from ⟨i_132, ((((((cFr.rf : cFr [16, 17, 19, 21] [(15, 3), (15, 4), (18, 1)] q_46 q_46).t a_57 (by decide) (by decide)) : cFr [16, 17, 19, 21] [(15, 3), (15, 4), (18, 1)] q_46 q_52).t i_127 (by decide) (by decide)) : cFr [16, 17, 19, 21] [(15, 3), (15, 4), (18, 1)] q_46 q_124).t i_133 (by decide) (by decide)), rfl, by omega, by omega, by omega⟩) (show (60 - Int32.toInt (x4_55 + 1)).toNat < (60 - Int32.toInt x4_55).toNat by omega)
            · exact (show (TC q_46) ∧ (cFr [16, 17, 19, 21] [(15, 3), (15, 4), (18, 1)] q_46 q_46) ∧ (p2 = p2) ∧ (0 ≤ (0 : Int)) ∧ ((0 : Int) ≤ 60) ∧ (0 ≤ Int32.toInt p1 ∧ Int32.toInt p1 ≤ 1000002) from ⟨i_48, cFr.rf, rfl, by omega, by omega, by omega⟩)
            · show (60 - (0 : Int)).toNat < 1000000000000
              omega
        · unfold zX9_years_s0_22
          refine dOk_B (ok_X9_refuse_s0 q (-1) hT) (fun r_136 q_137 h_138 => ?_)
          replace h_138 : (TC q_137) ∧ (cFr [48] [(0, 18)] q q_137) ∧ (Int32.toInt r_136 = (-1 : Int)) := h_138
          obtain ⟨i_139, i_140, i_141⟩ := h_138
          have hFq_137 : cFr [16, 17, 19, 21, 48] [(0, 18), (15, 2), (15, 3), (15, 4), (18, 1), (20, 2)] q q_137 := (cFr.rf (q := q)).t i_140 (by decide) (by decide)
          exact dOk_some (show (TC q_137) ∧ (cFr [16, 17, 19, 21, 48] [(0, 18), (15, 2), (15, 3), (15, 4), (18, 1), (20, 2)] q q_137) from ⟨i_139, hFq_137⟩)

set_option maxHeartbeats 4000000 in
set_option maxRecDepth 100000 in
theorem ok_X4_fail_s24 (q : dK) (hT : TC q) : dOk (zX4_fail_s24 q) (fun (o : dK) => (TC o) ∧ (cFr [] [(24, 10)] q o)) := by
  unfold zX4_fail_s24
  refine dOk_eq (A := Int32.toInt (q.1 24 10)) (B := (-1)) rfl (by decide) (fun c_1z c_1 => ?_) (fun c_2z c_2 => ?_)
  · refine dOk_L (fun q_4 eq_4 => ?_)
    have f_5 : 0 ≤ Int32.toInt (q.1 24 5) ∧ Int32.toInt (q.1 24 5) ≤ 400 := rg_24_5 hT
    have hTq_4 : TC q_4 := by rw [eq_4]; exact sa_24_10 hT
    have hFq_4 : cFr [] [(24, 10)] q q_4 := by rw [eq_4]; exact (cFr.rf (q := q)).f (by decide)
    unfold zX4_fail_s24_16
    exact dOk_some (show (TC q_4) ∧ (cFr [] [(24, 10)] q q_4) from ⟨hTq_4, hFq_4⟩)
  · unfold zX4_fail_s24_16
    exact dOk_some (show (TC q) ∧ (cFr [] [(24, 10)] q q) from ⟨hT, (cFr.rf (q := q))⟩)

set_option maxHeartbeats 4000000 in
set_option maxRecDepth 100000 in
theorem ok_X4_isSign_s24 (q : dK) (p1 : Int32) (hT : TC q) (hp0 : ¬ Int32.toInt (q.1 24 0) = 0) : dOk (zX4_isSign_s24 q p1) (fun (o : Int32 × dK) => (o.2 = q) ∧ ((Int32.toInt o.1 = 0 ∨ Int32.toInt o.1 = 1))) := by
  unfold zX4_isSign_s24
  refine dOk_eq (A := Int32.toInt (q.1 24 4)) (B := 3) rfl (by decide) (fun c_1z c_1 => ?_) (fun c_2z c_2 => ?_)
  · have f_4 : 0 ≤ Int32.toInt (q.1 24 1) ∧ Int32.toInt (q.1 24 1) ≤ 400 := rg_24_1 hT
    have f_5 : 0 ≤ Int32.toInt (q.1 24 5) ∧ Int32.toInt (q.1 24 5) ≤ 400 := rg_24_5 hT
    refine dOk_le (A := Int32.toInt (q.1 24 1)) (B := Int32.toInt (q.1 24 5)) rfl rfl (fun c_6 => ?_) (fun c_7 => ?_)
    · unfold zX4_isSign_s24_36
      unfold zX4_isSign_s24_37
      refine dOk_G (dbl_ok (show (0 : Int) = 0 ∨ (0 : Int) = 1 by omega)) ?_
      exact dOk_some (show (q = q) ∧ (((0 : Int) = 0 ∨ (0 : Int) = 1)) from ⟨rfl, by omega⟩)
    · have f_8 : 0 ≤ Int32.toInt (q.1 24 0) ∧ Int32.toInt (q.1 24 0) ≤ 1 := rg_24_0 hT
      refine dOk_G (dnz_ok (show ¬ Int32.toInt (q.1 24 0) = 0 by omega)) ?_
      refine dOk_G (dg_ok (show 0 ≤ Int32.toInt (q.1 24 5) by omega) (show Int32.toInt (q.1 24 5) < ((400 : Nat) : Int) by omega)) ?_
      have n_9 : ((Int32.toNatClampNeg (q.1 24 5) : Nat) : Int) = Int32.toInt (q.1 24 5) := cl_eq (by omega)
      refine dOk_L (fun v_10 ev_10 => ?_)
      refine dOk_eq (A := Int32.toInt v_10) (B := Int32.toInt p1) rfl rfl (fun c_11z c_11 => ?_) (fun c_12z c_12 => ?_)
      · unfold zX4_isSign_s24_37
        refine dOk_G (dbl_ok (show (1 : Int) = 0 ∨ (1 : Int) = 1 by omega)) ?_
        exact dOk_some (show (q = q) ∧ (((1 : Int) = 0 ∨ (1 : Int) = 1)) from ⟨rfl, by omega⟩)
      · unfold zX4_isSign_s24_36
        unfold zX4_isSign_s24_37
        refine dOk_G (dbl_ok (show (0 : Int) = 0 ∨ (0 : Int) = 1 by omega)) ?_
        exact dOk_some (show (q = q) ∧ (((0 : Int) = 0 ∨ (0 : Int) = 1)) from ⟨rfl, by omega⟩)
  · unfold zX4_isSign_s24_36
    unfold zX4_isSign_s24_37
    refine dOk_G (dbl_ok (show (0 : Int) = 0 ∨ (0 : Int) = 1 by omega)) ?_
    exact dOk_some (show (q = q) ∧ (((0 : Int) = 0 ∨ (0 : Int) = 1)) from ⟨rfl, by omega⟩)

set_option maxHeartbeats 4000000 in
set_option maxRecDepth 100000 in
theorem ok_X4_expectSign_s24 (q : dK) (p1 : Int32) (hT : TC q) (hp0 : ¬ Int32.toInt (q.1 24 0) = 0) : dOk (zX4_expectSign_s24 q p1) (fun (o : dK) => (TC o) ∧ (cFr [] [(24, 4), (24, 5), (24, 6), (24, 7), (24, 10)] q o)) := by
  unfold zX4_expectSign_s24
  have f_1 : 0 ≤ Int32.toInt (q.1 24 0) ∧ Int32.toInt (q.1 24 0) ≤ 1 := rg_24_0 hT
  refine dOk_B (ok_X4_isSign_s24 q p1 hT (show ¬ Int32.toInt (q.1 24 0) = 0 by omega)) (fun r_2 q_3 h_4 => ?_)
  replace h_4 : (q_3 = q) ∧ ((Int32.toInt r_2 = 0 ∨ Int32.toInt r_2 = 1)) := h_4
  obtain ⟨i_5, i_6⟩ := h_4
  subst q_3
  refine dOk_eq (A := Int32.toInt r_2) (B := 0) rfl (by decide) (fun c_7z c_7 => ?_) (fun c_8z c_8 => ?_)
  · refine dOk_V (ok_X4_fail_s24 q hT) (fun q_10 h_11 => ?_)
    replace h_11 : (TC q_10) ∧ (cFr [] [(24, 10)] q q_10) := h_11
    obtain ⟨i_12, i_13⟩ := h_11
    have hFq_10 : cFr [] [(24, 4), (24, 5), (24, 6), (24, 7), (24, 10)] q q_10 := (cFr.rf (q := q)).t i_13 (by decide) (by decide)
    unfold zX4_expectSign_s24_19
    exact dOk_some (show (TC q_10) ∧ (cFr [] [(24, 4), (24, 5), (24, 6), (24, 7), (24, 10)] q q_10) from ⟨i_12, hFq_10⟩)
  · refine dOk_V (ok_X4_step_s24 q hT (show ¬ Int32.toInt (q.1 24 0) = 0 by omega)) (fun q_14 h_15 => ?_)
    replace h_15 : (TC q_14) ∧ (cFr [] [(24, 4), (24, 5), (24, 6), (24, 7)] q q_14) := h_15
    obtain ⟨i_16, i_17⟩ := h_15
    have hFq_14 : cFr [] [(24, 4), (24, 5), (24, 6), (24, 7), (24, 10)] q q_14 := (cFr.rf (q := q)).t i_17 (by decide) (by decide)
    unfold zX4_expectSign_s24_19
    exact dOk_some (show (TC q_14) ∧ (cFr [] [(24, 4), (24, 5), (24, 6), (24, 7), (24, 10)] q q_14) from ⟨i_16, hFq_14⟩)

set_option maxHeartbeats 4000000 in
set_option maxRecDepth 100000 in
theorem ok_X4_openBracket_s24 (q : dK) (hT : TC q) (hp0 : ¬ Int32.toInt (q.1 24 0) = 0) : dOk (zX4_openBracket_s24 q) (fun (o : Int32 × dK) => (TC o.2) ∧ (cFr [] [(24, 4), (24, 5), (24, 6), (24, 7), (24, 9), (24, 10)] q o.2) ∧ ((Int32.toInt o.1 = 1 ∧ Int32.toInt (o.2.1 24 9) = Int32.toInt (q.1 24 9) + 1 ∧ Int32.toInt (q.1 24 9) ≤ 7) ∨ (Int32.toInt o.1 = 0 ∧ Int32.toInt (o.2.1 24 9) = Int32.toInt (q.1 24 9)))) := by
  unfold zX4_openBracket_s24
  have f_1 : 0 ≤ Int32.toInt (q.1 24 9) ∧ Int32.toInt (q.1 24 9) ≤ 8 := rg_24_9 hT
  refine dOk_lt (A := Int32.toInt (q.1 24 9)) (B := 8) rfl (by decide) (fun c_2 => ?_) (fun c_3 => ?_)
  · refine dOk_L (fun q_4 eq_4 => ?_)
    try have t_5 : Int32.toInt (q.1 24 9 + 1) = Int32.toInt (q.1 24 9) + 1 := ti_add rfl (by decide) (by omega) (by omega)
    have hTq_4 : TC q_4 := by rw [eq_4]; exact st_24_9 hT (show (0 : Int) ≤ Int32.toInt (q.1 24 9 + 1) by omega) (show Int32.toInt (q.1 24 9 + 1) ≤ (8 : Int) by omega)
    have hFq_4 : cFr [] [(24, 4), (24, 5), (24, 6), (24, 7), (24, 9), (24, 10)] q q_4 := by rw [eq_4]; exact (cFr.rf (q := q)).f (by decide)
    have f_6 : 0 ≤ Int32.toInt (q_4.1 24 0) ∧ Int32.toInt (q_4.1 24 0) ≤ 1 := rg_24_0 hTq_4
    have f_7 : 0 ≤ Int32.toInt (q.1 24 0) ∧ Int32.toInt (q.1 24 0) ≤ 1 := rg_24_0 hT
    have w_8 : Int32.toInt (q_4.1 24 0) = Int32.toInt (q.1 24 0) := by rw [eq_4, cui_n (by decide)]
    refine dOk_V (ok_X4_step_s24 q_4 hTq_4 (show ¬ Int32.toInt (q_4.1 24 0) = 0 by omega)) (fun q_9 h_10 => ?_)
    replace h_10 : (TC q_9) ∧ (cFr [] [(24, 4), (24, 5), (24, 6), (24, 7)] q_4 q_9) := h_10
    obtain ⟨i_11, i_12⟩ := h_10
    have hFq_9 : cFr [] [(24, 4), (24, 5), (24, 6), (24, 7), (24, 9), (24, 10)] q q_9 := hFq_4.t i_12 (by decide) (by decide)
    have f_13 : 0 ≤ Int32.toInt (q_9.1 24 9) ∧ Int32.toInt (q_9.1 24 9) ≤ 8 := rg_24_9 i_11
    have f_14 : 0 ≤ Int32.toInt (q_4.1 24 9) ∧ Int32.toInt (q_4.1 24 9) ≤ 8 := rg_24_9 hTq_4
    have w_15 : Int32.toInt (q_4.1 24 9) = Int32.toInt (q.1 24 9 + 1) := by rw [eq_4, cui_e]
    have w_16 : Int32.toInt (q_9.1 24 9) = Int32.toInt (q_4.1 24 9) := by rw [i_12.1 24 9 (by decide) (by decide)]
    exact dOk_some (show (TC q_9) ∧ (cFr [] [(24, 4), (24, 5), (24, 6), (24, 7), (24, 9), (24, 10)] q q_9) ∧ (((1 : Int) = 1 ∧ Int32.toInt (q_9.1 24 9) = Int32.toInt (q.1 24 9) + 1 ∧ Int32.toInt (q.1 24 9) ≤ 7) ∨ ((1 : Int) = 0 ∧ Int32.toInt (q_9.1 24 9) = Int32.toInt (q.1 24 9))) from ⟨i_11, hFq_9, by omega⟩)
  · refine dOk_V (ok_X4_fail_s24 q hT) (fun q_17 h_18 => ?_)
    replace h_18 : (TC q_17) ∧ (cFr [] [(24, 10)] q q_17) := h_18
    obtain ⟨i_19, i_20⟩ := h_18
    have hFq_17 : cFr [] [(24, 4), (24, 5), (24, 6), (24, 7), (24, 9), (24, 10)] q q_17 := (cFr.rf (q := q)).t i_20 (by decide) (by decide)
    have f_21 : 0 ≤ Int32.toInt (q_17.1 24 9) ∧ Int32.toInt (q_17.1 24 9) ≤ 8 := rg_24_9 i_19
    have w_22 : Int32.toInt (q_17.1 24 9) = Int32.toInt (q.1 24 9) := by rw [i_20.1 24 9 (by decide) (by decide)]
    exact dOk_some (show (TC q_17) ∧ (cFr [] [(24, 4), (24, 5), (24, 6), (24, 7), (24, 9), (24, 10)] q q_17) ∧ (((0 : Int) = 1 ∧ Int32.toInt (q_17.1 24 9) = Int32.toInt (q.1 24 9) + 1 ∧ Int32.toInt (q.1 24 9) ≤ 7) ∨ ((0 : Int) = 0 ∧ Int32.toInt (q_17.1 24 9) = Int32.toInt (q.1 24 9))) from ⟨i_19, hFq_17, by omega⟩)

set_option maxHeartbeats 4000000 in
set_option maxRecDepth 100000 in
theorem ok_X4_isSame_s24_t0 (q : dK) (p2 : Int32) (p3 : Int32) (hT : TC q) (hp0 : ¬ Int32.toInt (q.1 24 0) = 0) (hp1 : 0 ≤ Int32.toInt p2) (hp2 : Int32.toInt p2 ≤ Int32.toInt p3) (hp3 : Int32.toInt p3 ≤ 21) : dOk (zX4_isSame_s24_t0 q p2 p3) (fun (o : Int32 × dK) => (o.2 = q) ∧ ((Int32.toInt o.1 = 0 ∨ Int32.toInt o.1 = 1))) := by
  unfold zX4_isSame_s24_t0
  try have t_1 : Int32.toInt (p3 - p2) = Int32.toInt p3 - Int32.toInt p2 := ti_sub rfl rfl (by omega) (by omega)
  have f_2 : 0 ≤ Int32.toInt (q.1 24 6) ∧ Int32.toInt (q.1 24 6) ≤ 400 := rg_24_6 hT
  have f_3 : 0 ≤ Int32.toInt (q.1 24 5) ∧ Int32.toInt (q.1 24 5) ≤ 400 := rg_24_5 hT
  try have t_4 : Int32.toInt (q.1 24 6 - q.1 24 5) = Int32.toInt (q.1 24 6) - Int32.toInt (q.1 24 5) := ti_sub rfl rfl (by omega) (by omega)
  refine dOk_eq (A := Int32.toInt (p3 - p2)) (B := Int32.toInt (q.1 24 6 - q.1 24 5)) rfl rfl (fun c_5z c_5 => ?_) (fun c_6z c_6 => ?_)
  · unfold zX4_isSame_s24_t0_20
    refine dFix_ok (fun (a : dK × Int32 × Int32 × Int32) => (a.1 = q) ∧ (a.2.1 = p2) ∧ (a.2.2.1 = p3) ∧ (Int32.toInt a.2.1 ≤ Int32.toInt a.2.2.2) ∧ (Int32.toInt a.2.2.2 ≤ 21)) (fun (a : dK × Int32 × Int32 × Int32) => (21 - Int32.toInt a.2.2.2).toNat) ?_ _ ?_ _ (dF_gt ?_)
    · intro a ha k_9 hk_8
      obtain ⟨q_10, x2_11, x3_12, x4_13⟩ := a
      replace ha : (q_10 = q) ∧ (x2_11 = p2) ∧ (x3_12 = p3) ∧ (Int32.toInt x2_11 ≤ Int32.toInt x4_13) ∧ (Int32.toInt x4_13 ≤ 21) := ha
      obtain ⟨a_14, a_15, a_16, a_17, a_18⟩ := ha
      show dOk (zX4_isSame_s24_t0_20b  (fun q x2 x3 x4 => k_9 (q, x2, x3, x4)) q_10 x2_11 x3_12 x4_13) _
      unfold zX4_isSame_s24_t0_20b
      subst q_10
      subst x2_11
      subst x3_12
      refine dOk_le (A := Int32.toInt p3) (B := Int32.toInt x4_13) rfl rfl (fun c_19 => ?_) (fun c_20 => ?_)
      · exact dOk_some (show (q = q) ∧ (((1 : Int) = 0 ∨ (1 : Int) = 1)) from ⟨rfl, by omega⟩)
      · refine dOk_G (dg_ok (show 0 ≤ Int32.toInt x4_13 by omega) (show Int32.toInt x4_13 < ((21 : Nat) : Int) by omega)) ?_
        have n_21 : ((Int32.toNatClampNeg x4_13 : Nat) : Int) = Int32.toInt x4_13 := cl_eq (by omega)
        refine dOk_L (fun v_22 ev_22 => ?_)
        have w_23 : Int32.toInt v_22 = Int32.toInt (chV 0 x4_13) := by rw [ev_22]
        have f_24 : 0 ≤ Int32.toInt (q.1 24 0) ∧ Int32.toInt (q.1 24 0) ≤ 1 := rg_24_0 hT
        refine dOk_G (dnz_ok (show ¬ Int32.toInt (q.1 24 0) = 0 by omega)) ?_
        try have t_25 : Int32.toInt (q.1 24 5 + x4_13) = Int32.toInt (q.1 24 5) + Int32.toInt x4_13 := ti_add rfl rfl (by omega) (by omega)
        try have t_26 : Int32.toInt (q.1 24 5 + x4_13 - p2) = Int32.toInt (q.1 24 5 + x4_13) - Int32.toInt p2 := ti_sub rfl rfl (by omega) (by omega)
        refine dOk_G (dg_ok (show 0 ≤ Int32.toInt (q.1 24 5 + x4_13 - p2) by omega) (show Int32.toInt (q.1 24 5 + x4_13 - p2) < ((400 : Nat) : Int) by omega)) ?_
        have n_27 : ((Int32.toNatClampNeg (q.1 24 5 + x4_13 - p2) : Nat) : Int) = Int32.toInt (q.1 24 5 + x4_13 - p2) := cl_eq (by omega)
        refine dOk_L (fun v_28 ev_28 => ?_)
        refine dOk_eq (A := Int32.toInt v_22) (B := Int32.toInt v_28) rfl rfl (fun c_29z c_29 => ?_) (fun c_30z c_30 => ?_)
        · try have t_32 : Int32.toInt (x4_13 + 1) = Int32.toInt x4_13 + 1 := ti_add rfl (by decide) (by omega) (by omega)
          exact hk_8 (q, p2, p3, (x4_13 + 1)) (show (q = q) ∧ (p2 = p2) ∧ (p3 = p3) ∧ (Int32.toInt p2 ≤ Int32.toInt (x4_13 + 1)) ∧ (Int32.toInt (x4_13 + 1) ≤ 21) from ⟨rfl, rfl, rfl, by omega, by omega⟩) (show (21 - Int32.toInt (x4_13 + 1)).toNat < (21 - Int32.toInt x4_13).toNat by omega)
        · exact dOk_some (show (q = q) ∧ (((0 : Int) = 0 ∨ (0 : Int) = 1)) from ⟨rfl, by omega⟩)
    · exact (show (q = q) ∧ (p2 = p2) ∧ (p3 = p3) ∧ (Int32.toInt p2 ≤ Int32.toInt p2) ∧ (Int32.toInt p2 ≤ 21) from ⟨rfl, rfl, rfl, by omega, by omega⟩)
    · show (21 - Int32.toInt p2).toNat < 1000000000000
      omega
  · exact dOk_some (show (q = q) ∧ (((0 : Int) = 0 ∨ (0 : Int) = 1)) from ⟨rfl, by omega⟩)

set_option maxHeartbeats 4000000 in
set_option maxRecDepth 100000 in
theorem ok_X4_wordIn_s24_t0 (q : dK) (hT : TC q) (hp0 : ¬ Int32.toInt (q.1 24 0) = 0) : dOk (zX4_wordIn_s24_t0 q) (fun (o : Int32 × dK) => (o.2 = q) ∧ (-1 ≤ Int32.toInt o.1 ∧ Int32.toInt o.1 ≤ 21)) := by
  unfold zX4_wordIn_s24_t0
  unfold zX4_wordIn_s24_t0_7
  refine dFix_ok (fun (a : dK × Int32 × Int32 × Int32) => (a.1 = q) ∧ (0 ≤ Int32.toInt a.2.2.2) ∧ (Int32.toInt a.2.2.2 ≤ 21) ∧ (0 ≤ Int32.toInt a.2.2.1) ∧ (Int32.toInt a.2.2.1 ≤ Int32.toInt a.2.2.2) ∧ (0 ≤ Int32.toInt a.2.1) ∧ (Int32.toInt a.2.1 ≤ Int32.toInt a.2.2.2)) (fun (a : dK × Int32 × Int32 × Int32) => (21 - Int32.toInt a.2.2.2).toNat) ?_ _ ?_ _ (dF_gt ?_)
  · intro a ha k_2 hk_1
    obtain ⟨q_3, x2_4, x3_5, x4_6⟩ := a
    replace ha : (q_3 = q) ∧ (0 ≤ Int32.toInt x4_6) ∧ (Int32.toInt x4_6 ≤ 21) ∧ (0 ≤ Int32.toInt x3_5) ∧ (Int32.toInt x3_5 ≤ Int32.toInt x4_6) ∧ (0 ≤ Int32.toInt x2_4) ∧ (Int32.toInt x2_4 ≤ Int32.toInt x4_6) := ha
    obtain ⟨a_7, a_8, a_9, a_10, a_11, a_12, a_13⟩ := ha
    show dOk (zX4_wordIn_s24_t0_7b  (fun q x2 x3 x4 => k_2 (q, x2, x3, x4)) q_3 x2_4 x3_5 x4_6) _
    unfold zX4_wordIn_s24_t0_7b
    subst q_3
    refine dOk_le (A := 21) (B := Int32.toInt x4_6) (by decide) rfl (fun c_14 => ?_) (fun c_15 => ?_)
    · unfold zX4_wordIn_s24_t0_62
      exact dOk_some (show (q = q) ∧ (-1 ≤ (-1 : Int) ∧ (-1 : Int) ≤ 21) from ⟨rfl, by omega⟩)
    · refine dOk_eq (A := Int32.toInt (q.1 24 4)) (B := 1) rfl (by decide) (fun c_16z c_16 => ?_) (fun c_17z c_17 => ?_)
      · refine dOk_G (dg_ok (show 0 ≤ Int32.toInt x4_6 by omega) (show Int32.toInt x4_6 < ((21 : Nat) : Int) by omega)) ?_
        have n_19 : ((Int32.toNatClampNeg x4_6 : Nat) : Int) = Int32.toInt x4_6 := cl_eq (by omega)
        refine dOk_L (fun v_20 ev_20 => ?_)
        have w_21 : Int32.toInt v_20 = Int32.toInt (chV 0 x4_6) := by rw [ev_20]
        refine dOk_eq (A := Int32.toInt v_20) (B := 32) rfl (by decide) (fun c_22z c_22 => ?_) (fun c_23z c_23 => ?_)
        · have f_25 : 0 ≤ Int32.toInt (q.1 24 0) ∧ Int32.toInt (q.1 24 0) ≤ 1 := rg_24_0 hT
          refine dOk_B (ok_X4_isSame_s24_t0 q x3_5 x4_6 hT (show ¬ Int32.toInt (q.1 24 0) = 0 by omega) (show 0 ≤ Int32.toInt x3_5 by omega) (show Int32.toInt x3_5 ≤ Int32.toInt x4_6 by omega) (show Int32.toInt x4_6 ≤ 21 by omega)) (fun r_26 q_27 h_28 => ?_)
          replace h_28 : (q_27 = q) ∧ ((Int32.toInt r_26 = 0 ∨ Int32.toInt r_26 = 1)) := h_28
          obtain ⟨i_29, i_30⟩ := h_28
          subst q_27
          refine dOk_eq (A := Int32.toInt r_26) (B := 0) rfl (by decide) (fun c_31z c_31 => ?_) (fun c_32z c_32 => ?_)
          · unfold zX4_wordIn_s24_t0_56
            try have t_34 : Int32.toInt (x2_4 + 1) = Int32.toInt x2_4 + 1 := ti_add rfl (by decide) (by omega) (by omega)
            try have t_35 : Int32.toInt (x4_6 + 1) = Int32.toInt x4_6 + 1 := ti_add rfl (by decide) (by omega) (by omega)
            exact hk_1 (q, (x2_4 + 1), (x4_6 + 1), (x4_6 + 1)) (show (q = q) ∧ (0 ≤ Int32.toInt (x4_6 + 1)) ∧ (Int32.toInt (x4_6 + 1) ≤ 21) ∧ (0 ≤ Int32.toInt (x4_6 + 1)) ∧ (Int32.toInt (x4_6 + 1) ≤ Int32.toInt (x4_6 + 1)) ∧ (0 ≤ Int32.toInt (x2_4 + 1)) ∧ (Int32.toInt (x2_4 + 1) ≤ Int32.toInt (x4_6 + 1)) from ⟨rfl, by omega, by omega, by omega, by omega, by omega, by omega⟩) (show (21 - Int32.toInt (x4_6 + 1)).toNat < (21 - Int32.toInt x4_6).toNat by omega)
          · exact dOk_some (show (q = q) ∧ (-1 ≤ Int32.toInt x2_4 ∧ Int32.toInt x2_4 ≤ 21) from ⟨rfl, by omega⟩)
        · unfold zX4_wordIn_s24_t0_56
          try have t_36 : Int32.toInt (x4_6 + 1) = Int32.toInt x4_6 + 1 := ti_add rfl (by decide) (by omega) (by omega)
          exact hk_1 (q, x2_4, x3_5, (x4_6 + 1)) (show (q = q) ∧ (0 ≤ Int32.toInt (x4_6 + 1)) ∧ (Int32.toInt (x4_6 + 1) ≤ 21) ∧ (0 ≤ Int32.toInt x3_5) ∧ (Int32.toInt x3_5 ≤ Int32.toInt (x4_6 + 1)) ∧ (0 ≤ Int32.toInt x2_4) ∧ (Int32.toInt x2_4 ≤ Int32.toInt (x4_6 + 1)) from ⟨rfl, by omega, by omega, by omega, by omega, by omega, by omega⟩) (show (21 - Int32.toInt (x4_6 + 1)).toNat < (21 - Int32.toInt x4_6).toNat by omega)
      · unfold zX4_wordIn_s24_t0_62
        exact dOk_some (show (q = q) ∧ (-1 ≤ (-1 : Int) ∧ (-1 : Int) ≤ 21) from ⟨rfl, by omega⟩)
  · exact (show (q = q) ∧ (0 ≤ (0 : Int)) ∧ ((0 : Int) ≤ 21) ∧ (0 ≤ (0 : Int)) ∧ ((0 : Int) ≤ (0 : Int)) ∧ (0 ≤ (0 : Int)) ∧ ((0 : Int) ≤ (0 : Int)) from ⟨rfl, by omega, by omega, by omega, by omega, by omega, by omega⟩)
  · show (21 - (0 : Int)).toNat < 1000000000000
    omega

set_option maxHeartbeats 4000000 in
set_option maxRecDepth 100000 in
theorem ok_X4_isSame_s24_t1 (q : dK) (p2 : Int32) (p3 : Int32) (hT : TC q) (hp0 : ¬ Int32.toInt (q.1 24 0) = 0) (hp1 : 0 ≤ Int32.toInt p2) (hp2 : Int32.toInt p2 ≤ Int32.toInt p3) (hp3 : Int32.toInt p3 ≤ 15) : dOk (zX4_isSame_s24_t1 q p2 p3) (fun (o : Int32 × dK) => (o.2 = q) ∧ ((Int32.toInt o.1 = 0 ∨ Int32.toInt o.1 = 1))) := by
  unfold zX4_isSame_s24_t1
  try have t_1 : Int32.toInt (p3 - p2) = Int32.toInt p3 - Int32.toInt p2 := ti_sub rfl rfl (by omega) (by omega)
  have f_2 : 0 ≤ Int32.toInt (q.1 24 6) ∧ Int32.toInt (q.1 24 6) ≤ 400 := rg_24_6 hT
  have f_3 : 0 ≤ Int32.toInt (q.1 24 5) ∧ Int32.toInt (q.1 24 5) ≤ 400 := rg_24_5 hT
  try have t_4 : Int32.toInt (q.1 24 6 - q.1 24 5) = Int32.toInt (q.1 24 6) - Int32.toInt (q.1 24 5) := ti_sub rfl rfl (by omega) (by omega)
  refine dOk_eq (A := Int32.toInt (p3 - p2)) (B := Int32.toInt (q.1 24 6 - q.1 24 5)) rfl rfl (fun c_5z c_5 => ?_) (fun c_6z c_6 => ?_)
  · unfold zX4_isSame_s24_t1_20
    refine dFix_ok (fun (a : dK × Int32 × Int32 × Int32) => (a.1 = q) ∧ (a.2.1 = p2) ∧ (a.2.2.1 = p3) ∧ (Int32.toInt a.2.1 ≤ Int32.toInt a.2.2.2) ∧ (Int32.toInt a.2.2.2 ≤ 15)) (fun (a : dK × Int32 × Int32 × Int32) => (15 - Int32.toInt a.2.2.2).toNat) ?_ _ ?_ _ (dF_gt ?_)
    · intro a ha k_9 hk_8
      obtain ⟨q_10, x2_11, x3_12, x4_13⟩ := a
      replace ha : (q_10 = q) ∧ (x2_11 = p2) ∧ (x3_12 = p3) ∧ (Int32.toInt x2_11 ≤ Int32.toInt x4_13) ∧ (Int32.toInt x4_13 ≤ 15) := ha
      obtain ⟨a_14, a_15, a_16, a_17, a_18⟩ := ha
      show dOk (zX4_isSame_s24_t1_20b  (fun q x2 x3 x4 => k_9 (q, x2, x3, x4)) q_10 x2_11 x3_12 x4_13) _
      unfold zX4_isSame_s24_t1_20b
      subst q_10
      subst x2_11
      subst x3_12
      refine dOk_le (A := Int32.toInt p3) (B := Int32.toInt x4_13) rfl rfl (fun c_19 => ?_) (fun c_20 => ?_)
      · exact dOk_some (show (q = q) ∧ (((1 : Int) = 0 ∨ (1 : Int) = 1)) from ⟨rfl, by omega⟩)
      · refine dOk_G (dg_ok (show 0 ≤ Int32.toInt x4_13 by omega) (show Int32.toInt x4_13 < ((15 : Nat) : Int) by omega)) ?_
        have n_21 : ((Int32.toNatClampNeg x4_13 : Nat) : Int) = Int32.toInt x4_13 := cl_eq (by omega)
        refine dOk_L (fun v_22 ev_22 => ?_)
        have w_23 : Int32.toInt v_22 = Int32.toInt (chV 1 x4_13) := by rw [ev_22]
        have f_24 : 0 ≤ Int32.toInt (q.1 24 0) ∧ Int32.toInt (q.1 24 0) ≤ 1 := rg_24_0 hT
        refine dOk_G (dnz_ok (show ¬ Int32.toInt (q.1 24 0) = 0 by omega)) ?_
        try have t_25 : Int32.toInt (q.1 24 5 + x4_13) = Int32.toInt (q.1 24 5) + Int32.toInt x4_13 := ti_add rfl rfl (by omega) (by omega)
        try have t_26 : Int32.toInt (q.1 24 5 + x4_13 - p2) = Int32.toInt (q.1 24 5 + x4_13) - Int32.toInt p2 := ti_sub rfl rfl (by omega) (by omega)
        refine dOk_G (dg_ok (show 0 ≤ Int32.toInt (q.1 24 5 + x4_13 - p2) by omega) (show Int32.toInt (q.1 24 5 + x4_13 - p2) < ((400 : Nat) : Int) by omega)) ?_
        have n_27 : ((Int32.toNatClampNeg (q.1 24 5 + x4_13 - p2) : Nat) : Int) = Int32.toInt (q.1 24 5 + x4_13 - p2) := cl_eq (by omega)
        refine dOk_L (fun v_28 ev_28 => ?_)
        refine dOk_eq (A := Int32.toInt v_22) (B := Int32.toInt v_28) rfl rfl (fun c_29z c_29 => ?_) (fun c_30z c_30 => ?_)
        · try have t_32 : Int32.toInt (x4_13 + 1) = Int32.toInt x4_13 + 1 := ti_add rfl (by decide) (by omega) (by omega)
          exact hk_8 (q, p2, p3, (x4_13 + 1)) (show (q = q) ∧ (p2 = p2) ∧ (p3 = p3) ∧ (Int32.toInt p2 ≤ Int32.toInt (x4_13 + 1)) ∧ (Int32.toInt (x4_13 + 1) ≤ 15) from ⟨rfl, rfl, rfl, by omega, by omega⟩) (show (15 - Int32.toInt (x4_13 + 1)).toNat < (15 - Int32.toInt x4_13).toNat by omega)
        · exact dOk_some (show (q = q) ∧ (((0 : Int) = 0 ∨ (0 : Int) = 1)) from ⟨rfl, by omega⟩)
    · exact (show (q = q) ∧ (p2 = p2) ∧ (p3 = p3) ∧ (Int32.toInt p2 ≤ Int32.toInt p2) ∧ (Int32.toInt p2 ≤ 15) from ⟨rfl, rfl, rfl, by omega, by omega⟩)
    · show (15 - Int32.toInt p2).toNat < 1000000000000
      omega
  · exact dOk_some (show (q = q) ∧ (((0 : Int) = 0 ∨ (0 : Int) = 1)) from ⟨rfl, by omega⟩)
end
section
set_option maxHeartbeats 4000000 in
set_option maxRecDepth 100000 in
theorem ok_X4_wordIn_s24_t1 (q : dK) (hT : TC q) (hp0 : ¬ Int32.toInt (q.1 24 0) = 0) : dOk (zX4_wordIn_s24_t1 q) (fun (o : Int32 × dK) => (o.2 = q) ∧ (-1 ≤ Int32.toInt o.1 ∧ Int32.toInt o.1 ≤ 15)) := by
  unfold zX4_wordIn_s24_t1
  unfold zX4_wordIn_s24_t1_7
  refine dFix_ok (fun (a : dK × Int32 × Int32 × Int32) => (a.1 = q) ∧ (0 ≤ Int32.toInt a.2.2.2) ∧ (Int32.toInt a.2.2.2 ≤ 15) ∧ (0 ≤ Int32.toInt a.2.2.1) ∧ (Int32.toInt a.2.2.1 ≤ Int32.toInt a.2.2.2) ∧ (0 ≤ Int32.toInt a.2.1) ∧ (Int32.toInt a.2.1 ≤ Int32.toInt a.2.2.2)) (fun (a : dK × Int32 × Int32 × Int32) => (15 - Int32.toInt a.2.2.2).toNat) ?_ _ ?_ _ (dF_gt ?_)
  · intro a ha k_2 hk_1
    obtain ⟨q_3, x2_4, x3_5, x4_6⟩ := a
    replace ha : (q_3 = q) ∧ (0 ≤ Int32.toInt x4_6) ∧ (Int32.toInt x4_6 ≤ 15) ∧ (0 ≤ Int32.toInt x3_5) ∧ (Int32.toInt x3_5 ≤ Int32.toInt x4_6) ∧ (0 ≤ Int32.toInt x2_4) ∧ (Int32.toInt x2_4 ≤ Int32.toInt x4_6) := ha
    obtain ⟨a_7, a_8, a_9, a_10, a_11, a_12, a_13⟩ := ha
    show dOk (zX4_wordIn_s24_t1_7b  (fun q x2 x3 x4 => k_2 (q, x2, x3, x4)) q_3 x2_4 x3_5 x4_6) _
    unfold zX4_wordIn_s24_t1_7b
    subst q_3
    refine dOk_le (A := 15) (B := Int32.toInt x4_6) (by decide) rfl (fun c_14 => ?_) (fun c_15 => ?_)
    · unfold zX4_wordIn_s24_t1_62
      exact dOk_some (show (q = q) ∧ (-1 ≤ (-1 : Int) ∧ (-1 : Int) ≤ 15) from ⟨rfl, by omega⟩)
    · refine dOk_eq (A := Int32.toInt (q.1 24 4)) (B := 1) rfl (by decide) (fun c_16z c_16 => ?_) (fun c_17z c_17 => ?_)
      · refine dOk_G (dg_ok (show 0 ≤ Int32.toInt x4_6 by omega) (show Int32.toInt x4_6 < ((15 : Nat) : Int) by omega)) ?_
        have n_19 : ((Int32.toNatClampNeg x4_6 : Nat) : Int) = Int32.toInt x4_6 := cl_eq (by omega)
        refine dOk_L (fun v_20 ev_20 => ?_)
        have w_21 : Int32.toInt v_20 = Int32.toInt (chV 1 x4_6) := by rw [ev_20]
        refine dOk_eq (A := Int32.toInt v_20) (B := 32) rfl (by decide) (fun c_22z c_22 => ?_) (fun c_23z c_23 => ?_)
        · have f_25 : 0 ≤ Int32.toInt (q.1 24 0) ∧ Int32.toInt (q.1 24 0) ≤ 1 := rg_24_0 hT
          refine dOk_B (ok_X4_isSame_s24_t1 q x3_5 x4_6 hT (show ¬ Int32.toInt (q.1 24 0) = 0 by omega) (show 0 ≤ Int32.toInt x3_5 by omega) (show Int32.toInt x3_5 ≤ Int32.toInt x4_6 by omega) (show Int32.toInt x4_6 ≤ 15 by omega)) (fun r_26 q_27 h_28 => ?_)
          replace h_28 : (q_27 = q) ∧ ((Int32.toInt r_26 = 0 ∨ Int32.toInt r_26 = 1)) := h_28
          obtain ⟨i_29, i_30⟩ := h_28
          subst q_27
          refine dOk_eq (A := Int32.toInt r_26) (B := 0) rfl (by decide) (fun c_31z c_31 => ?_) (fun c_32z c_32 => ?_)
          · unfold zX4_wordIn_s24_t1_56
            try have t_34 : Int32.toInt (x2_4 + 1) = Int32.toInt x2_4 + 1 := ti_add rfl (by decide) (by omega) (by omega)
            try have t_35 : Int32.toInt (x4_6 + 1) = Int32.toInt x4_6 + 1 := ti_add rfl (by decide) (by omega) (by omega)
            exact hk_1 (q, (x2_4 + 1), (x4_6 + 1), (x4_6 + 1)) (show (q = q) ∧ (0 ≤ Int32.toInt (x4_6 + 1)) ∧ (Int32.toInt (x4_6 + 1) ≤ 15) ∧ (0 ≤ Int32.toInt (x4_6 + 1)) ∧ (Int32.toInt (x4_6 + 1) ≤ Int32.toInt (x4_6 + 1)) ∧ (0 ≤ Int32.toInt (x2_4 + 1)) ∧ (Int32.toInt (x2_4 + 1) ≤ Int32.toInt (x4_6 + 1)) from ⟨rfl, by omega, by omega, by omega, by omega, by omega, by omega⟩) (show (15 - Int32.toInt (x4_6 + 1)).toNat < (15 - Int32.toInt x4_6).toNat by omega)
          · exact dOk_some (show (q = q) ∧ (-1 ≤ Int32.toInt x2_4 ∧ Int32.toInt x2_4 ≤ 15) from ⟨rfl, by omega⟩)
        · unfold zX4_wordIn_s24_t1_56
          try have t_36 : Int32.toInt (x4_6 + 1) = Int32.toInt x4_6 + 1 := ti_add rfl (by decide) (by omega) (by omega)
          exact hk_1 (q, x2_4, x3_5, (x4_6 + 1)) (show (q = q) ∧ (0 ≤ Int32.toInt (x4_6 + 1)) ∧ (Int32.toInt (x4_6 + 1) ≤ 15) ∧ (0 ≤ Int32.toInt x3_5) ∧ (Int32.toInt x3_5 ≤ Int32.toInt (x4_6 + 1)) ∧ (0 ≤ Int32.toInt x2_4) ∧ (Int32.toInt x2_4 ≤ Int32.toInt (x4_6 + 1)) from ⟨rfl, by omega, by omega, by omega, by omega, by omega, by omega⟩) (show (15 - Int32.toInt (x4_6 + 1)).toNat < (15 - Int32.toInt x4_6).toNat by omega)
      · unfold zX4_wordIn_s24_t1_62
        exact dOk_some (show (q = q) ∧ (-1 ≤ (-1 : Int) ∧ (-1 : Int) ≤ 15) from ⟨rfl, by omega⟩)
  · exact (show (q = q) ∧ (0 ≤ (0 : Int)) ∧ ((0 : Int) ≤ 15) ∧ (0 ≤ (0 : Int)) ∧ ((0 : Int) ≤ (0 : Int)) ∧ (0 ≤ (0 : Int)) ∧ ((0 : Int) ≤ (0 : Int)) from ⟨rfl, by omega, by omega, by omega, by omega, by omega, by omega⟩)
  · show (15 - (0 : Int)).toNat < 1000000000000
    omega

set_option maxHeartbeats 4000000 in
set_option maxRecDepth 100000 in
theorem ok_X4_isSame_s24_t2 (q : dK) (p2 : Int32) (p3 : Int32) (hT : TC q) (hp0 : ¬ Int32.toInt (q.1 24 0) = 0) (hp1 : 0 ≤ Int32.toInt p2) (hp2 : Int32.toInt p2 ≤ Int32.toInt p3) (hp3 : Int32.toInt p3 ≤ 35) : dOk (zX4_isSame_s24_t2 q p2 p3) (fun (o : Int32 × dK) => (o.2 = q) ∧ ((Int32.toInt o.1 = 0 ∨ Int32.toInt o.1 = 1))) := by
  unfold zX4_isSame_s24_t2
  try have t_1 : Int32.toInt (p3 - p2) = Int32.toInt p3 - Int32.toInt p2 := ti_sub rfl rfl (by omega) (by omega)
  have f_2 : 0 ≤ Int32.toInt (q.1 24 6) ∧ Int32.toInt (q.1 24 6) ≤ 400 := rg_24_6 hT
  have f_3 : 0 ≤ Int32.toInt (q.1 24 5) ∧ Int32.toInt (q.1 24 5) ≤ 400 := rg_24_5 hT
  try have t_4 : Int32.toInt (q.1 24 6 - q.1 24 5) = Int32.toInt (q.1 24 6) - Int32.toInt (q.1 24 5) := ti_sub rfl rfl (by omega) (by omega)
  refine dOk_eq (A := Int32.toInt (p3 - p2)) (B := Int32.toInt (q.1 24 6 - q.1 24 5)) rfl rfl (fun c_5z c_5 => ?_) (fun c_6z c_6 => ?_)
  · unfold zX4_isSame_s24_t2_20
    refine dFix_ok (fun (a : dK × Int32 × Int32 × Int32) => (a.1 = q) ∧ (a.2.1 = p2) ∧ (a.2.2.1 = p3) ∧ (Int32.toInt a.2.1 ≤ Int32.toInt a.2.2.2) ∧ (Int32.toInt a.2.2.2 ≤ 35)) (fun (a : dK × Int32 × Int32 × Int32) => (35 - Int32.toInt a.2.2.2).toNat) ?_ _ ?_ _ (dF_gt ?_)
    · intro a ha k_9 hk_8
      obtain ⟨q_10, x2_11, x3_12, x4_13⟩ := a
      replace ha : (q_10 = q) ∧ (x2_11 = p2) ∧ (x3_12 = p3) ∧ (Int32.toInt x2_11 ≤ Int32.toInt x4_13) ∧ (Int32.toInt x4_13 ≤ 35) := ha
      obtain ⟨a_14, a_15, a_16, a_17, a_18⟩ := ha
      show dOk (zX4_isSame_s24_t2_20b  (fun q x2 x3 x4 => k_9 (q, x2, x3, x4)) q_10 x2_11 x3_12 x4_13) _
      unfold zX4_isSame_s24_t2_20b
      subst q_10
      subst x2_11
      subst x3_12
      refine dOk_le (A := Int32.toInt p3) (B := Int32.toInt x4_13) rfl rfl (fun c_19 => ?_) (fun c_20 => ?_)
      · exact dOk_some (show (q = q) ∧ (((1 : Int) = 0 ∨ (1 : Int) = 1)) from ⟨rfl, by omega⟩)
      · refine dOk_G (dg_ok (show 0 ≤ Int32.toInt x4_13 by omega) (show Int32.toInt x4_13 < ((35 : Nat) : Int) by omega)) ?_
        have n_21 : ((Int32.toNatClampNeg x4_13 : Nat) : Int) = Int32.toInt x4_13 := cl_eq (by omega)
        refine dOk_L (fun v_22 ev_22 => ?_)
        have w_23 : Int32.toInt v_22 = Int32.toInt (chV 2 x4_13) := by rw [ev_22]
        have f_24 : 0 ≤ Int32.toInt (q.1 24 0) ∧ Int32.toInt (q.1 24 0) ≤ 1 := rg_24_0 hT
        refine dOk_G (dnz_ok (show ¬ Int32.toInt (q.1 24 0) = 0 by omega)) ?_
        try have t_25 : Int32.toInt (q.1 24 5 + x4_13) = Int32.toInt (q.1 24 5) + Int32.toInt x4_13 := ti_add rfl rfl (by omega) (by omega)
        try have t_26 : Int32.toInt (q.1 24 5 + x4_13 - p2) = Int32.toInt (q.1 24 5 + x4_13) - Int32.toInt p2 := ti_sub rfl rfl (by omega) (by omega)
        refine dOk_G (dg_ok (show 0 ≤ Int32.toInt (q.1 24 5 + x4_13 - p2) by omega) (show Int32.toInt (q.1 24 5 + x4_13 - p2) < ((400 : Nat) : Int) by omega)) ?_
        have n_27 : ((Int32.toNatClampNeg (q.1 24 5 + x4_13 - p2) : Nat) : Int) = Int32.toInt (q.1 24 5 + x4_13 - p2) := cl_eq (by omega)
        refine dOk_L (fun v_28 ev_28 => ?_)
        refine dOk_eq (A := Int32.toInt v_22) (B := Int32.toInt v_28) rfl rfl (fun c_29z c_29 => ?_) (fun c_30z c_30 => ?_)
        · try have t_32 : Int32.toInt (x4_13 + 1) = Int32.toInt x4_13 + 1 := ti_add rfl (by decide) (by omega) (by omega)
          exact hk_8 (q, p2, p3, (x4_13 + 1)) (show (q = q) ∧ (p2 = p2) ∧ (p3 = p3) ∧ (Int32.toInt p2 ≤ Int32.toInt (x4_13 + 1)) ∧ (Int32.toInt (x4_13 + 1) ≤ 35) from ⟨rfl, rfl, rfl, by omega, by omega⟩) (show (35 - Int32.toInt (x4_13 + 1)).toNat < (35 - Int32.toInt x4_13).toNat by omega)
        · exact dOk_some (show (q = q) ∧ (((0 : Int) = 0 ∨ (0 : Int) = 1)) from ⟨rfl, by omega⟩)
    · exact (show (q = q) ∧ (p2 = p2) ∧ (p3 = p3) ∧ (Int32.toInt p2 ≤ Int32.toInt p2) ∧ (Int32.toInt p2 ≤ 35) from ⟨rfl, rfl, rfl, by omega, by omega⟩)
    · show (35 - Int32.toInt p2).toNat < 1000000000000
      omega
  · exact dOk_some (show (q = q) ∧ (((0 : Int) = 0 ∨ (0 : Int) = 1)) from ⟨rfl, by omega⟩)

set_option maxHeartbeats 4000000 in
set_option maxRecDepth 100000 in
theorem ok_X4_wordIn_s24_t2 (q : dK) (hT : TC q) (hp0 : ¬ Int32.toInt (q.1 24 0) = 0) : dOk (zX4_wordIn_s24_t2 q) (fun (o : Int32 × dK) => (o.2 = q) ∧ (-1 ≤ Int32.toInt o.1 ∧ Int32.toInt o.1 ≤ 35)) := by
  unfold zX4_wordIn_s24_t2
  unfold zX4_wordIn_s24_t2_7
  refine dFix_ok (fun (a : dK × Int32 × Int32 × Int32) => (a.1 = q) ∧ (0 ≤ Int32.toInt a.2.2.2) ∧ (Int32.toInt a.2.2.2 ≤ 35) ∧ (0 ≤ Int32.toInt a.2.2.1) ∧ (Int32.toInt a.2.2.1 ≤ Int32.toInt a.2.2.2) ∧ (0 ≤ Int32.toInt a.2.1) ∧ (Int32.toInt a.2.1 ≤ Int32.toInt a.2.2.2)) (fun (a : dK × Int32 × Int32 × Int32) => (35 - Int32.toInt a.2.2.2).toNat) ?_ _ ?_ _ (dF_gt ?_)
  · intro a ha k_2 hk_1
    obtain ⟨q_3, x2_4, x3_5, x4_6⟩ := a
    replace ha : (q_3 = q) ∧ (0 ≤ Int32.toInt x4_6) ∧ (Int32.toInt x4_6 ≤ 35) ∧ (0 ≤ Int32.toInt x3_5) ∧ (Int32.toInt x3_5 ≤ Int32.toInt x4_6) ∧ (0 ≤ Int32.toInt x2_4) ∧ (Int32.toInt x2_4 ≤ Int32.toInt x4_6) := ha
    obtain ⟨a_7, a_8, a_9, a_10, a_11, a_12, a_13⟩ := ha
    show dOk (zX4_wordIn_s24_t2_7b  (fun q x2 x3 x4 => k_2 (q, x2, x3, x4)) q_3 x2_4 x3_5 x4_6) _
    unfold zX4_wordIn_s24_t2_7b
    subst q_3
    refine dOk_le (A := 35) (B := Int32.toInt x4_6) (by decide) rfl (fun c_14 => ?_) (fun c_15 => ?_)
    · unfold zX4_wordIn_s24_t2_62
      exact dOk_some (show (q = q) ∧ (-1 ≤ (-1 : Int) ∧ (-1 : Int) ≤ 35) from ⟨rfl, by omega⟩)
    · refine dOk_eq (A := Int32.toInt (q.1 24 4)) (B := 1) rfl (by decide) (fun c_16z c_16 => ?_) (fun c_17z c_17 => ?_)
      · refine dOk_G (dg_ok (show 0 ≤ Int32.toInt x4_6 by omega) (show Int32.toInt x4_6 < ((35 : Nat) : Int) by omega)) ?_
        have n_19 : ((Int32.toNatClampNeg x4_6 : Nat) : Int) = Int32.toInt x4_6 := cl_eq (by omega)
        refine dOk_L (fun v_20 ev_20 => ?_)
        have w_21 : Int32.toInt v_20 = Int32.toInt (chV 2 x4_6) := by rw [ev_20]
        refine dOk_eq (A := Int32.toInt v_20) (B := 32) rfl (by decide) (fun c_22z c_22 => ?_) (fun c_23z c_23 => ?_)
        · have f_25 : 0 ≤ Int32.toInt (q.1 24 0) ∧ Int32.toInt (q.1 24 0) ≤ 1 := rg_24_0 hT
          refine dOk_B (ok_X4_isSame_s24_t2 q x3_5 x4_6 hT (show ¬ Int32.toInt (q.1 24 0) = 0 by omega) (show 0 ≤ Int32.toInt x3_5 by omega) (show Int32.toInt x3_5 ≤ Int32.toInt x4_6 by omega) (show Int32.toInt x4_6 ≤ 35 by omega)) (fun r_26 q_27 h_28 => ?_)
          replace h_28 : (q_27 = q) ∧ ((Int32.toInt r_26 = 0 ∨ Int32.toInt r_26 = 1)) := h_28
          obtain ⟨i_29, i_30⟩ := h_28
          subst q_27
          refine dOk_eq (A := Int32.toInt r_26) (B := 0) rfl (by decide) (fun c_31z c_31 => ?_) (fun c_32z c_32 => ?_)
          · unfold zX4_wordIn_s24_t2_56
            try have t_34 : Int32.toInt (x2_4 + 1) = Int32.toInt x2_4 + 1 := ti_add rfl (by decide) (by omega) (by omega)
            try have t_35 : Int32.toInt (x4_6 + 1) = Int32.toInt x4_6 + 1 := ti_add rfl (by decide) (by omega) (by omega)
            exact hk_1 (q, (x2_4 + 1), (x4_6 + 1), (x4_6 + 1)) (show (q = q) ∧ (0 ≤ Int32.toInt (x4_6 + 1)) ∧ (Int32.toInt (x4_6 + 1) ≤ 35) ∧ (0 ≤ Int32.toInt (x4_6 + 1)) ∧ (Int32.toInt (x4_6 + 1) ≤ Int32.toInt (x4_6 + 1)) ∧ (0 ≤ Int32.toInt (x2_4 + 1)) ∧ (Int32.toInt (x2_4 + 1) ≤ Int32.toInt (x4_6 + 1)) from ⟨rfl, by omega, by omega, by omega, by omega, by omega, by omega⟩) (show (35 - Int32.toInt (x4_6 + 1)).toNat < (35 - Int32.toInt x4_6).toNat by omega)
          · exact dOk_some (show (q = q) ∧ (-1 ≤ Int32.toInt x2_4 ∧ Int32.toInt x2_4 ≤ 35) from ⟨rfl, by omega⟩)
        · unfold zX4_wordIn_s24_t2_56
          try have t_36 : Int32.toInt (x4_6 + 1) = Int32.toInt x4_6 + 1 := ti_add rfl (by decide) (by omega) (by omega)
          exact hk_1 (q, x2_4, x3_5, (x4_6 + 1)) (show (q = q) ∧ (0 ≤ Int32.toInt (x4_6 + 1)) ∧ (Int32.toInt (x4_6 + 1) ≤ 35) ∧ (0 ≤ Int32.toInt x3_5) ∧ (Int32.toInt x3_5 ≤ Int32.toInt (x4_6 + 1)) ∧ (0 ≤ Int32.toInt x2_4) ∧ (Int32.toInt x2_4 ≤ Int32.toInt (x4_6 + 1)) from ⟨rfl, by omega, by omega, by omega, by omega, by omega, by omega⟩) (show (35 - Int32.toInt (x4_6 + 1)).toNat < (35 - Int32.toInt x4_6).toNat by omega)
      · unfold zX4_wordIn_s24_t2_62
        exact dOk_some (show (q = q) ∧ (-1 ≤ (-1 : Int) ∧ (-1 : Int) ≤ 35) from ⟨rfl, by omega⟩)
  · exact (show (q = q) ∧ (0 ≤ (0 : Int)) ∧ ((0 : Int) ≤ 35) ∧ (0 ≤ (0 : Int)) ∧ ((0 : Int) ≤ (0 : Int)) ∧ (0 ≤ (0 : Int)) ∧ ((0 : Int) ≤ (0 : Int)) from ⟨rfl, by omega, by omega, by omega, by omega, by omega, by omega⟩)
  · show (35 - (0 : Int)).toNat < 1000000000000
    omega

set_option maxHeartbeats 4000000 in
set_option maxRecDepth 100000 in
theorem ok_X4_isSame_s24_t3 (q : dK) (p2 : Int32) (p3 : Int32) (hT : TC q) (hp0 : ¬ Int32.toInt (q.1 24 0) = 0) (hp1 : 0 ≤ Int32.toInt p2) (hp2 : Int32.toInt p2 ≤ Int32.toInt p3) (hp3 : Int32.toInt p3 ≤ 47) : dOk (zX4_isSame_s24_t3 q p2 p3) (fun (o : Int32 × dK) => (o.2 = q) ∧ ((Int32.toInt o.1 = 0 ∨ Int32.toInt o.1 = 1))) := by
  unfold zX4_isSame_s24_t3
  try have t_1 : Int32.toInt (p3 - p2) = Int32.toInt p3 - Int32.toInt p2 := ti_sub rfl rfl (by omega) (by omega)
  have f_2 : 0 ≤ Int32.toInt (q.1 24 6) ∧ Int32.toInt (q.1 24 6) ≤ 400 := rg_24_6 hT
  have f_3 : 0 ≤ Int32.toInt (q.1 24 5) ∧ Int32.toInt (q.1 24 5) ≤ 400 := rg_24_5 hT
  try have t_4 : Int32.toInt (q.1 24 6 - q.1 24 5) = Int32.toInt (q.1 24 6) - Int32.toInt (q.1 24 5) := ti_sub rfl rfl (by omega) (by omega)
  refine dOk_eq (A := Int32.toInt (p3 - p2)) (B := Int32.toInt (q.1 24 6 - q.1 24 5)) rfl rfl (fun c_5z c_5 => ?_) (fun c_6z c_6 => ?_)
  · unfold zX4_isSame_s24_t3_20
    refine dFix_ok (fun (a : dK × Int32 × Int32 × Int32) => (a.1 = q) ∧ (a.2.1 = p2) ∧ (a.2.2.1 = p3) ∧ (Int32.toInt a.2.1 ≤ Int32.toInt a.2.2.2) ∧ (Int32.toInt a.2.2.2 ≤ 47)) (fun (a : dK × Int32 × Int32 × Int32) => (47 - Int32.toInt a.2.2.2).toNat) ?_ _ ?_ _ (dF_gt ?_)
    · intro a ha k_9 hk_8
      obtain ⟨q_10, x2_11, x3_12, x4_13⟩ := a
      replace ha : (q_10 = q) ∧ (x2_11 = p2) ∧ (x3_12 = p3) ∧ (Int32.toInt x2_11 ≤ Int32.toInt x4_13) ∧ (Int32.toInt x4_13 ≤ 47) := ha
      obtain ⟨a_14, a_15, a_16, a_17, a_18⟩ := ha
      show dOk (zX4_isSame_s24_t3_20b  (fun q x2 x3 x4 => k_9 (q, x2, x3, x4)) q_10 x2_11 x3_12 x4_13) _
      unfold zX4_isSame_s24_t3_20b
      subst q_10
      subst x2_11
      subst x3_12
      refine dOk_le (A := Int32.toInt p3) (B := Int32.toInt x4_13) rfl rfl (fun c_19 => ?_) (fun c_20 => ?_)
      · exact dOk_some (show (q = q) ∧ (((1 : Int) = 0 ∨ (1 : Int) = 1)) from ⟨rfl, by omega⟩)
      · refine dOk_G (dg_ok (show 0 ≤ Int32.toInt x4_13 by omega) (show Int32.toInt x4_13 < ((47 : Nat) : Int) by omega)) ?_
        have n_21 : ((Int32.toNatClampNeg x4_13 : Nat) : Int) = Int32.toInt x4_13 := cl_eq (by omega)
        refine dOk_L (fun v_22 ev_22 => ?_)
        have w_23 : Int32.toInt v_22 = Int32.toInt (chV 3 x4_13) := by rw [ev_22]
        have f_24 : 0 ≤ Int32.toInt (q.1 24 0) ∧ Int32.toInt (q.1 24 0) ≤ 1 := rg_24_0 hT
        refine dOk_G (dnz_ok (show ¬ Int32.toInt (q.1 24 0) = 0 by omega)) ?_
        try have t_25 : Int32.toInt (q.1 24 5 + x4_13) = Int32.toInt (q.1 24 5) + Int32.toInt x4_13 := ti_add rfl rfl (by omega) (by omega)
        try have t_26 : Int32.toInt (q.1 24 5 + x4_13 - p2) = Int32.toInt (q.1 24 5 + x4_13) - Int32.toInt p2 := ti_sub rfl rfl (by omega) (by omega)
        refine dOk_G (dg_ok (show 0 ≤ Int32.toInt (q.1 24 5 + x4_13 - p2) by omega) (show Int32.toInt (q.1 24 5 + x4_13 - p2) < ((400 : Nat) : Int) by omega)) ?_
        have n_27 : ((Int32.toNatClampNeg (q.1 24 5 + x4_13 - p2) : Nat) : Int) = Int32.toInt (q.1 24 5 + x4_13 - p2) := cl_eq (by omega)
        refine dOk_L (fun v_28 ev_28 => ?_)
        refine dOk_eq (A := Int32.toInt v_22) (B := Int32.toInt v_28) rfl rfl (fun c_29z c_29 => ?_) (fun c_30z c_30 => ?_)
        · try have t_32 : Int32.toInt (x4_13 + 1) = Int32.toInt x4_13 + 1 := ti_add rfl (by decide) (by omega) (by omega)
          exact hk_8 (q, p2, p3, (x4_13 + 1)) (show (q = q) ∧ (p2 = p2) ∧ (p3 = p3) ∧ (Int32.toInt p2 ≤ Int32.toInt (x4_13 + 1)) ∧ (Int32.toInt (x4_13 + 1) ≤ 47) from ⟨rfl, rfl, rfl, by omega, by omega⟩) (show (47 - Int32.toInt (x4_13 + 1)).toNat < (47 - Int32.toInt x4_13).toNat by omega)
        · exact dOk_some (show (q = q) ∧ (((0 : Int) = 0 ∨ (0 : Int) = 1)) from ⟨rfl, by omega⟩)
    · exact (show (q = q) ∧ (p2 = p2) ∧ (p3 = p3) ∧ (Int32.toInt p2 ≤ Int32.toInt p2) ∧ (Int32.toInt p2 ≤ 47) from ⟨rfl, rfl, rfl, by omega, by omega⟩)
    · show (47 - Int32.toInt p2).toNat < 1000000000000
      omega
  · exact dOk_some (show (q = q) ∧ (((0 : Int) = 0 ∨ (0 : Int) = 1)) from ⟨rfl, by omega⟩)

set_option maxHeartbeats 4000000 in
set_option maxRecDepth 100000 in
theorem ok_X4_wordIn_s24_t3 (q : dK) (hT : TC q) (hp0 : ¬ Int32.toInt (q.1 24 0) = 0) : dOk (zX4_wordIn_s24_t3 q) (fun (o : Int32 × dK) => (o.2 = q) ∧ (-1 ≤ Int32.toInt o.1 ∧ Int32.toInt o.1 ≤ 47)) := by
  unfold zX4_wordIn_s24_t3
  unfold zX4_wordIn_s24_t3_7
  refine dFix_ok (fun (a : dK × Int32 × Int32 × Int32) => (a.1 = q) ∧ (0 ≤ Int32.toInt a.2.2.2) ∧ (Int32.toInt a.2.2.2 ≤ 47) ∧ (0 ≤ Int32.toInt a.2.2.1) ∧ (Int32.toInt a.2.2.1 ≤ Int32.toInt a.2.2.2) ∧ (0 ≤ Int32.toInt a.2.1) ∧ (Int32.toInt a.2.1 ≤ Int32.toInt a.2.2.2)) (fun (a : dK × Int32 × Int32 × Int32) => (47 - Int32.toInt a.2.2.2).toNat) ?_ _ ?_ _ (dF_gt ?_)
  · intro a ha k_2 hk_1
    obtain ⟨q_3, x2_4, x3_5, x4_6⟩ := a
    replace ha : (q_3 = q) ∧ (0 ≤ Int32.toInt x4_6) ∧ (Int32.toInt x4_6 ≤ 47) ∧ (0 ≤ Int32.toInt x3_5) ∧ (Int32.toInt x3_5 ≤ Int32.toInt x4_6) ∧ (0 ≤ Int32.toInt x2_4) ∧ (Int32.toInt x2_4 ≤ Int32.toInt x4_6) := ha
    obtain ⟨a_7, a_8, a_9, a_10, a_11, a_12, a_13⟩ := ha
    show dOk (zX4_wordIn_s24_t3_7b  (fun q x2 x3 x4 => k_2 (q, x2, x3, x4)) q_3 x2_4 x3_5 x4_6) _
    unfold zX4_wordIn_s24_t3_7b
    subst q_3
    refine dOk_le (A := 47) (B := Int32.toInt x4_6) (by decide) rfl (fun c_14 => ?_) (fun c_15 => ?_)
    · unfold zX4_wordIn_s24_t3_62
      exact dOk_some (show (q = q) ∧ (-1 ≤ (-1 : Int) ∧ (-1 : Int) ≤ 47) from ⟨rfl, by omega⟩)
    · refine dOk_eq (A := Int32.toInt (q.1 24 4)) (B := 1) rfl (by decide) (fun c_16z c_16 => ?_) (fun c_17z c_17 => ?_)
      · refine dOk_G (dg_ok (show 0 ≤ Int32.toInt x4_6 by omega) (show Int32.toInt x4_6 < ((47 : Nat) : Int) by omega)) ?_
        have n_19 : ((Int32.toNatClampNeg x4_6 : Nat) : Int) = Int32.toInt x4_6 := cl_eq (by omega)
        refine dOk_L (fun v_20 ev_20 => ?_)
        have w_21 : Int32.toInt v_20 = Int32.toInt (chV 3 x4_6) := by rw [ev_20]
        refine dOk_eq (A := Int32.toInt v_20) (B := 32) rfl (by decide) (fun c_22z c_22 => ?_) (fun c_23z c_23 => ?_)
        · have f_25 : 0 ≤ Int32.toInt (q.1 24 0) ∧ Int32.toInt (q.1 24 0) ≤ 1 := rg_24_0 hT
          refine dOk_B (ok_X4_isSame_s24_t3 q x3_5 x4_6 hT (show ¬ Int32.toInt (q.1 24 0) = 0 by omega) (show 0 ≤ Int32.toInt x3_5 by omega) (show Int32.toInt x3_5 ≤ Int32.toInt x4_6 by omega) (show Int32.toInt x4_6 ≤ 47 by omega)) (fun r_26 q_27 h_28 => ?_)
          replace h_28 : (q_27 = q) ∧ ((Int32.toInt r_26 = 0 ∨ Int32.toInt r_26 = 1)) := h_28
          obtain ⟨i_29, i_30⟩ := h_28
          subst q_27
          refine dOk_eq (A := Int32.toInt r_26) (B := 0) rfl (by decide) (fun c_31z c_31 => ?_) (fun c_32z c_32 => ?_)
          · unfold zX4_wordIn_s24_t3_56
            try have t_34 : Int32.toInt (x2_4 + 1) = Int32.toInt x2_4 + 1 := ti_add rfl (by decide) (by omega) (by omega)
            try have t_35 : Int32.toInt (x4_6 + 1) = Int32.toInt x4_6 + 1 := ti_add rfl (by decide) (by omega) (by omega)
            exact hk_1 (q, (x2_4 + 1), (x4_6 + 1), (x4_6 + 1)) (show (q = q) ∧ (0 ≤ Int32.toInt (x4_6 + 1)) ∧ (Int32.toInt (x4_6 + 1) ≤ 47) ∧ (0 ≤ Int32.toInt (x4_6 + 1)) ∧ (Int32.toInt (x4_6 + 1) ≤ Int32.toInt (x4_6 + 1)) ∧ (0 ≤ Int32.toInt (x2_4 + 1)) ∧ (Int32.toInt (x2_4 + 1) ≤ Int32.toInt (x4_6 + 1)) from ⟨rfl, by omega, by omega, by omega, by omega, by omega, by omega⟩) (show (47 - Int32.toInt (x4_6 + 1)).toNat < (47 - Int32.toInt x4_6).toNat by omega)
          · exact dOk_some (show (q = q) ∧ (-1 ≤ Int32.toInt x2_4 ∧ Int32.toInt x2_4 ≤ 47) from ⟨rfl, by omega⟩)
        · unfold zX4_wordIn_s24_t3_56
          try have t_36 : Int32.toInt (x4_6 + 1) = Int32.toInt x4_6 + 1 := ti_add rfl (by decide) (by omega) (by omega)
          exact hk_1 (q, x2_4, x3_5, (x4_6 + 1)) (show (q = q) ∧ (0 ≤ Int32.toInt (x4_6 + 1)) ∧ (Int32.toInt (x4_6 + 1) ≤ 47) ∧ (0 ≤ Int32.toInt x3_5) ∧ (Int32.toInt x3_5 ≤ Int32.toInt (x4_6 + 1)) ∧ (0 ≤ Int32.toInt x2_4) ∧ (Int32.toInt x2_4 ≤ Int32.toInt (x4_6 + 1)) from ⟨rfl, by omega, by omega, by omega, by omega, by omega, by omega⟩) (show (47 - Int32.toInt (x4_6 + 1)).toNat < (47 - Int32.toInt x4_6).toNat by omega)
      · unfold zX4_wordIn_s24_t3_62
        exact dOk_some (show (q = q) ∧ (-1 ≤ (-1 : Int) ∧ (-1 : Int) ≤ 47) from ⟨rfl, by omega⟩)
  · exact (show (q = q) ∧ (0 ≤ (0 : Int)) ∧ ((0 : Int) ≤ 47) ∧ (0 ≤ (0 : Int)) ∧ ((0 : Int) ≤ (0 : Int)) ∧ (0 ≤ (0 : Int)) ∧ ((0 : Int) ≤ (0 : Int)) from ⟨rfl, by omega, by omega, by omega, by omega, by omega, by omega⟩)
  · show (47 - (0 : Int)).toNat < 1000000000000
    omega

set_option maxHeartbeats 4000000 in
set_option maxRecDepth 100000 in
theorem ok_X4_signIn_s24_t4 (q : dK) (p2 : Int32) (hT : TC q) (hp0 : ¬ Int32.toInt (q.1 24 0) = 0) (hp1 : 0 ≤ Int32.toInt p2) (hp2 : Int32.toInt p2 ≤ 10) : dOk (zX4_signIn_s24_t4 q p2) (fun (o : Int32 × dK) => (o.2 = q) ∧ (-1 ≤ Int32.toInt o.1) ∧ (Int32.toInt o.1 ≤ Int32.toInt p2 + 2)) := by
  unfold zX4_signIn_s24_t4
  unfold zX4_signIn_s24_t4_2
  refine dFix_ok (fun (a : dK × Int32 × Int32) => (a.1 = q) ∧ (a.2.1 = p2) ∧ (0 ≤ Int32.toInt a.2.2) ∧ (Int32.toInt a.2.2 ≤ 3)) (fun (a : dK × Int32 × Int32) => (3 - Int32.toInt a.2.2).toNat) ?_ _ ?_ _ (dF_gt ?_)
  · intro a ha k_2 hk_1
    obtain ⟨q_3, x2_4, x3_5⟩ := a
    replace ha : (q_3 = q) ∧ (x2_4 = p2) ∧ (0 ≤ Int32.toInt x3_5) ∧ (Int32.toInt x3_5 ≤ 3) := ha
    obtain ⟨a_6, a_7, a_8, a_9⟩ := ha
    show dOk (zX4_signIn_s24_t4_2b  (fun q x2 x3 => k_2 (q, x2, x3)) q_3 x2_4 x3_5) _
    unfold zX4_signIn_s24_t4_2b
    subst q_3
    subst x2_4
    refine dOk_le (A := 3) (B := Int32.toInt x3_5) (by decide) rfl (fun c_10 => ?_) (fun c_11 => ?_)
    · exact dOk_some (show (q = q) ∧ (-1 ≤ (-1 : Int)) ∧ ((-1 : Int) ≤ Int32.toInt p2 + 2) from ⟨rfl, by omega, by omega⟩)
    · refine dOk_G (dg_ok (show 0 ≤ Int32.toInt x3_5 by omega) (show Int32.toInt x3_5 < ((3 : Nat) : Int) by omega)) ?_
      have n_12 : ((Int32.toNatClampNeg x3_5 : Nat) : Int) = Int32.toInt x3_5 := cl_eq (by omega)
      refine dOk_L (fun v_13 ev_13 => ?_)
      have w_14 : Int32.toInt v_13 = Int32.toInt (chV 4 x3_5) := by rw [ev_13]
      have f_15 : 0 ≤ Int32.toInt (q.1 24 0) ∧ Int32.toInt (q.1 24 0) ≤ 1 := rg_24_0 hT
      refine dOk_B (ok_X4_isSign_s24 q v_13 hT (show ¬ Int32.toInt (q.1 24 0) = 0 by omega)) (fun r_16 q_17 h_18 => ?_)
      replace h_18 : (q_17 = q) ∧ ((Int32.toInt r_16 = 0 ∨ Int32.toInt r_16 = 1)) := h_18
      obtain ⟨i_19, i_20⟩ := h_18
      subst q_17
      refine dOk_eq (A := Int32.toInt r_16) (B := 0) rfl (by decide) (fun c_21z c_21 => ?_) (fun c_22z c_22 => ?_)
      · try have t_24 : Int32.toInt (x3_5 + 1) = Int32.toInt x3_5 + 1 := ti_add rfl (by decide) (by omega) (by omega)
        exact hk_1 (q, p2, (x3_5 + 1)) (show (q = q) ∧ (p2 = p2) ∧ (0 ≤ Int32.toInt (x3_5 + 1)) ∧ (Int32.toInt (x3_5 + 1) ≤ 3) from ⟨rfl, rfl, by omega, by omega⟩) (show (3 - Int32.toInt (x3_5 + 1)).toNat < (3 - Int32.toInt x3_5).toNat by omega)
      · try have t_25 : Int32.toInt (p2 + x3_5) = Int32.toInt p2 + Int32.toInt x3_5 := ti_add rfl rfl (by omega) (by omega)
        exact dOk_some (show (q = q) ∧ (-1 ≤ Int32.toInt (p2 + x3_5)) ∧ (Int32.toInt (p2 + x3_5) ≤ Int32.toInt p2 + 2) from ⟨rfl, by omega, by omega⟩)
  · exact (show (q = q) ∧ (p2 = p2) ∧ (0 ≤ (0 : Int)) ∧ ((0 : Int) ≤ 3) from ⟨rfl, rfl, by omega, by omega⟩)
  · show (3 - (0 : Int)).toNat < 1000000000000
    omega

set_option maxHeartbeats 4000000 in
set_option maxRecDepth 100000 in
theorem ok_X4_signIn_s24_t5 (q : dK) (p2 : Int32) (hT : TC q) (hp0 : ¬ Int32.toInt (q.1 24 0) = 0) (hp1 : 0 ≤ Int32.toInt p2) (hp2 : Int32.toInt p2 ≤ 10) : dOk (zX4_signIn_s24_t5 q p2) (fun (o : Int32 × dK) => (o.2 = q) ∧ (-1 ≤ Int32.toInt o.1) ∧ (Int32.toInt o.1 ≤ Int32.toInt p2 + 1)) := by
  unfold zX4_signIn_s24_t5
  unfold zX4_signIn_s24_t5_2
  refine dFix_ok (fun (a : dK × Int32 × Int32) => (a.1 = q) ∧ (a.2.1 = p2) ∧ (0 ≤ Int32.toInt a.2.2) ∧ (Int32.toInt a.2.2 ≤ 2)) (fun (a : dK × Int32 × Int32) => (2 - Int32.toInt a.2.2).toNat) ?_ _ ?_ _ (dF_gt ?_)
  · intro a ha k_2 hk_1
    obtain ⟨q_3, x2_4, x3_5⟩ := a
    replace ha : (q_3 = q) ∧ (x2_4 = p2) ∧ (0 ≤ Int32.toInt x3_5) ∧ (Int32.toInt x3_5 ≤ 2) := ha
    obtain ⟨a_6, a_7, a_8, a_9⟩ := ha
    show dOk (zX4_signIn_s24_t5_2b  (fun q x2 x3 => k_2 (q, x2, x3)) q_3 x2_4 x3_5) _
    unfold zX4_signIn_s24_t5_2b
    subst q_3
    subst x2_4
    refine dOk_le (A := 2) (B := Int32.toInt x3_5) (by decide) rfl (fun c_10 => ?_) (fun c_11 => ?_)
    · exact dOk_some (show (q = q) ∧ (-1 ≤ (-1 : Int)) ∧ ((-1 : Int) ≤ Int32.toInt p2 + 1) from ⟨rfl, by omega, by omega⟩)
    · refine dOk_G (dg_ok (show 0 ≤ Int32.toInt x3_5 by omega) (show Int32.toInt x3_5 < ((2 : Nat) : Int) by omega)) ?_
      have n_12 : ((Int32.toNatClampNeg x3_5 : Nat) : Int) = Int32.toInt x3_5 := cl_eq (by omega)
      refine dOk_L (fun v_13 ev_13 => ?_)
      have w_14 : Int32.toInt v_13 = Int32.toInt (chV 5 x3_5) := by rw [ev_13]
      have f_15 : 0 ≤ Int32.toInt (q.1 24 0) ∧ Int32.toInt (q.1 24 0) ≤ 1 := rg_24_0 hT
      refine dOk_B (ok_X4_isSign_s24 q v_13 hT (show ¬ Int32.toInt (q.1 24 0) = 0 by omega)) (fun r_16 q_17 h_18 => ?_)
      replace h_18 : (q_17 = q) ∧ ((Int32.toInt r_16 = 0 ∨ Int32.toInt r_16 = 1)) := h_18
      obtain ⟨i_19, i_20⟩ := h_18
      subst q_17
      refine dOk_eq (A := Int32.toInt r_16) (B := 0) rfl (by decide) (fun c_21z c_21 => ?_) (fun c_22z c_22 => ?_)
      · try have t_24 : Int32.toInt (x3_5 + 1) = Int32.toInt x3_5 + 1 := ti_add rfl (by decide) (by omega) (by omega)
        exact hk_1 (q, p2, (x3_5 + 1)) (show (q = q) ∧ (p2 = p2) ∧ (0 ≤ Int32.toInt (x3_5 + 1)) ∧ (Int32.toInt (x3_5 + 1) ≤ 2) from ⟨rfl, rfl, by omega, by omega⟩) (show (2 - Int32.toInt (x3_5 + 1)).toNat < (2 - Int32.toInt x3_5).toNat by omega)
      · try have t_25 : Int32.toInt (p2 + x3_5) = Int32.toInt p2 + Int32.toInt x3_5 := ti_add rfl rfl (by omega) (by omega)
        exact dOk_some (show (q = q) ∧ (-1 ≤ Int32.toInt (p2 + x3_5)) ∧ (Int32.toInt (p2 + x3_5) ≤ Int32.toInt p2 + 1) from ⟨rfl, by omega, by omega⟩)
  · exact (show (q = q) ∧ (p2 = p2) ∧ (0 ≤ (0 : Int)) ∧ ((0 : Int) ≤ 2) from ⟨rfl, rfl, by omega, by omega⟩)
  · show (2 - (0 : Int)).toNat < 1000000000000
    omega

set_option maxHeartbeats 4000000 in
set_option maxRecDepth 100000 in
theorem ok_X4_isSame_s24_t6 (q : dK) (p2 : Int32) (p3 : Int32) (hT : TC q) (hp0 : ¬ Int32.toInt (q.1 24 0) = 0) (hp1 : 0 ≤ Int32.toInt p2) (hp2 : Int32.toInt p2 ≤ Int32.toInt p3) (hp3 : Int32.toInt p3 ≤ 5) : dOk (zX4_isSame_s24_t6 q p2 p3) (fun (o : Int32 × dK) => (o.2 = q) ∧ ((Int32.toInt o.1 = 0 ∨ Int32.toInt o.1 = 1))) := by
  unfold zX4_isSame_s24_t6
  try have t_1 : Int32.toInt (p3 - p2) = Int32.toInt p3 - Int32.toInt p2 := ti_sub rfl rfl (by omega) (by omega)
  have f_2 : 0 ≤ Int32.toInt (q.1 24 6) ∧ Int32.toInt (q.1 24 6) ≤ 400 := rg_24_6 hT
  have f_3 : 0 ≤ Int32.toInt (q.1 24 5) ∧ Int32.toInt (q.1 24 5) ≤ 400 := rg_24_5 hT
  try have t_4 : Int32.toInt (q.1 24 6 - q.1 24 5) = Int32.toInt (q.1 24 6) - Int32.toInt (q.1 24 5) := ti_sub rfl rfl (by omega) (by omega)
  refine dOk_eq (A := Int32.toInt (p3 - p2)) (B := Int32.toInt (q.1 24 6 - q.1 24 5)) rfl rfl (fun c_5z c_5 => ?_) (fun c_6z c_6 => ?_)
  · unfold zX4_isSame_s24_t6_20
    refine dFix_ok (fun (a : dK × Int32 × Int32 × Int32) => (a.1 = q) ∧ (a.2.1 = p2) ∧ (a.2.2.1 = p3) ∧ (Int32.toInt a.2.1 ≤ Int32.toInt a.2.2.2) ∧ (Int32.toInt a.2.2.2 ≤ 5)) (fun (a : dK × Int32 × Int32 × Int32) => (5 - Int32.toInt a.2.2.2).toNat) ?_ _ ?_ _ (dF_gt ?_)
    · intro a ha k_9 hk_8
      obtain ⟨q_10, x2_11, x3_12, x4_13⟩ := a
      replace ha : (q_10 = q) ∧ (x2_11 = p2) ∧ (x3_12 = p3) ∧ (Int32.toInt x2_11 ≤ Int32.toInt x4_13) ∧ (Int32.toInt x4_13 ≤ 5) := ha
      obtain ⟨a_14, a_15, a_16, a_17, a_18⟩ := ha
      show dOk (zX4_isSame_s24_t6_20b  (fun q x2 x3 x4 => k_9 (q, x2, x3, x4)) q_10 x2_11 x3_12 x4_13) _
      unfold zX4_isSame_s24_t6_20b
      subst q_10
      subst x2_11
      subst x3_12
      refine dOk_le (A := Int32.toInt p3) (B := Int32.toInt x4_13) rfl rfl (fun c_19 => ?_) (fun c_20 => ?_)
      · exact dOk_some (show (q = q) ∧ (((1 : Int) = 0 ∨ (1 : Int) = 1)) from ⟨rfl, by omega⟩)
      · refine dOk_G (dg_ok (show 0 ≤ Int32.toInt x4_13 by omega) (show Int32.toInt x4_13 < ((5 : Nat) : Int) by omega)) ?_
        have n_21 : ((Int32.toNatClampNeg x4_13 : Nat) : Int) = Int32.toInt x4_13 := cl_eq (by omega)
        refine dOk_L (fun v_22 ev_22 => ?_)
        have w_23 : Int32.toInt v_22 = Int32.toInt (chV 6 x4_13) := by rw [ev_22]
        have f_24 : 0 ≤ Int32.toInt (q.1 24 0) ∧ Int32.toInt (q.1 24 0) ≤ 1 := rg_24_0 hT
        refine dOk_G (dnz_ok (show ¬ Int32.toInt (q.1 24 0) = 0 by omega)) ?_
        try have t_25 : Int32.toInt (q.1 24 5 + x4_13) = Int32.toInt (q.1 24 5) + Int32.toInt x4_13 := ti_add rfl rfl (by omega) (by omega)
        try have t_26 : Int32.toInt (q.1 24 5 + x4_13 - p2) = Int32.toInt (q.1 24 5 + x4_13) - Int32.toInt p2 := ti_sub rfl rfl (by omega) (by omega)
        refine dOk_G (dg_ok (show 0 ≤ Int32.toInt (q.1 24 5 + x4_13 - p2) by omega) (show Int32.toInt (q.1 24 5 + x4_13 - p2) < ((400 : Nat) : Int) by omega)) ?_
        have n_27 : ((Int32.toNatClampNeg (q.1 24 5 + x4_13 - p2) : Nat) : Int) = Int32.toInt (q.1 24 5 + x4_13 - p2) := cl_eq (by omega)
        refine dOk_L (fun v_28 ev_28 => ?_)
        refine dOk_eq (A := Int32.toInt v_22) (B := Int32.toInt v_28) rfl rfl (fun c_29z c_29 => ?_) (fun c_30z c_30 => ?_)
        · try have t_32 : Int32.toInt (x4_13 + 1) = Int32.toInt x4_13 + 1 := ti_add rfl (by decide) (by omega) (by omega)
          exact hk_8 (q, p2, p3, (x4_13 + 1)) (show (q = q) ∧ (p2 = p2) ∧ (p3 = p3) ∧ (Int32.toInt p2 ≤ Int32.toInt (x4_13 + 1)) ∧ (Int32.toInt (x4_13 + 1) ≤ 5) from ⟨rfl, rfl, rfl, by omega, by omega⟩) (show (5 - Int32.toInt (x4_13 + 1)).toNat < (5 - Int32.toInt x4_13).toNat by omega)
        · exact dOk_some (show (q = q) ∧ (((0 : Int) = 0 ∨ (0 : Int) = 1)) from ⟨rfl, by omega⟩)
    · exact (show (q = q) ∧ (p2 = p2) ∧ (p3 = p3) ∧ (Int32.toInt p2 ≤ Int32.toInt p2) ∧ (Int32.toInt p2 ≤ 5) from ⟨rfl, rfl, rfl, by omega, by omega⟩)
    · show (5 - Int32.toInt p2).toNat < 1000000000000
      omega
  · exact dOk_some (show (q = q) ∧ (((0 : Int) = 0 ∨ (0 : Int) = 1)) from ⟨rfl, by omega⟩)

set_option maxHeartbeats 4000000 in
set_option maxRecDepth 100000 in
theorem ok_X4_isWord_s24_t6 (q : dK) (hT : TC q) (hp0 : ¬ Int32.toInt (q.1 24 0) = 0) : dOk (zX4_isWord_s24_t6 q) (fun (o : Int32 × dK) => (o.2 = q) ∧ ((Int32.toInt o.1 = 0 ∨ Int32.toInt o.1 = 1))) := by
  unfold zX4_isWord_s24_t6
  refine dOk_eq (A := Int32.toInt (q.1 24 4)) (B := 1) rfl (by decide) (fun c_1z c_1 => ?_) (fun c_2z c_2 => ?_)
  · have f_4 : 0 ≤ Int32.toInt (q.1 24 0) ∧ Int32.toInt (q.1 24 0) ≤ 1 := rg_24_0 hT
    refine dOk_B (ok_X4_isSame_s24_t6 q 0 5 hT (show ¬ Int32.toInt (q.1 24 0) = 0 by omega) (show 0 ≤ (0 : Int) by omega) (show (0 : Int) ≤ (5 : Int) by omega) (show (5 : Int) ≤ 5 by omega)) (fun r_5 q_6 h_7 => ?_)
    replace h_7 : (q_6 = q) ∧ ((Int32.toInt r_5 = 0 ∨ Int32.toInt r_5 = 1)) := h_7
    obtain ⟨i_8, i_9⟩ := h_7
    subst q_6
    refine dOk_eq (A := Int32.toInt r_5) (B := 0) rfl (by decide) (fun c_10z c_10 => ?_) (fun c_11z c_11 => ?_)
    · unfold zX4_isWord_s24_t6_25
      unfold zX4_isWord_s24_t6_26
      refine dOk_G (dbl_ok (show (0 : Int) = 0 ∨ (0 : Int) = 1 by omega)) ?_
      exact dOk_some (show (q = q) ∧ (((0 : Int) = 0 ∨ (0 : Int) = 1)) from ⟨rfl, by omega⟩)
    · unfold zX4_isWord_s24_t6_26
      refine dOk_G (dbl_ok (show (1 : Int) = 0 ∨ (1 : Int) = 1 by omega)) ?_
      exact dOk_some (show (q = q) ∧ (((1 : Int) = 0 ∨ (1 : Int) = 1)) from ⟨rfl, by omega⟩)
  · unfold zX4_isWord_s24_t6_25
    unfold zX4_isWord_s24_t6_26
    refine dOk_G (dbl_ok (show (0 : Int) = 0 ∨ (0 : Int) = 1 by omega)) ?_
    exact dOk_some (show (q = q) ∧ (((0 : Int) = 0 ∨ (0 : Int) = 1)) from ⟨rfl, by omega⟩)

set_option maxHeartbeats 4000000 in
set_option maxRecDepth 100000 in
theorem ok_X4_isSame_s24_t7 (q : dK) (p2 : Int32) (p3 : Int32) (hT : TC q) (hp0 : ¬ Int32.toInt (q.1 24 0) = 0) (hp1 : 0 ≤ Int32.toInt p2) (hp2 : Int32.toInt p2 ≤ Int32.toInt p3) (hp3 : Int32.toInt p3 ≤ 2) : dOk (zX4_isSame_s24_t7 q p2 p3) (fun (o : Int32 × dK) => (o.2 = q) ∧ ((Int32.toInt o.1 = 0 ∨ Int32.toInt o.1 = 1))) := by
  unfold zX4_isSame_s24_t7
  try have t_1 : Int32.toInt (p3 - p2) = Int32.toInt p3 - Int32.toInt p2 := ti_sub rfl rfl (by omega) (by omega)
  have f_2 : 0 ≤ Int32.toInt (q.1 24 6) ∧ Int32.toInt (q.1 24 6) ≤ 400 := rg_24_6 hT
  have f_3 : 0 ≤ Int32.toInt (q.1 24 5) ∧ Int32.toInt (q.1 24 5) ≤ 400 := rg_24_5 hT
  try have t_4 : Int32.toInt (q.1 24 6 - q.1 24 5) = Int32.toInt (q.1 24 6) - Int32.toInt (q.1 24 5) := ti_sub rfl rfl (by omega) (by omega)
  refine dOk_eq (A := Int32.toInt (p3 - p2)) (B := Int32.toInt (q.1 24 6 - q.1 24 5)) rfl rfl (fun c_5z c_5 => ?_) (fun c_6z c_6 => ?_)
  · unfold zX4_isSame_s24_t7_20
    refine dFix_ok (fun (a : dK × Int32 × Int32 × Int32) => (a.1 = q) ∧ (a.2.1 = p2) ∧ (a.2.2.1 = p3) ∧ (Int32.toInt a.2.1 ≤ Int32.toInt a.2.2.2) ∧ (Int32.toInt a.2.2.2 ≤ 2)) (fun (a : dK × Int32 × Int32 × Int32) => (2 - Int32.toInt a.2.2.2).toNat) ?_ _ ?_ _ (dF_gt ?_)
    · intro a ha k_9 hk_8
      obtain ⟨q_10, x2_11, x3_12, x4_13⟩ := a
      replace ha : (q_10 = q) ∧ (x2_11 = p2) ∧ (x3_12 = p3) ∧ (Int32.toInt x2_11 ≤ Int32.toInt x4_13) ∧ (Int32.toInt x4_13 ≤ 2) := ha
      obtain ⟨a_14, a_15, a_16, a_17, a_18⟩ := ha
      show dOk (zX4_isSame_s24_t7_20b  (fun q x2 x3 x4 => k_9 (q, x2, x3, x4)) q_10 x2_11 x3_12 x4_13) _
      unfold zX4_isSame_s24_t7_20b
      subst q_10
      subst x2_11
      subst x3_12
      refine dOk_le (A := Int32.toInt p3) (B := Int32.toInt x4_13) rfl rfl (fun c_19 => ?_) (fun c_20 => ?_)
      · exact dOk_some (show (q = q) ∧ (((1 : Int) = 0 ∨ (1 : Int) = 1)) from ⟨rfl, by omega⟩)
      · refine dOk_G (dg_ok (show 0 ≤ Int32.toInt x4_13 by omega) (show Int32.toInt x4_13 < ((2 : Nat) : Int) by omega)) ?_
        have n_21 : ((Int32.toNatClampNeg x4_13 : Nat) : Int) = Int32.toInt x4_13 := cl_eq (by omega)
        refine dOk_L (fun v_22 ev_22 => ?_)
        have w_23 : Int32.toInt v_22 = Int32.toInt (chV 7 x4_13) := by rw [ev_22]
        have f_24 : 0 ≤ Int32.toInt (q.1 24 0) ∧ Int32.toInt (q.1 24 0) ≤ 1 := rg_24_0 hT
        refine dOk_G (dnz_ok (show ¬ Int32.toInt (q.1 24 0) = 0 by omega)) ?_
        try have t_25 : Int32.toInt (q.1 24 5 + x4_13) = Int32.toInt (q.1 24 5) + Int32.toInt x4_13 := ti_add rfl rfl (by omega) (by omega)
        try have t_26 : Int32.toInt (q.1 24 5 + x4_13 - p2) = Int32.toInt (q.1 24 5 + x4_13) - Int32.toInt p2 := ti_sub rfl rfl (by omega) (by omega)
        refine dOk_G (dg_ok (show 0 ≤ Int32.toInt (q.1 24 5 + x4_13 - p2) by omega) (show Int32.toInt (q.1 24 5 + x4_13 - p2) < ((400 : Nat) : Int) by omega)) ?_
        have n_27 : ((Int32.toNatClampNeg (q.1 24 5 + x4_13 - p2) : Nat) : Int) = Int32.toInt (q.1 24 5 + x4_13 - p2) := cl_eq (by omega)
        refine dOk_L (fun v_28 ev_28 => ?_)
        refine dOk_eq (A := Int32.toInt v_22) (B := Int32.toInt v_28) rfl rfl (fun c_29z c_29 => ?_) (fun c_30z c_30 => ?_)
        · try have t_32 : Int32.toInt (x4_13 + 1) = Int32.toInt x4_13 + 1 := ti_add rfl (by decide) (by omega) (by omega)
          exact hk_8 (q, p2, p3, (x4_13 + 1)) (show (q = q) ∧ (p2 = p2) ∧ (p3 = p3) ∧ (Int32.toInt p2 ≤ Int32.toInt (x4_13 + 1)) ∧ (Int32.toInt (x4_13 + 1) ≤ 2) from ⟨rfl, rfl, rfl, by omega, by omega⟩) (show (2 - Int32.toInt (x4_13 + 1)).toNat < (2 - Int32.toInt x4_13).toNat by omega)
        · exact dOk_some (show (q = q) ∧ (((0 : Int) = 0 ∨ (0 : Int) = 1)) from ⟨rfl, by omega⟩)
    · exact (show (q = q) ∧ (p2 = p2) ∧ (p3 = p3) ∧ (Int32.toInt p2 ≤ Int32.toInt p2) ∧ (Int32.toInt p2 ≤ 2) from ⟨rfl, rfl, rfl, by omega, by omega⟩)
    · show (2 - Int32.toInt p2).toNat < 1000000000000
      omega
  · exact dOk_some (show (q = q) ∧ (((0 : Int) = 0 ∨ (0 : Int) = 1)) from ⟨rfl, by omega⟩)

set_option maxHeartbeats 4000000 in
set_option maxRecDepth 100000 in
theorem ok_X4_isWord_s24_t7 (q : dK) (hT : TC q) (hp0 : ¬ Int32.toInt (q.1 24 0) = 0) : dOk (zX4_isWord_s24_t7 q) (fun (o : Int32 × dK) => (o.2 = q) ∧ ((Int32.toInt o.1 = 0 ∨ Int32.toInt o.1 = 1))) := by
  unfold zX4_isWord_s24_t7
  refine dOk_eq (A := Int32.toInt (q.1 24 4)) (B := 1) rfl (by decide) (fun c_1z c_1 => ?_) (fun c_2z c_2 => ?_)
  · have f_4 : 0 ≤ Int32.toInt (q.1 24 0) ∧ Int32.toInt (q.1 24 0) ≤ 1 := rg_24_0 hT
    refine dOk_B (ok_X4_isSame_s24_t7 q 0 2 hT (show ¬ Int32.toInt (q.1 24 0) = 0 by omega) (show 0 ≤ (0 : Int) by omega) (show (0 : Int) ≤ (2 : Int) by omega) (show (2 : Int) ≤ 2 by omega)) (fun r_5 q_6 h_7 => ?_)
    replace h_7 : (q_6 = q) ∧ ((Int32.toInt r_5 = 0 ∨ Int32.toInt r_5 = 1)) := h_7
    obtain ⟨i_8, i_9⟩ := h_7
    subst q_6
    refine dOk_eq (A := Int32.toInt r_5) (B := 0) rfl (by decide) (fun c_10z c_10 => ?_) (fun c_11z c_11 => ?_)
    · unfold zX4_isWord_s24_t7_25
      unfold zX4_isWord_s24_t7_26
      refine dOk_G (dbl_ok (show (0 : Int) = 0 ∨ (0 : Int) = 1 by omega)) ?_
      exact dOk_some (show (q = q) ∧ (((0 : Int) = 0 ∨ (0 : Int) = 1)) from ⟨rfl, by omega⟩)
    · unfold zX4_isWord_s24_t7_26
      refine dOk_G (dbl_ok (show (1 : Int) = 0 ∨ (1 : Int) = 1 by omega)) ?_
      exact dOk_some (show (q = q) ∧ (((1 : Int) = 0 ∨ (1 : Int) = 1)) from ⟨rfl, by omega⟩)
  · unfold zX4_isWord_s24_t7_25
    unfold zX4_isWord_s24_t7_26
    refine dOk_G (dbl_ok (show (0 : Int) = 0 ∨ (0 : Int) = 1 by omega)) ?_
    exact dOk_some (show (q = q) ∧ (((0 : Int) = 0 ∨ (0 : Int) = 1)) from ⟨rfl, by omega⟩)
end
section
set_option maxHeartbeats 4000000 in
set_option maxRecDepth 100000 in
theorem ok_X4_isSame_s24_t8 (q : dK) (p2 : Int32) (p3 : Int32) (hT : TC q) (hp0 : ¬ Int32.toInt (q.1 24 0) = 0) (hp1 : 0 ≤ Int32.toInt p2) (hp2 : Int32.toInt p2 ≤ Int32.toInt p3) (hp3 : Int32.toInt p3 ≤ 3) : dOk (zX4_isSame_s24_t8 q p2 p3) (fun (o : Int32 × dK) => (o.2 = q) ∧ ((Int32.toInt o.1 = 0 ∨ Int32.toInt o.1 = 1))) := by
  unfold zX4_isSame_s24_t8
  try have t_1 : Int32.toInt (p3 - p2) = Int32.toInt p3 - Int32.toInt p2 := ti_sub rfl rfl (by omega) (by omega)
  have f_2 : 0 ≤ Int32.toInt (q.1 24 6) ∧ Int32.toInt (q.1 24 6) ≤ 400 := rg_24_6 hT
  have f_3 : 0 ≤ Int32.toInt (q.1 24 5) ∧ Int32.toInt (q.1 24 5) ≤ 400 := rg_24_5 hT
  try have t_4 : Int32.toInt (q.1 24 6 - q.1 24 5) = Int32.toInt (q.1 24 6) - Int32.toInt (q.1 24 5) := ti_sub rfl rfl (by omega) (by omega)
  refine dOk_eq (A := Int32.toInt (p3 - p2)) (B := Int32.toInt (q.1 24 6 - q.1 24 5)) rfl rfl (fun c_5z c_5 => ?_) (fun c_6z c_6 => ?_)
  · unfold zX4_isSame_s24_t8_20
    refine dFix_ok (fun (a : dK × Int32 × Int32 × Int32) => (a.1 = q) ∧ (a.2.1 = p2) ∧ (a.2.2.1 = p3) ∧ (Int32.toInt a.2.1 ≤ Int32.toInt a.2.2.2) ∧ (Int32.toInt a.2.2.2 ≤ 3)) (fun (a : dK × Int32 × Int32 × Int32) => (3 - Int32.toInt a.2.2.2).toNat) ?_ _ ?_ _ (dF_gt ?_)
    · intro a ha k_9 hk_8
      obtain ⟨q_10, x2_11, x3_12, x4_13⟩ := a
      replace ha : (q_10 = q) ∧ (x2_11 = p2) ∧ (x3_12 = p3) ∧ (Int32.toInt x2_11 ≤ Int32.toInt x4_13) ∧ (Int32.toInt x4_13 ≤ 3) := ha
      obtain ⟨a_14, a_15, a_16, a_17, a_18⟩ := ha
      show dOk (zX4_isSame_s24_t8_20b  (fun q x2 x3 x4 => k_9 (q, x2, x3, x4)) q_10 x2_11 x3_12 x4_13) _
      unfold zX4_isSame_s24_t8_20b
      subst q_10
      subst x2_11
      subst x3_12
      refine dOk_le (A := Int32.toInt p3) (B := Int32.toInt x4_13) rfl rfl (fun c_19 => ?_) (fun c_20 => ?_)
      · exact dOk_some (show (q = q) ∧ (((1 : Int) = 0 ∨ (1 : Int) = 1)) from ⟨rfl, by omega⟩)
      · refine dOk_G (dg_ok (show 0 ≤ Int32.toInt x4_13 by omega) (show Int32.toInt x4_13 < ((3 : Nat) : Int) by omega)) ?_
        have n_21 : ((Int32.toNatClampNeg x4_13 : Nat) : Int) = Int32.toInt x4_13 := cl_eq (by omega)
        refine dOk_L (fun v_22 ev_22 => ?_)
        have w_23 : Int32.toInt v_22 = Int32.toInt (chV 8 x4_13) := by rw [ev_22]
        have f_24 : 0 ≤ Int32.toInt (q.1 24 0) ∧ Int32.toInt (q.1 24 0) ≤ 1 := rg_24_0 hT
        refine dOk_G (dnz_ok (show ¬ Int32.toInt (q.1 24 0) = 0 by omega)) ?_
        try have t_25 : Int32.toInt (q.1 24 5 + x4_13) = Int32.toInt (q.1 24 5) + Int32.toInt x4_13 := ti_add rfl rfl (by omega) (by omega)
        try have t_26 : Int32.toInt (q.1 24 5 + x4_13 - p2) = Int32.toInt (q.1 24 5 + x4_13) - Int32.toInt p2 := ti_sub rfl rfl (by omega) (by omega)
        refine dOk_G (dg_ok (show 0 ≤ Int32.toInt (q.1 24 5 + x4_13 - p2) by omega) (show Int32.toInt (q.1 24 5 + x4_13 - p2) < ((400 : Nat) : Int) by omega)) ?_
        have n_27 : ((Int32.toNatClampNeg (q.1 24 5 + x4_13 - p2) : Nat) : Int) = Int32.toInt (q.1 24 5 + x4_13 - p2) := cl_eq (by omega)
        refine dOk_L (fun v_28 ev_28 => ?_)
        refine dOk_eq (A := Int32.toInt v_22) (B := Int32.toInt v_28) rfl rfl (fun c_29z c_29 => ?_) (fun c_30z c_30 => ?_)
        · try have t_32 : Int32.toInt (x4_13 + 1) = Int32.toInt x4_13 + 1 := ti_add rfl (by decide) (by omega) (by omega)
          exact hk_8 (q, p2, p3, (x4_13 + 1)) (show (q = q) ∧ (p2 = p2) ∧ (p3 = p3) ∧ (Int32.toInt p2 ≤ Int32.toInt (x4_13 + 1)) ∧ (Int32.toInt (x4_13 + 1) ≤ 3) from ⟨rfl, rfl, rfl, by omega, by omega⟩) (show (3 - Int32.toInt (x4_13 + 1)).toNat < (3 - Int32.toInt x4_13).toNat by omega)
        · exact dOk_some (show (q = q) ∧ (((0 : Int) = 0 ∨ (0 : Int) = 1)) from ⟨rfl, by omega⟩)
    · exact (show (q = q) ∧ (p2 = p2) ∧ (p3 = p3) ∧ (Int32.toInt p2 ≤ Int32.toInt p2) ∧ (Int32.toInt p2 ≤ 3) from ⟨rfl, rfl, rfl, by omega, by omega⟩)
    · show (3 - Int32.toInt p2).toNat < 1000000000000
      omega
  · exact dOk_some (show (q = q) ∧ (((0 : Int) = 0 ∨ (0 : Int) = 1)) from ⟨rfl, by omega⟩)

set_option maxHeartbeats 4000000 in
set_option maxRecDepth 100000 in
theorem ok_X4_isWord_s24_t8 (q : dK) (hT : TC q) (hp0 : ¬ Int32.toInt (q.1 24 0) = 0) : dOk (zX4_isWord_s24_t8 q) (fun (o : Int32 × dK) => (o.2 = q) ∧ ((Int32.toInt o.1 = 0 ∨ Int32.toInt o.1 = 1))) := by
  unfold zX4_isWord_s24_t8
  refine dOk_eq (A := Int32.toInt (q.1 24 4)) (B := 1) rfl (by decide) (fun c_1z c_1 => ?_) (fun c_2z c_2 => ?_)
  · have f_4 : 0 ≤ Int32.toInt (q.1 24 0) ∧ Int32.toInt (q.1 24 0) ≤ 1 := rg_24_0 hT
    refine dOk_B (ok_X4_isSame_s24_t8 q 0 3 hT (show ¬ Int32.toInt (q.1 24 0) = 0 by omega) (show 0 ≤ (0 : Int) by omega) (show (0 : Int) ≤ (3 : Int) by omega) (show (3 : Int) ≤ 3 by omega)) (fun r_5 q_6 h_7 => ?_)
    replace h_7 : (q_6 = q) ∧ ((Int32.toInt r_5 = 0 ∨ Int32.toInt r_5 = 1)) := h_7
    obtain ⟨i_8, i_9⟩ := h_7
    subst q_6
    refine dOk_eq (A := Int32.toInt r_5) (B := 0) rfl (by decide) (fun c_10z c_10 => ?_) (fun c_11z c_11 => ?_)
    · unfold zX4_isWord_s24_t8_25
      unfold zX4_isWord_s24_t8_26
      refine dOk_G (dbl_ok (show (0 : Int) = 0 ∨ (0 : Int) = 1 by omega)) ?_
      exact dOk_some (show (q = q) ∧ (((0 : Int) = 0 ∨ (0 : Int) = 1)) from ⟨rfl, by omega⟩)
    · unfold zX4_isWord_s24_t8_26
      refine dOk_G (dbl_ok (show (1 : Int) = 0 ∨ (1 : Int) = 1 by omega)) ?_
      exact dOk_some (show (q = q) ∧ (((1 : Int) = 0 ∨ (1 : Int) = 1)) from ⟨rfl, by omega⟩)
  · unfold zX4_isWord_s24_t8_25
    unfold zX4_isWord_s24_t8_26
    refine dOk_G (dbl_ok (show (0 : Int) = 0 ∨ (0 : Int) = 1 by omega)) ?_
    exact dOk_some (show (q = q) ∧ (((0 : Int) = 0 ∨ (0 : Int) = 1)) from ⟨rfl, by omega⟩)

set_option maxHeartbeats 4000000 in
set_option maxRecDepth 100000 in
theorem ok_X4_signIn_s24_t9 (q : dK) (p2 : Int32) (hT : TC q) (hp0 : ¬ Int32.toInt (q.1 24 0) = 0) (hp1 : 0 ≤ Int32.toInt p2) (hp2 : Int32.toInt p2 ≤ 10) : dOk (zX4_signIn_s24_t9 q p2) (fun (o : Int32 × dK) => (o.2 = q) ∧ (-1 ≤ Int32.toInt o.1) ∧ (Int32.toInt o.1 ≤ Int32.toInt p2 + 2)) := by
  unfold zX4_signIn_s24_t9
  unfold zX4_signIn_s24_t9_2
  refine dFix_ok (fun (a : dK × Int32 × Int32) => (a.1 = q) ∧ (a.2.1 = p2) ∧ (0 ≤ Int32.toInt a.2.2) ∧ (Int32.toInt a.2.2 ≤ 3)) (fun (a : dK × Int32 × Int32) => (3 - Int32.toInt a.2.2).toNat) ?_ _ ?_ _ (dF_gt ?_)
  · intro a ha k_2 hk_1
    obtain ⟨q_3, x2_4, x3_5⟩ := a
    replace ha : (q_3 = q) ∧ (x2_4 = p2) ∧ (0 ≤ Int32.toInt x3_5) ∧ (Int32.toInt x3_5 ≤ 3) := ha
    obtain ⟨a_6, a_7, a_8, a_9⟩ := ha
    show dOk (zX4_signIn_s24_t9_2b  (fun q x2 x3 => k_2 (q, x2, x3)) q_3 x2_4 x3_5) _
    unfold zX4_signIn_s24_t9_2b
    subst q_3
    subst x2_4
    refine dOk_le (A := 3) (B := Int32.toInt x3_5) (by decide) rfl (fun c_10 => ?_) (fun c_11 => ?_)
    · exact dOk_some (show (q = q) ∧ (-1 ≤ (-1 : Int)) ∧ ((-1 : Int) ≤ Int32.toInt p2 + 2) from ⟨rfl, by omega, by omega⟩)
    · refine dOk_G (dg_ok (show 0 ≤ Int32.toInt x3_5 by omega) (show Int32.toInt x3_5 < ((3 : Nat) : Int) by omega)) ?_
      have n_12 : ((Int32.toNatClampNeg x3_5 : Nat) : Int) = Int32.toInt x3_5 := cl_eq (by omega)
      refine dOk_L (fun v_13 ev_13 => ?_)
      have w_14 : Int32.toInt v_13 = Int32.toInt (chV 9 x3_5) := by rw [ev_13]
      have f_15 : 0 ≤ Int32.toInt (q.1 24 0) ∧ Int32.toInt (q.1 24 0) ≤ 1 := rg_24_0 hT
      refine dOk_B (ok_X4_isSign_s24 q v_13 hT (show ¬ Int32.toInt (q.1 24 0) = 0 by omega)) (fun r_16 q_17 h_18 => ?_)
      replace h_18 : (q_17 = q) ∧ ((Int32.toInt r_16 = 0 ∨ Int32.toInt r_16 = 1)) := h_18
      obtain ⟨i_19, i_20⟩ := h_18
      subst q_17
      refine dOk_eq (A := Int32.toInt r_16) (B := 0) rfl (by decide) (fun c_21z c_21 => ?_) (fun c_22z c_22 => ?_)
      · try have t_24 : Int32.toInt (x3_5 + 1) = Int32.toInt x3_5 + 1 := ti_add rfl (by decide) (by omega) (by omega)
        exact hk_1 (q, p2, (x3_5 + 1)) (show (q = q) ∧ (p2 = p2) ∧ (0 ≤ Int32.toInt (x3_5 + 1)) ∧ (Int32.toInt (x3_5 + 1) ≤ 3) from ⟨rfl, rfl, by omega, by omega⟩) (show (3 - Int32.toInt (x3_5 + 1)).toNat < (3 - Int32.toInt x3_5).toNat by omega)
      · try have t_25 : Int32.toInt (p2 + x3_5) = Int32.toInt p2 + Int32.toInt x3_5 := ti_add rfl rfl (by omega) (by omega)
        exact dOk_some (show (q = q) ∧ (-1 ≤ Int32.toInt (p2 + x3_5)) ∧ (Int32.toInt (p2 + x3_5) ≤ Int32.toInt p2 + 2) from ⟨rfl, by omega, by omega⟩)
  · exact (show (q = q) ∧ (p2 = p2) ∧ (0 ≤ (0 : Int)) ∧ ((0 : Int) ≤ 3) from ⟨rfl, rfl, by omega, by omega⟩)
  · show (3 - (0 : Int)).toNat < 1000000000000
    omega

set_option maxHeartbeats 4000000 in
set_option maxRecDepth 100000 in
theorem ok_X4_isSame_s24_t10 (q : dK) (p2 : Int32) (p3 : Int32) (hT : TC q) (hp0 : ¬ Int32.toInt (q.1 24 0) = 0) (hp1 : 0 ≤ Int32.toInt p2) (hp2 : Int32.toInt p2 ≤ Int32.toInt p3) (hp3 : Int32.toInt p3 ≤ 3) : dOk (zX4_isSame_s24_t10 q p2 p3) (fun (o : Int32 × dK) => (o.2 = q) ∧ ((Int32.toInt o.1 = 0 ∨ Int32.toInt o.1 = 1))) := by
  unfold zX4_isSame_s24_t10
  try have t_1 : Int32.toInt (p3 - p2) = Int32.toInt p3 - Int32.toInt p2 := ti_sub rfl rfl (by omega) (by omega)
  have f_2 : 0 ≤ Int32.toInt (q.1 24 6) ∧ Int32.toInt (q.1 24 6) ≤ 400 := rg_24_6 hT
  have f_3 : 0 ≤ Int32.toInt (q.1 24 5) ∧ Int32.toInt (q.1 24 5) ≤ 400 := rg_24_5 hT
  try have t_4 : Int32.toInt (q.1 24 6 - q.1 24 5) = Int32.toInt (q.1 24 6) - Int32.toInt (q.1 24 5) := ti_sub rfl rfl (by omega) (by omega)
  refine dOk_eq (A := Int32.toInt (p3 - p2)) (B := Int32.toInt (q.1 24 6 - q.1 24 5)) rfl rfl (fun c_5z c_5 => ?_) (fun c_6z c_6 => ?_)
  · unfold zX4_isSame_s24_t10_20
    refine dFix_ok (fun (a : dK × Int32 × Int32 × Int32) => (a.1 = q) ∧ (a.2.1 = p2) ∧ (a.2.2.1 = p3) ∧ (Int32.toInt a.2.1 ≤ Int32.toInt a.2.2.2) ∧ (Int32.toInt a.2.2.2 ≤ 3)) (fun (a : dK × Int32 × Int32 × Int32) => (3 - Int32.toInt a.2.2.2).toNat) ?_ _ ?_ _ (dF_gt ?_)
    · intro a ha k_9 hk_8
      obtain ⟨q_10, x2_11, x3_12, x4_13⟩ := a
      replace ha : (q_10 = q) ∧ (x2_11 = p2) ∧ (x3_12 = p3) ∧ (Int32.toInt x2_11 ≤ Int32.toInt x4_13) ∧ (Int32.toInt x4_13 ≤ 3) := ha
      obtain ⟨a_14, a_15, a_16, a_17, a_18⟩ := ha
      show dOk (zX4_isSame_s24_t10_20b  (fun q x2 x3 x4 => k_9 (q, x2, x3, x4)) q_10 x2_11 x3_12 x4_13) _
      unfold zX4_isSame_s24_t10_20b
      subst q_10
      subst x2_11
      subst x3_12
      refine dOk_le (A := Int32.toInt p3) (B := Int32.toInt x4_13) rfl rfl (fun c_19 => ?_) (fun c_20 => ?_)
      · exact dOk_some (show (q = q) ∧ (((1 : Int) = 0 ∨ (1 : Int) = 1)) from ⟨rfl, by omega⟩)
      · refine dOk_G (dg_ok (show 0 ≤ Int32.toInt x4_13 by omega) (show Int32.toInt x4_13 < ((3 : Nat) : Int) by omega)) ?_
        have n_21 : ((Int32.toNatClampNeg x4_13 : Nat) : Int) = Int32.toInt x4_13 := cl_eq (by omega)
        refine dOk_L (fun v_22 ev_22 => ?_)
        have w_23 : Int32.toInt v_22 = Int32.toInt (chV 10 x4_13) := by rw [ev_22]
        have f_24 : 0 ≤ Int32.toInt (q.1 24 0) ∧ Int32.toInt (q.1 24 0) ≤ 1 := rg_24_0 hT
        refine dOk_G (dnz_ok (show ¬ Int32.toInt (q.1 24 0) = 0 by omega)) ?_
        try have t_25 : Int32.toInt (q.1 24 5 + x4_13) = Int32.toInt (q.1 24 5) + Int32.toInt x4_13 := ti_add rfl rfl (by omega) (by omega)
        try have t_26 : Int32.toInt (q.1 24 5 + x4_13 - p2) = Int32.toInt (q.1 24 5 + x4_13) - Int32.toInt p2 := ti_sub rfl rfl (by omega) (by omega)
        refine dOk_G (dg_ok (show 0 ≤ Int32.toInt (q.1 24 5 + x4_13 - p2) by omega) (show Int32.toInt (q.1 24 5 + x4_13 - p2) < ((400 : Nat) : Int) by omega)) ?_
        have n_27 : ((Int32.toNatClampNeg (q.1 24 5 + x4_13 - p2) : Nat) : Int) = Int32.toInt (q.1 24 5 + x4_13 - p2) := cl_eq (by omega)
        refine dOk_L (fun v_28 ev_28 => ?_)
        refine dOk_eq (A := Int32.toInt v_22) (B := Int32.toInt v_28) rfl rfl (fun c_29z c_29 => ?_) (fun c_30z c_30 => ?_)
        · try have t_32 : Int32.toInt (x4_13 + 1) = Int32.toInt x4_13 + 1 := ti_add rfl (by decide) (by omega) (by omega)
          exact hk_8 (q, p2, p3, (x4_13 + 1)) (show (q = q) ∧ (p2 = p2) ∧ (p3 = p3) ∧ (Int32.toInt p2 ≤ Int32.toInt (x4_13 + 1)) ∧ (Int32.toInt (x4_13 + 1) ≤ 3) from ⟨rfl, rfl, rfl, by omega, by omega⟩) (show (3 - Int32.toInt (x4_13 + 1)).toNat < (3 - Int32.toInt x4_13).toNat by omega)
        · exact dOk_some (show (q = q) ∧ (((0 : Int) = 0 ∨ (0 : Int) = 1)) from ⟨rfl, by omega⟩)
    · exact (show (q = q) ∧ (p2 = p2) ∧ (p3 = p3) ∧ (Int32.toInt p2 ≤ Int32.toInt p2) ∧ (Int32.toInt p2 ≤ 3) from ⟨rfl, rfl, rfl, by omega, by omega⟩)
    · show (3 - Int32.toInt p2).toNat < 1000000000000
      omega
  · exact dOk_some (show (q = q) ∧ (((0 : Int) = 0 ∨ (0 : Int) = 1)) from ⟨rfl, by omega⟩)

set_option maxHeartbeats 4000000 in
set_option maxRecDepth 100000 in
theorem ok_X4_isWord_s24_t10 (q : dK) (hT : TC q) (hp0 : ¬ Int32.toInt (q.1 24 0) = 0) : dOk (zX4_isWord_s24_t10 q) (fun (o : Int32 × dK) => (o.2 = q) ∧ ((Int32.toInt o.1 = 0 ∨ Int32.toInt o.1 = 1))) := by
  unfold zX4_isWord_s24_t10
  refine dOk_eq (A := Int32.toInt (q.1 24 4)) (B := 1) rfl (by decide) (fun c_1z c_1 => ?_) (fun c_2z c_2 => ?_)
  · have f_4 : 0 ≤ Int32.toInt (q.1 24 0) ∧ Int32.toInt (q.1 24 0) ≤ 1 := rg_24_0 hT
    refine dOk_B (ok_X4_isSame_s24_t10 q 0 3 hT (show ¬ Int32.toInt (q.1 24 0) = 0 by omega) (show 0 ≤ (0 : Int) by omega) (show (0 : Int) ≤ (3 : Int) by omega) (show (3 : Int) ≤ 3 by omega)) (fun r_5 q_6 h_7 => ?_)
    replace h_7 : (q_6 = q) ∧ ((Int32.toInt r_5 = 0 ∨ Int32.toInt r_5 = 1)) := h_7
    obtain ⟨i_8, i_9⟩ := h_7
    subst q_6
    refine dOk_eq (A := Int32.toInt r_5) (B := 0) rfl (by decide) (fun c_10z c_10 => ?_) (fun c_11z c_11 => ?_)
    · unfold zX4_isWord_s24_t10_25
      unfold zX4_isWord_s24_t10_26
      refine dOk_G (dbl_ok (show (0 : Int) = 0 ∨ (0 : Int) = 1 by omega)) ?_
      exact dOk_some (show (q = q) ∧ (((0 : Int) = 0 ∨ (0 : Int) = 1)) from ⟨rfl, by omega⟩)
    · unfold zX4_isWord_s24_t10_26
      refine dOk_G (dbl_ok (show (1 : Int) = 0 ∨ (1 : Int) = 1 by omega)) ?_
      exact dOk_some (show (q = q) ∧ (((1 : Int) = 0 ∨ (1 : Int) = 1)) from ⟨rfl, by omega⟩)
  · unfold zX4_isWord_s24_t10_25
    unfold zX4_isWord_s24_t10_26
    refine dOk_G (dbl_ok (show (0 : Int) = 0 ∨ (0 : Int) = 1 by omega)) ?_
    exact dOk_some (show (q = q) ∧ (((0 : Int) = 0 ∨ (0 : Int) = 1)) from ⟨rfl, by omega⟩)

set_option maxHeartbeats 4000000 in
set_option maxRecDepth 100000 in
theorem ok_X4_isSame_s24_t11 (q : dK) (p2 : Int32) (p3 : Int32) (hT : TC q) (hp0 : ¬ Int32.toInt (q.1 24 0) = 0) (hp1 : 0 ≤ Int32.toInt p2) (hp2 : Int32.toInt p2 ≤ Int32.toInt p3) (hp3 : Int32.toInt p3 ≤ 2) : dOk (zX4_isSame_s24_t11 q p2 p3) (fun (o : Int32 × dK) => (o.2 = q) ∧ ((Int32.toInt o.1 = 0 ∨ Int32.toInt o.1 = 1))) := by
  unfold zX4_isSame_s24_t11
  try have t_1 : Int32.toInt (p3 - p2) = Int32.toInt p3 - Int32.toInt p2 := ti_sub rfl rfl (by omega) (by omega)
  have f_2 : 0 ≤ Int32.toInt (q.1 24 6) ∧ Int32.toInt (q.1 24 6) ≤ 400 := rg_24_6 hT
  have f_3 : 0 ≤ Int32.toInt (q.1 24 5) ∧ Int32.toInt (q.1 24 5) ≤ 400 := rg_24_5 hT
  try have t_4 : Int32.toInt (q.1 24 6 - q.1 24 5) = Int32.toInt (q.1 24 6) - Int32.toInt (q.1 24 5) := ti_sub rfl rfl (by omega) (by omega)
  refine dOk_eq (A := Int32.toInt (p3 - p2)) (B := Int32.toInt (q.1 24 6 - q.1 24 5)) rfl rfl (fun c_5z c_5 => ?_) (fun c_6z c_6 => ?_)
  · unfold zX4_isSame_s24_t11_20
    refine dFix_ok (fun (a : dK × Int32 × Int32 × Int32) => (a.1 = q) ∧ (a.2.1 = p2) ∧ (a.2.2.1 = p3) ∧ (Int32.toInt a.2.1 ≤ Int32.toInt a.2.2.2) ∧ (Int32.toInt a.2.2.2 ≤ 2)) (fun (a : dK × Int32 × Int32 × Int32) => (2 - Int32.toInt a.2.2.2).toNat) ?_ _ ?_ _ (dF_gt ?_)
    · intro a ha k_9 hk_8
      obtain ⟨q_10, x2_11, x3_12, x4_13⟩ := a
      replace ha : (q_10 = q) ∧ (x2_11 = p2) ∧ (x3_12 = p3) ∧ (Int32.toInt x2_11 ≤ Int32.toInt x4_13) ∧ (Int32.toInt x4_13 ≤ 2) := ha
      obtain ⟨a_14, a_15, a_16, a_17, a_18⟩ := ha
      show dOk (zX4_isSame_s24_t11_20b  (fun q x2 x3 x4 => k_9 (q, x2, x3, x4)) q_10 x2_11 x3_12 x4_13) _
      unfold zX4_isSame_s24_t11_20b
      subst q_10
      subst x2_11
      subst x3_12
      refine dOk_le (A := Int32.toInt p3) (B := Int32.toInt x4_13) rfl rfl (fun c_19 => ?_) (fun c_20 => ?_)
      · exact dOk_some (show (q = q) ∧ (((1 : Int) = 0 ∨ (1 : Int) = 1)) from ⟨rfl, by omega⟩)
      · refine dOk_G (dg_ok (show 0 ≤ Int32.toInt x4_13 by omega) (show Int32.toInt x4_13 < ((2 : Nat) : Int) by omega)) ?_
        have n_21 : ((Int32.toNatClampNeg x4_13 : Nat) : Int) = Int32.toInt x4_13 := cl_eq (by omega)
        refine dOk_L (fun v_22 ev_22 => ?_)
        have w_23 : Int32.toInt v_22 = Int32.toInt (chV 11 x4_13) := by rw [ev_22]
        have f_24 : 0 ≤ Int32.toInt (q.1 24 0) ∧ Int32.toInt (q.1 24 0) ≤ 1 := rg_24_0 hT
        refine dOk_G (dnz_ok (show ¬ Int32.toInt (q.1 24 0) = 0 by omega)) ?_
        try have t_25 : Int32.toInt (q.1 24 5 + x4_13) = Int32.toInt (q.1 24 5) + Int32.toInt x4_13 := ti_add rfl rfl (by omega) (by omega)
        try have t_26 : Int32.toInt (q.1 24 5 + x4_13 - p2) = Int32.toInt (q.1 24 5 + x4_13) - Int32.toInt p2 := ti_sub rfl rfl (by omega) (by omega)
        refine dOk_G (dg_ok (show 0 ≤ Int32.toInt (q.1 24 5 + x4_13 - p2) by omega) (show Int32.toInt (q.1 24 5 + x4_13 - p2) < ((400 : Nat) : Int) by omega)) ?_
        have n_27 : ((Int32.toNatClampNeg (q.1 24 5 + x4_13 - p2) : Nat) : Int) = Int32.toInt (q.1 24 5 + x4_13 - p2) := cl_eq (by omega)
        refine dOk_L (fun v_28 ev_28 => ?_)
        refine dOk_eq (A := Int32.toInt v_22) (B := Int32.toInt v_28) rfl rfl (fun c_29z c_29 => ?_) (fun c_30z c_30 => ?_)
        · try have t_32 : Int32.toInt (x4_13 + 1) = Int32.toInt x4_13 + 1 := ti_add rfl (by decide) (by omega) (by omega)
          exact hk_8 (q, p2, p3, (x4_13 + 1)) (show (q = q) ∧ (p2 = p2) ∧ (p3 = p3) ∧ (Int32.toInt p2 ≤ Int32.toInt (x4_13 + 1)) ∧ (Int32.toInt (x4_13 + 1) ≤ 2) from ⟨rfl, rfl, rfl, by omega, by omega⟩) (show (2 - Int32.toInt (x4_13 + 1)).toNat < (2 - Int32.toInt x4_13).toNat by omega)
        · exact dOk_some (show (q = q) ∧ (((0 : Int) = 0 ∨ (0 : Int) = 1)) from ⟨rfl, by omega⟩)
    · exact (show (q = q) ∧ (p2 = p2) ∧ (p3 = p3) ∧ (Int32.toInt p2 ≤ Int32.toInt p2) ∧ (Int32.toInt p2 ≤ 2) from ⟨rfl, rfl, rfl, by omega, by omega⟩)
    · show (2 - Int32.toInt p2).toNat < 1000000000000
      omega
  · exact dOk_some (show (q = q) ∧ (((0 : Int) = 0 ∨ (0 : Int) = 1)) from ⟨rfl, by omega⟩)

set_option maxHeartbeats 4000000 in
set_option maxRecDepth 100000 in
theorem ok_X4_isWord_s24_t11 (q : dK) (hT : TC q) (hp0 : ¬ Int32.toInt (q.1 24 0) = 0) : dOk (zX4_isWord_s24_t11 q) (fun (o : Int32 × dK) => (o.2 = q) ∧ ((Int32.toInt o.1 = 0 ∨ Int32.toInt o.1 = 1))) := by
  unfold zX4_isWord_s24_t11
  refine dOk_eq (A := Int32.toInt (q.1 24 4)) (B := 1) rfl (by decide) (fun c_1z c_1 => ?_) (fun c_2z c_2 => ?_)
  · have f_4 : 0 ≤ Int32.toInt (q.1 24 0) ∧ Int32.toInt (q.1 24 0) ≤ 1 := rg_24_0 hT
    refine dOk_B (ok_X4_isSame_s24_t11 q 0 2 hT (show ¬ Int32.toInt (q.1 24 0) = 0 by omega) (show 0 ≤ (0 : Int) by omega) (show (0 : Int) ≤ (2 : Int) by omega) (show (2 : Int) ≤ 2 by omega)) (fun r_5 q_6 h_7 => ?_)
    replace h_7 : (q_6 = q) ∧ ((Int32.toInt r_5 = 0 ∨ Int32.toInt r_5 = 1)) := h_7
    obtain ⟨i_8, i_9⟩ := h_7
    subst q_6
    refine dOk_eq (A := Int32.toInt r_5) (B := 0) rfl (by decide) (fun c_10z c_10 => ?_) (fun c_11z c_11 => ?_)
    · unfold zX4_isWord_s24_t11_25
      unfold zX4_isWord_s24_t11_26
      refine dOk_G (dbl_ok (show (0 : Int) = 0 ∨ (0 : Int) = 1 by omega)) ?_
      exact dOk_some (show (q = q) ∧ (((0 : Int) = 0 ∨ (0 : Int) = 1)) from ⟨rfl, by omega⟩)
    · unfold zX4_isWord_s24_t11_26
      refine dOk_G (dbl_ok (show (1 : Int) = 0 ∨ (1 : Int) = 1 by omega)) ?_
      exact dOk_some (show (q = q) ∧ (((1 : Int) = 0 ∨ (1 : Int) = 1)) from ⟨rfl, by omega⟩)
  · unfold zX4_isWord_s24_t11_25
    unfold zX4_isWord_s24_t11_26
    refine dOk_G (dbl_ok (show (0 : Int) = 0 ∨ (0 : Int) = 1 by omega)) ?_
    exact dOk_some (show (q = q) ∧ (((0 : Int) = 0 ∨ (0 : Int) = 1)) from ⟨rfl, by omega⟩)

set_option maxHeartbeats 4000000 in
set_option maxRecDepth 100000 in
theorem ok_X7_emit_s25 (q : dK) (p1 : Int32) (p2 : Int32) (hT : TC q) (hp0 : 0 ≤ Int32.toInt p1 ∧ Int32.toInt p1 ≤ 12) (hp1 : 0 ≤ Int32.toInt p2 ∧ Int32.toInt p2 ≤ 2000) : dOk (zX7_emit_s25 q p1 p2) (fun (o : dK) => (TC o) ∧ (cFr [31] [(25, 7)] q o)) := by
  unfold zX7_emit_s25
  have f_1 : 0 ≤ Int32.toInt (q.1 25 7) ∧ Int32.toInt (q.1 25 7) ≤ 400 := rg_25_7 hT
  refine dOk_le (A := 400) (B := Int32.toInt (q.1 25 7)) (by decide) rfl (fun c_2 => ?_) (fun c_3 => ?_)
  · unfold zX7_emit_s25_36
    exact dOk_some (show (TC q) ∧ (cFr [31] [(25, 7)] q q) from ⟨hT, (cFr.rf (q := q))⟩)
  · refine dOk_G (dg_ok (show 0 ≤ Int32.toInt (q.1 25 7) by omega) (show Int32.toInt (q.1 25 7) < ((400 : Nat) : Int) by omega)) ?_
    have n_4 : ((Int32.toNatClampNeg (q.1 25 7) : Nat) : Int) = Int32.toInt (q.1 25 7) := cl_eq (by omega)
    refine dOk_L (fun q_5 eq_5 => ?_)
    try have t_6 := ti_shl5 (x := p2) (s := 4) (by omega) (by omega) (by omega) (by omega)
    try have t_7 := ti_shl6 (x := p2) (s := 4) (by omega) (by omega) (by omega) (by omega)
    try have t_8 := em_or (a := p2) (b := p1) (by omega) (by omega) (by omega) (by omega)
    have hTq_5 : TC q_5 := by rw [eq_5]; exact st_31 hT (show (0 : Int) ≤ Int32.toInt (p2 <<< ((4 : Int32) &&& 31) ||| p1) by omega) (em_op (by omega) (by omega) (by omega) (by omega))
    have hFq_5 : cFr [31] [(25, 7)] q q_5 := by rw [eq_5]; exact (cFr.rf (q := q)).i (by decide)
    refine dOk_L (fun q_9 eq_9 => ?_)
    have f_10 : 0 ≤ Int32.toInt (q_5.1 25 7) ∧ Int32.toInt (q_5.1 25 7) ≤ 400 := rg_25_7 hTq_5
    try have w_11 : Int32.toInt (q_5.1 25 7) = Int32.toInt (q.1 25 7) := by rw [eq_5, cui_o (by decide)]
    try have t_12 : Int32.toInt (q_5.1 25 7 + 1) = Int32.toInt (q_5.1 25 7) + 1 := ti_add rfl (by decide) (by omega) (by omega)
    have hTq_9 : TC q_9 := by rw [eq_9]; exact st_25_7 hTq_5 (show (0 : Int) ≤ Int32.toInt (q_5.1 25 7 + 1) by omega) (show Int32.toInt (q_5.1 25 7 + 1) ≤ (400 : Int) by omega)
    have hFq_9 : cFr [31] [(25, 7)] q q_9 := by rw [eq_9]; exact hFq_5.f (by decide)
    unfold zX7_emit_s25_36
    exact dOk_some (show (TC q_9) ∧ (cFr [31] [(25, 7)] q q_9) from ⟨hTq_9, hFq_9⟩)

set_option maxHeartbeats 4000000 in
set_option maxRecDepth 100000 in
theorem ok_X7_leapHere_s25 (q : dK) (p1 : Int32) (p2 : Int32) (hT : TC q) (hp0 : 0 ≤ Int32.toInt p1 ∧ Int32.toInt p1 ≤ 12) : dOk (zX7_leapHere_s25 q p1 p2) (fun (o : dK) => (TC o) ∧ (cFr [31] [] q o)) := by
  unfold zX7_leapHere_s25
  refine dOk_lt (A := Int32.toInt p2) (B := 0) rfl (by decide) (fun c_1 => ?_) (fun c_2 => ?_)
  · unfold zX7_leapHere_s25_26
    exact dOk_some (show (TC q) ∧ (cFr [31] [] q q) from ⟨hT, (cFr.rf (q := q))⟩)
  · have f_3 : 0 ≤ Int32.toInt (q.1 25 7) ∧ Int32.toInt (q.1 25 7) ≤ 400 := rg_25_7 hT
    refine dOk_le (A := Int32.toInt (q.1 25 7)) (B := Int32.toInt p2) rfl rfl (fun c_4 => ?_) (fun c_5 => ?_)
    · unfold zX7_leapHere_s25_26
      exact dOk_some (show (TC q) ∧ (cFr [31] [] q q) from ⟨hT, (cFr.rf (q := q))⟩)
    · refine dOk_G (dg_ok (show 0 ≤ Int32.toInt p2 by omega) (show Int32.toInt p2 < ((400 : Nat) : Int) by omega)) ?_
      have n_6 : ((Int32.toNatClampNeg p2 : Nat) : Int) = Int32.toInt p2 := cl_eq (by omega)
      refine dOk_L (fun q_7 eq_7 => ?_)
      try have t_8 := ti_shl5 (x := q.1 25 7) (s := 4) (by omega) (by omega) (by omega) (by omega)
      try have t_9 := ti_shl6 (x := q.1 25 7) (s := 4) (by omega) (by omega) (by omega) (by omega)
      try have t_10 := em_or (a := q.1 25 7) (b := p1) (by omega) (by omega) (by omega) (by omega)
      have hTq_7 : TC q_7 := by rw [eq_7]; exact st_31 hT (show (0 : Int) ≤ Int32.toInt (q.1 25 7 <<< ((4 : Int32) &&& 31) ||| p1) by omega) (em_op (by omega) (by omega) (by omega) (by omega))
      have hFq_7 : cFr [31] [] q q_7 := by rw [eq_7]; exact (cFr.rf (q := q)).i (by decide)
      unfold zX7_leapHere_s25_26
      exact dOk_some (show (TC q_7) ∧ (cFr [31] [] q q_7) from ⟨hTq_7, hFq_7⟩)

set_option maxHeartbeats 4000000 in
set_option maxRecDepth 100000 in
theorem ok_X4_readPlace_s24 (q : dK) (p1 : Int32) (hT : TC q) (hp0 : ¬ Int32.toInt (q.1 24 0) = 0) (hp1 : ¬ Int32.toInt (q.1 24 3) = 0) (hp2 : 0 ≤ Int32.toInt p1 ∧ Int32.toInt p1 ≤ 100) : dOk (zX4_readPlace_s24 q p1) (fun (o : dK) => (TC o) ∧ (cFr [31] [(24, 4), (24, 5), (24, 6), (24, 7), (24, 10), (25, 7)] q o)) := by
  unfold zX4_readPlace_s24
  refine dOk_eq (A := Int32.toInt (q.1 24 4)) (B := 2) rfl (by decide) (fun c_1z c_1 => ?_) (fun c_2z c_2 => ?_)
  · have f_4 : 0 ≤ Int32.toInt (q.1 24 7) ∧ Int32.toInt (q.1 24 7) ≤ 1001 := rg_24_7 hT
    refine dOk_lt (A := Int32.toInt (q.1 24 7)) (B := 6) rfl (by decide) (fun c_5 => ?_) (fun c_6 => ?_)
    · have f_7 : 0 ≤ Int32.toInt (q.1 24 3) ∧ Int32.toInt (q.1 24 3) ≤ 1 := rg_24_3 hT
      refine dOk_G (dnz_ok (show ¬ Int32.toInt (q.1 24 3) = 0 by omega)) ?_
      try have t_8 : Int32.toInt (p1 + q.1 24 7) = Int32.toInt p1 + Int32.toInt (q.1 24 7) := ti_add rfl rfl (by omega) (by omega)
      refine dOk_V (ok_X7_emit_s25 q 1 (p1 + q.1 24 7) hT (show 0 ≤ (1 : Int) ∧ (1 : Int) ≤ 12 by omega) (show 0 ≤ Int32.toInt (p1 + q.1 24 7) ∧ Int32.toInt (p1 + q.1 24 7) ≤ 2000 by omega)) (fun q_9 h_10 => ?_)
      replace h_10 : (TC q_9) ∧ (cFr [31] [(25, 7)] q q_9) := h_10
      obtain ⟨i_11, i_12⟩ := h_10
      have hFq_9 : cFr [31] [(24, 4), (24, 5), (24, 6), (24, 7), (24, 10), (25, 7)] q q_9 := (cFr.rf (q := q)).t i_12 (by decide) (by decide)
      have f_13 : 0 ≤ Int32.toInt (q_9.1 24 0) ∧ Int32.toInt (q_9.1 24 0) ≤ 1 := rg_24_0 i_11
      have f_14 : 0 ≤ Int32.toInt (q.1 24 0) ∧ Int32.toInt (q.1 24 0) ≤ 1 := rg_24_0 hT
      have w_15 : Int32.toInt (q_9.1 24 0) = Int32.toInt (q.1 24 0) := by rw [i_12.1 24 0 (by decide) (by decide)]
      refine dOk_V (ok_X4_step_s24 q_9 i_11 (show ¬ Int32.toInt (q_9.1 24 0) = 0 by omega)) (fun q_16 h_17 => ?_)
      replace h_17 : (TC q_16) ∧ (cFr [] [(24, 4), (24, 5), (24, 6), (24, 7)] q_9 q_16) := h_17
      obtain ⟨i_18, i_19⟩ := h_17
      have hFq_16 : cFr [31] [(24, 4), (24, 5), (24, 6), (24, 7), (24, 10), (25, 7)] q q_16 := hFq_9.t i_19 (by decide) (by decide)
      exact dOk_some (show (TC q_16) ∧ (cFr [31] [(24, 4), (24, 5), (24, 6), (24, 7), (24, 10), (25, 7)] q q_16) from ⟨i_18, hFq_16⟩)
    · unfold zX4_readPlace_s24_17
      refine dOk_V (ok_X4_fail_s24 q hT) (fun q_20 h_21 => ?_)
      replace h_21 : (TC q_20) ∧ (cFr [] [(24, 10)] q q_20) := h_21
      obtain ⟨i_22, i_23⟩ := h_21
      have hFq_20 : cFr [31] [(24, 4), (24, 5), (24, 6), (24, 7), (24, 10), (25, 7)] q q_20 := (cFr.rf (q := q)).t i_23 (by decide) (by decide)
      exact dOk_some (show (TC q_20) ∧ (cFr [31] [(24, 4), (24, 5), (24, 6), (24, 7), (24, 10), (25, 7)] q q_20) from ⟨i_22, hFq_20⟩)
  · unfold zX4_readPlace_s24_17
    refine dOk_V (ok_X4_fail_s24 q hT) (fun q_24 h_25 => ?_)
    replace h_25 : (TC q_24) ∧ (cFr [] [(24, 10)] q q_24) := h_25
    obtain ⟨i_26, i_27⟩ := h_25
    have hFq_24 : cFr [31] [(24, 4), (24, 5), (24, 6), (24, 7), (24, 10), (25, 7)] q q_24 := (cFr.rf (q := q)).t i_27 (by decide) (by decide)
    exact dOk_some (show (TC q_24) ∧ (cFr [31] [(24, 4), (24, 5), (24, 6), (24, 7), (24, 10), (25, 7)] q q_24) from ⟨i_26, hFq_24⟩)

set_option maxHeartbeats 4000000 in
set_option maxRecDepth 100000 in
theorem ok_X4_readTimes_s24 (q : dK) (hT : TC q) (hp0 : ¬ Int32.toInt (q.1 24 0) = 0) (hp1 : ¬ Int32.toInt (q.1 24 3) = 0) : dOk (zX4_readTimes_s24 q) (fun (o : dK) => (TC o) ∧ (cFr [27] [(24, 4), (24, 5), (24, 6), (24, 7), (24, 10)] q o)) := by
  unfold zX4_readTimes_s24
  refine dOk_eq (A := Int32.toInt (q.1 24 4)) (B := 2) rfl (by decide) (fun c_1z c_1 => ?_) (fun c_2z c_2 => ?_)
  · have f_4 : 0 ≤ Int32.toInt (q.1 24 7) ∧ Int32.toInt (q.1 24 7) ≤ 1001 := rg_24_7 hT
    refine dOk_lt (A := Int32.toInt (q.1 24 7)) (B := 1) rfl (by decide) (fun c_5 => ?_) (fun c_6 => ?_)
    · unfold zX4_readTimes_s24_25
      refine dOk_V (ok_X4_fail_s24 q hT) (fun q_7 h_8 => ?_)
      replace h_8 : (TC q_7) ∧ (cFr [] [(24, 10)] q q_7) := h_8
      obtain ⟨i_9, i_10⟩ := h_8
      have hFq_7 : cFr [27] [(24, 4), (24, 5), (24, 6), (24, 7), (24, 10)] q q_7 := (cFr.rf (q := q)).t i_10 (by decide) (by decide)
      exact dOk_some (show (TC q_7) ∧ (cFr [27] [(24, 4), (24, 5), (24, 6), (24, 7), (24, 10)] q q_7) from ⟨i_9, hFq_7⟩)
    · refine dOk_le (A := Int32.toInt (q.1 24 7)) (B := 20) rfl (by decide) (fun c_11 => ?_) (fun c_12 => ?_)
      · have f_13 : 0 ≤ Int32.toInt (q.1 24 3) ∧ Int32.toInt (q.1 24 3) ≤ 1 := rg_24_3 hT
        refine dOk_G (dnz_ok (show ¬ Int32.toInt (q.1 24 3) = 0 by omega)) ?_
        refine dOk_V (ok_X7_setTimes_s25 q (q.1 24 7) hT) (fun q_14 h_15 => ?_)
        replace h_15 : (TC q_14) ∧ (cFr [27] [] q q_14) := h_15
        obtain ⟨i_16, i_17⟩ := h_15
        have hFq_14 : cFr [27] [(24, 4), (24, 5), (24, 6), (24, 7), (24, 10)] q q_14 := (cFr.rf (q := q)).t i_17 (by decide) (by decide)
        have f_18 : 0 ≤ Int32.toInt (q_14.1 24 0) ∧ Int32.toInt (q_14.1 24 0) ≤ 1 := rg_24_0 i_16
        have f_19 : 0 ≤ Int32.toInt (q.1 24 0) ∧ Int32.toInt (q.1 24 0) ≤ 1 := rg_24_0 hT
        have w_20 : Int32.toInt (q_14.1 24 0) = Int32.toInt (q.1 24 0) := by rw [i_17.1 24 0 (by decide) (by decide)]
        refine dOk_V (ok_X4_step_s24 q_14 i_16 (show ¬ Int32.toInt (q_14.1 24 0) = 0 by omega)) (fun q_21 h_22 => ?_)
        replace h_22 : (TC q_21) ∧ (cFr [] [(24, 4), (24, 5), (24, 6), (24, 7)] q_14 q_21) := h_22
        obtain ⟨i_23, i_24⟩ := h_22
        have hFq_21 : cFr [27] [(24, 4), (24, 5), (24, 6), (24, 7), (24, 10)] q q_21 := hFq_14.t i_24 (by decide) (by decide)
        exact dOk_some (show (TC q_21) ∧ (cFr [27] [(24, 4), (24, 5), (24, 6), (24, 7), (24, 10)] q q_21) from ⟨i_23, hFq_21⟩)
      · unfold zX4_readTimes_s24_25
        refine dOk_V (ok_X4_fail_s24 q hT) (fun q_25 h_26 => ?_)
        replace h_26 : (TC q_25) ∧ (cFr [] [(24, 10)] q q_25) := h_26
        obtain ⟨i_27, i_28⟩ := h_26
        have hFq_25 : cFr [27] [(24, 4), (24, 5), (24, 6), (24, 7), (24, 10)] q q_25 := (cFr.rf (q := q)).t i_28 (by decide) (by decide)
        exact dOk_some (show (TC q_25) ∧ (cFr [27] [(24, 4), (24, 5), (24, 6), (24, 7), (24, 10)] q q_25) from ⟨i_27, hFq_25⟩)
  · unfold zX4_readTimes_s24_25
    refine dOk_V (ok_X4_fail_s24 q hT) (fun q_29 h_30 => ?_)
    replace h_30 : (TC q_29) ∧ (cFr [] [(24, 10)] q q_29) := h_30
    obtain ⟨i_31, i_32⟩ := h_30
    have hFq_29 : cFr [27] [(24, 4), (24, 5), (24, 6), (24, 7), (24, 10)] q q_29 := (cFr.rf (q := q)).t i_32 (by decide) (by decide)
    exact dOk_some (show (TC q_29) ∧ (cFr [27] [(24, 4), (24, 5), (24, 6), (24, 7), (24, 10)] q q_29) from ⟨i_31, hFq_29⟩)
end
section
set_option maxHeartbeats 4000000 in
set_option maxRecDepth 100000 in
theorem ok_X4_readPart_s24 (kS : dK → Option (dK)) (n : Nat) (hkS : ∀ q9 : dK, TC q9 → (¬ Int32.toInt (q9.1 24 0) = 0) → (¬ Int32.toInt (q9.1 24 3) = 0) → (9 - Int32.toInt (q9.1 24 9) ≤ (n : Int)) → dOk (kS q9) (fun (o : dK) => (TC o) ∧ (cFr [31] [(24, 4), (24, 5), (24, 6), (24, 7), (24, 8), (24, 9), (24, 10), (25, 7)] q9 o) ∧ (Int32.toInt (o.1 24 9) = Int32.toInt (q9.1 24 9)))) (q : dK) (hT : TC q) (hp0 : ¬ Int32.toInt (q.1 24 0) = 0) (hp1 : ¬ Int32.toInt (q.1 24 3) = 0) (hp2 : 9 - Int32.toInt (q.1 24 9) ≤ (n : Int) + 1) : dOk (zX4_readPart_s24 kS q) (fun (o : dK) => (TC o) ∧ (cFr [31] [(24, 4), (24, 5), (24, 6), (24, 7), (24, 8), (24, 9), (24, 10), (25, 7)] q o) ∧ (Int32.toInt (o.1 24 9) = Int32.toInt (q.1 24 9))) := by
  unfold zX4_readPart_s24
  have hn_2 : ∀ (q_1 : dK), TC q_1 → cFr [31] [(24, 4), (24, 5), (24, 6), (24, 7), (24, 8), (24, 9), (24, 10), (25, 7)] q q_1 → (¬ Int32.toInt (q_1.1 24 0) = 0) → (¬ Int32.toInt (q_1.1 24 3) = 0) → (Int32.toInt (q_1.1 24 9) = Int32.toInt (q.1 24 9)) → dOk (zX4_readPart_s24_177 kS q_1) (fun (o : dK) => (TC o) ∧ (cFr [31] [(24, 4), (24, 5), (24, 6), (24, 7), (24, 8), (24, 9), (24, 10), (25, 7)] q o) ∧ (Int32.toInt (o.1 24 9) = Int32.toInt (q.1 24 9))) := by
    intro q_1 hT_6 hF_7 b_3 b_4 b_5
    unfold zX4_readPart_s24_177
    have f_8 : 0 ≤ Int32.toInt (q_1.1 24 0) ∧ Int32.toInt (q_1.1 24 0) ≤ 1 := rg_24_0 hT_6
    have f_9 : 0 ≤ Int32.toInt (q.1 24 0) ∧ Int32.toInt (q.1 24 0) ≤ 1 := rg_24_0 hT
    have w_10 : Int32.toInt (q_1.1 24 0) = Int32.toInt (q.1 24 0) := by rw [hF_7.1 24 0 (by decide) (by decide)]
    have f_11 : 0 ≤ Int32.toInt (q_1.1 24 3) ∧ Int32.toInt (q_1.1 24 3) ≤ 1 := rg_24_3 hT_6
    have f_12 : 0 ≤ Int32.toInt (q.1 24 3) ∧ Int32.toInt (q.1 24 3) ≤ 1 := rg_24_3 hT
    have w_13 : Int32.toInt (q_1.1 24 3) = Int32.toInt (q.1 24 3) := by rw [hF_7.1 24 3 (by decide) (by decide)]
    have f_14 : 0 ≤ Int32.toInt (q_1.1 24 9) ∧ Int32.toInt (q_1.1 24 9) ≤ 8 := rg_24_9 hT_6
    have f_15 : 0 ≤ Int32.toInt (q.1 24 9) ∧ Int32.toInt (q.1 24 9) ≤ 8 := rg_24_9 hT
    exact dOk_some (show (TC q_1) ∧ (cFr [31] [(24, 4), (24, 5), (24, 6), (24, 7), (24, 8), (24, 9), (24, 10), (25, 7)] q q_1) ∧ (Int32.toInt (q_1.1 24 9) = Int32.toInt (q.1 24 9)) from ⟨hT_6, hF_7, by omega⟩)
  have hn_18 : ∀ (q_16 : dK) (x1_17 : Int32), TC q_16 → cFr [31] [(24, 4), (24, 5), (24, 6), (24, 7), (24, 8), (24, 9), (24, 10), (25, 7)] q q_16 → (¬ Int32.toInt (q_16.1 24 0) = 0) → (¬ Int32.toInt (q_16.1 24 3) = 0) → (Int32.toInt (q_16.1 24 9) = Int32.toInt (q.1 24 9)) → (0 ≤ Int32.toInt x1_17 ∧ Int32.toInt x1_17 ≤ 47) → dOk (zX4_readPart_s24_168 kS q_16 x1_17) (fun (o : dK) => (TC o) ∧ (cFr [31] [(24, 4), (24, 5), (24, 6), (24, 7), (24, 8), (24, 9), (24, 10), (25, 7)] q o) ∧ (Int32.toInt (o.1 24 9) = Int32.toInt (q.1 24 9))) := by
    intro q_16 x1_17 hT_23 hF_24 b_19 b_20 b_21 b_22
    unfold zX4_readPart_s24_168
    have f_25 : 0 ≤ Int32.toInt (q_16.1 24 0) ∧ Int32.toInt (q_16.1 24 0) ≤ 1 := rg_24_0 hT_23
    have f_26 : 0 ≤ Int32.toInt (q.1 24 0) ∧ Int32.toInt (q.1 24 0) ≤ 1 := rg_24_0 hT
    have w_27 : Int32.toInt (q_16.1 24 0) = Int32.toInt (q.1 24 0) := by rw [hF_24.1 24 0 (by decide) (by decide)]
    have f_28 : 0 ≤ Int32.toInt (q_16.1 24 3) ∧ Int32.toInt (q_16.1 24 3) ≤ 1 := rg_24_3 hT_23
    have f_29 : 0 ≤ Int32.toInt (q.1 24 3) ∧ Int32.toInt (q.1 24 3) ≤ 1 := rg_24_3 hT
    have w_30 : Int32.toInt (q_16.1 24 3) = Int32.toInt (q.1 24 3) := by rw [hF_24.1 24 3 (by decide) (by decide)]
    have f_31 : 0 ≤ Int32.toInt (q_16.1 24 9) ∧ Int32.toInt (q_16.1 24 9) ≤ 8 := rg_24_9 hT_23
    have f_32 : 0 ≤ Int32.toInt (q.1 24 9) ∧ Int32.toInt (q.1 24 9) ≤ 8 := rg_24_9 hT
    refine dOk_G (dnz_ok (show ¬ Int32.toInt (q_16.1 24 3) = 0 by omega)) ?_
    refine dOk_V (ok_X7_emit_s25 q_16 1 x1_17 hT_23 (show 0 ≤ (1 : Int) ∧ (1 : Int) ≤ 12 by omega) (show 0 ≤ Int32.toInt x1_17 ∧ Int32.toInt x1_17 ≤ 2000 by omega)) (fun q_33 h_34 => ?_)
    replace h_34 : (TC q_33) ∧ (cFr [31] [(25, 7)] q_16 q_33) := h_34
    obtain ⟨i_35, i_36⟩ := h_34
    have hFq_33 : cFr [31] [(24, 4), (24, 5), (24, 6), (24, 7), (24, 8), (24, 9), (24, 10), (25, 7)] q q_33 := hF_24.t i_36 (by decide) (by decide)
    have f_37 : 0 ≤ Int32.toInt (q_33.1 24 0) ∧ Int32.toInt (q_33.1 24 0) ≤ 1 := rg_24_0 i_35
    have w_38 : Int32.toInt (q_33.1 24 0) = Int32.toInt (q_16.1 24 0) := by rw [i_36.1 24 0 (by decide) (by decide)]
    have f_39 : 0 ≤ Int32.toInt (q_33.1 24 3) ∧ Int32.toInt (q_33.1 24 3) ≤ 1 := rg_24_3 i_35
    have w_40 : Int32.toInt (q_33.1 24 3) = Int32.toInt (q_16.1 24 3) := by rw [i_36.1 24 3 (by decide) (by decide)]
    have f_41 : 0 ≤ Int32.toInt (q_33.1 24 9) ∧ Int32.toInt (q_33.1 24 9) ≤ 8 := rg_24_9 i_35
    have w_42 : Int32.toInt (q_33.1 24 9) = Int32.toInt (q_16.1 24 9) := by rw [i_36.1 24 9 (by decide) (by decide)]
    exact hn_2 q_33 i_35 ((((cFr.rf : cFr [31] [(24, 4), (24, 5), (24, 6), (24, 7), (24, 8), (24, 9), (24, 10), (25, 7)] q q).t hF_24 (by decide) (by decide)) : cFr [31] [(24, 4), (24, 5), (24, 6), (24, 7), (24, 8), (24, 9), (24, 10), (25, 7)] q q_16).t i_36 (by decide) (by decide)) (show ¬ Int32.toInt (q_33.1 24 0) = 0 by omega) (show ¬ Int32.toInt (q_33.1 24 3) = 0 by omega) (show Int32.toInt (q_33.1 24 9) = Int32.toInt (q.1 24 9) by omega)
  have hn_45 : ∀ (q_43 : dK) (y0_44 : Int32), TC q_43 → cFr [31] [(24, 4), (24, 5), (24, 6), (24, 7), (24, 8), (24, 9), (24, 10), (25, 7)] q q_43 → (¬ Int32.toInt (q_43.1 24 0) = 0) → (¬ Int32.toInt (q_43.1 24 3) = 0) → (Int32.toInt (q_43.1 24 9) = Int32.toInt (q.1 24 9)) → (0 ≤ Int32.toInt y0_44 ∧ Int32.toInt y0_44 ≤ 100) → dOk (zX4_readPart_s24_162 kS q_43 y0_44) (fun (o : dK) => (TC o) ∧ (cFr [31] [(24, 4), (24, 5), (24, 6), (24, 7), (24, 8), (24, 9), (24, 10), (25, 7)] q o) ∧ (Int32.toInt (o.1 24 9) = Int32.toInt (q.1 24 9))) := by
    intro q_43 y0_44 hT_50 hF_51 b_46 b_47 b_48 b_49
    unfold zX4_readPart_s24_162
    have f_52 : 0 ≤ Int32.toInt (q_43.1 24 0) ∧ Int32.toInt (q_43.1 24 0) ≤ 1 := rg_24_0 hT_50
    have f_53 : 0 ≤ Int32.toInt (q.1 24 0) ∧ Int32.toInt (q.1 24 0) ≤ 1 := rg_24_0 hT
    have w_54 : Int32.toInt (q_43.1 24 0) = Int32.toInt (q.1 24 0) := by rw [hF_51.1 24 0 (by decide) (by decide)]
    have f_55 : 0 ≤ Int32.toInt (q_43.1 24 3) ∧ Int32.toInt (q_43.1 24 3) ≤ 1 := rg_24_3 hT_50
    have f_56 : 0 ≤ Int32.toInt (q.1 24 3) ∧ Int32.toInt (q.1 24 3) ≤ 1 := rg_24_3 hT
    have w_57 : Int32.toInt (q_43.1 24 3) = Int32.toInt (q.1 24 3) := by rw [hF_51.1 24 3 (by decide) (by decide)]
    have f_58 : 0 ≤ Int32.toInt (q_43.1 24 9) ∧ Int32.toInt (q_43.1 24 9) ≤ 8 := rg_24_9 hT_50
    have f_59 : 0 ≤ Int32.toInt (q.1 24 9) ∧ Int32.toInt (q.1 24 9) ≤ 8 := rg_24_9 hT
    refine dOk_V (ok_X4_readPlace_s24 q_43 y0_44 hT_50 (show ¬ Int32.toInt (q_43.1 24 0) = 0 by omega) (show ¬ Int32.toInt (q_43.1 24 3) = 0 by omega) (show 0 ≤ Int32.toInt y0_44 ∧ Int32.toInt y0_44 ≤ 100 by omega)) (fun q_60 h_61 => ?_)
    replace h_61 : (TC q_60) ∧ (cFr [31] [(24, 4), (24, 5), (24, 6), (24, 7), (24, 10), (25, 7)] q_43 q_60) := h_61
    obtain ⟨i_62, i_63⟩ := h_61
    have hFq_60 : cFr [31] [(24, 4), (24, 5), (24, 6), (24, 7), (24, 8), (24, 9), (24, 10), (25, 7)] q q_60 := hF_51.t i_63 (by decide) (by decide)
    have f_64 : 0 ≤ Int32.toInt (q_60.1 24 0) ∧ Int32.toInt (q_60.1 24 0) ≤ 1 := rg_24_0 i_62
    have w_65 : Int32.toInt (q_60.1 24 0) = Int32.toInt (q_43.1 24 0) := by rw [i_63.1 24 0 (by decide) (by decide)]
    have f_66 : 0 ≤ Int32.toInt (q_60.1 24 3) ∧ Int32.toInt (q_60.1 24 3) ≤ 1 := rg_24_3 i_62
    have w_67 : Int32.toInt (q_60.1 24 3) = Int32.toInt (q_43.1 24 3) := by rw [i_63.1 24 3 (by decide) (by decide)]
    have f_68 : 0 ≤ Int32.toInt (q_60.1 24 9) ∧ Int32.toInt (q_60.1 24 9) ≤ 8 := rg_24_9 i_62
    have w_69 : Int32.toInt (q_60.1 24 9) = Int32.toInt (q_43.1 24 9) := by rw [i_63.1 24 9 (by decide) (by decide)]
    exact hn_2 q_60 i_62 ((((cFr.rf : cFr [31] [(24, 4), (24, 5), (24, 6), (24, 7), (24, 8), (24, 9), (24, 10), (25, 7)] q q).t hF_51 (by decide) (by decide)) : cFr [31] [(24, 4), (24, 5), (24, 6), (24, 7), (24, 8), (24, 9), (24, 10), (25, 7)] q q_43).t i_63 (by decide) (by decide)) (show ¬ Int32.toInt (q_60.1 24 0) = 0 by omega) (show ¬ Int32.toInt (q_60.1 24 3) = 0 by omega) (show Int32.toInt (q_60.1 24 9) = Int32.toInt (q.1 24 9) by omega)
  have hn_73 : ∀ (q_70 : dK) (x1_71 : Int32) (x2_72 : Int32), TC q_70 → cFr [31] [(24, 4), (24, 5), (24, 6), (24, 7), (24, 8), (24, 9), (24, 10), (25, 7)] q q_70 → (¬ Int32.toInt (q_70.1 24 0) = 0) → (¬ Int32.toInt (q_70.1 24 3) = 0) → (Int32.toInt (q_70.1 24 9) = Int32.toInt (q.1 24 9)) → ((Int32.toInt x2_72 = 1 ∧ Int32.toInt (q_70.1 24 7) ≤ 1000) ∨ (Int32.toInt x2_72 = 0 ∧ 0 ≤ Int32.toInt x1_71)) → (Int32.toInt x1_71 ≤ 47) → dOk (zX4_readPart_s24_89 kS q_70 x1_71 x2_72) (fun (o : dK) => (TC o) ∧ (cFr [31] [(24, 4), (24, 5), (24, 6), (24, 7), (24, 8), (24, 9), (24, 10), (25, 7)] q o) ∧ (Int32.toInt (o.1 24 9) = Int32.toInt (q.1 24 9))) := by
    intro q_70 x1_71 x2_72 hT_79 hF_80 b_74 b_75 b_76 b_77 b_78
    unfold zX4_readPart_s24_89
    have f_81 : 0 ≤ Int32.toInt (q_70.1 24 0) ∧ Int32.toInt (q_70.1 24 0) ≤ 1 := rg_24_0 hT_79
    have f_82 : 0 ≤ Int32.toInt (q.1 24 0) ∧ Int32.toInt (q.1 24 0) ≤ 1 := rg_24_0 hT
    have w_83 : Int32.toInt (q_70.1 24 0) = Int32.toInt (q.1 24 0) := by rw [hF_80.1 24 0 (by decide) (by decide)]
    have f_84 : 0 ≤ Int32.toInt (q_70.1 24 3) ∧ Int32.toInt (q_70.1 24 3) ≤ 1 := rg_24_3 hT_79
    have f_85 : 0 ≤ Int32.toInt (q.1 24 3) ∧ Int32.toInt (q.1 24 3) ≤ 1 := rg_24_3 hT
    have w_86 : Int32.toInt (q_70.1 24 3) = Int32.toInt (q.1 24 3) := by rw [hF_80.1 24 3 (by decide) (by decide)]
    have f_87 : 0 ≤ Int32.toInt (q_70.1 24 9) ∧ Int32.toInt (q_70.1 24 9) ≤ 8 := rg_24_9 hT_79
    have f_88 : 0 ≤ Int32.toInt (q.1 24 9) ∧ Int32.toInt (q.1 24 9) ≤ 8 := rg_24_9 hT
    have f_89 : 0 ≤ Int32.toInt (q_70.1 24 7) ∧ Int32.toInt (q_70.1 24 7) ≤ 1001 := rg_24_7 hT_79
    have f_90 : 0 ≤ Int32.toInt (q_70.1 24 8) ∧ Int32.toInt (q_70.1 24 8) ≤ 50 := rg_24_8 hT_79
    refine dOk_lt (A := Int32.toInt (q_70.1 24 8)) (B := 50) rfl (by decide) (fun c_91 => ?_) (fun c_92 => ?_)
    · refine dOk_L (fun q_93 eq_93 => ?_)
      try have t_94 : Int32.toInt (q_70.1 24 8 + 1) = Int32.toInt (q_70.1 24 8) + 1 := ti_add rfl (by decide) (by omega) (by omega)
      have hTq_93 : TC q_93 := by rw [eq_93]; exact st_24_8 hT_79 (show (0 : Int) ≤ Int32.toInt (q_70.1 24 8 + 1) by omega) (show Int32.toInt (q_70.1 24 8 + 1) ≤ (50 : Int) by omega)
      have hFq_93 : cFr [31] [(24, 4), (24, 5), (24, 6), (24, 7), (24, 8), (24, 9), (24, 10), (25, 7)] q q_93 := by rw [eq_93]; exact hF_80.f (by decide)
      have f_95 : 0 ≤ Int32.toInt (q_93.1 24 0) ∧ Int32.toInt (q_93.1 24 0) ≤ 1 := rg_24_0 hTq_93
      have w_96 : Int32.toInt (q_93.1 24 0) = Int32.toInt (q_70.1 24 0) := by rw [eq_93, cui_n (by decide)]
      refine dOk_V (ok_X4_step_s24 q_93 hTq_93 (show ¬ Int32.toInt (q_93.1 24 0) = 0 by omega)) (fun q_97 h_98 => ?_)
      replace h_98 : (TC q_97) ∧ (cFr [] [(24, 4), (24, 5), (24, 6), (24, 7)] q_93 q_97) := h_98
      obtain ⟨i_99, i_100⟩ := h_98
      have hFq_97 : cFr [31] [(24, 4), (24, 5), (24, 6), (24, 7), (24, 8), (24, 9), (24, 10), (25, 7)] q q_97 := hFq_93.t i_100 (by decide) (by decide)
      refine dOk_eq (A := Int32.toInt x2_72) (B := 0) rfl (by decide) (fun c_101z c_101 => ?_) (fun c_102z c_102 => ?_)
      · have f_104 : 0 ≤ Int32.toInt (q_97.1 24 2) ∧ Int32.toInt (q_97.1 24 2) ≤ 1 := rg_24_2 i_99
        have f_105 : 0 ≤ Int32.toInt (q_93.1 24 2) ∧ Int32.toInt (q_93.1 24 2) ≤ 1 := rg_24_2 hTq_93
        have f_106 : 0 ≤ Int32.toInt (q_70.1 24 2) ∧ Int32.toInt (q_70.1 24 2) ≤ 1 := rg_24_2 hT_79
        have f_107 : 0 ≤ Int32.toInt (q.1 24 2) ∧ Int32.toInt (q.1 24 2) ≤ 1 := rg_24_2 hT
        have w_108 : Int32.toInt (q_70.1 24 2) = Int32.toInt (q.1 24 2) := by rw [hF_80.1 24 2 (by decide) (by decide)]
        have w_109 : Int32.toInt (q_93.1 24 2) = Int32.toInt (q_70.1 24 2) := by rw [eq_93, cui_n (by decide)]
        have w_110 : Int32.toInt (q_97.1 24 2) = Int32.toInt (q_93.1 24 2) := by rw [i_100.1 24 2 (by decide) (by decide)]
        refine dOk_eq (A := Int32.toInt (q_97.1 24 2)) (B := 0) rfl (by decide) (fun c_111z c_111 => ?_) (fun c_112z c_112 => ?_)
        · have f_114 : 0 ≤ Int32.toInt (q_97.1 24 0) ∧ Int32.toInt (q_97.1 24 0) ≤ 1 := rg_24_0 i_99
          have w_115 : Int32.toInt (q_97.1 24 0) = Int32.toInt (q_93.1 24 0) := by rw [i_100.1 24 0 (by decide) (by decide)]
          have f_116 : 0 ≤ Int32.toInt (q_97.1 24 3) ∧ Int32.toInt (q_97.1 24 3) ≤ 1 := rg_24_3 i_99
          have f_117 : 0 ≤ Int32.toInt (q_93.1 24 3) ∧ Int32.toInt (q_93.1 24 3) ≤ 1 := rg_24_3 hTq_93
          have w_118 : Int32.toInt (q_93.1 24 3) = Int32.toInt (q_70.1 24 3) := by rw [eq_93, cui_n (by decide)]
          have w_119 : Int32.toInt (q_97.1 24 3) = Int32.toInt (q_93.1 24 3) := by rw [i_100.1 24 3 (by decide) (by decide)]
          have f_120 : 0 ≤ Int32.toInt (q_97.1 24 9) ∧ Int32.toInt (q_97.1 24 9) ≤ 8 := rg_24_9 i_99
          have f_121 : 0 ≤ Int32.toInt (q_93.1 24 9) ∧ Int32.toInt (q_93.1 24 9) ≤ 8 := rg_24_9 hTq_93
          have w_122 : Int32.toInt (q_93.1 24 9) = Int32.toInt (q_70.1 24 9) := by rw [eq_93, cui_n (by decide)]
          have w_123 : Int32.toInt (q_97.1 24 9) = Int32.toInt (q_93.1 24 9) := by rw [i_100.1 24 9 (by decide) (by decide)]
          exact hn_18 q_97 x1_71 i_99 (((by rw [eq_93]; exact (((cFr.rf : cFr [31] [(24, 4), (24, 5), (24, 6), (24, 7), (24, 8), (24, 9), (24, 10), (25, 7)] q q).t hF_80 (by decide) (by decide)) : cFr [31] [(24, 4), (24, 5), (24, 6), (24, 7), (24, 8), (24, 9), (24, 10), (25, 7)] q q_70).f (by decide)) : cFr [31] [(24, 4), (24, 5), (24, 6), (24, 7), (24, 8), (24, 9), (24, 10), (25, 7)] q q_93).t i_100 (by decide) (by decide)) (show ¬ Int32.toInt (q_97.1 24 0) = 0 by omega) (show ¬ Int32.toInt (q_97.1 24 3) = 0 by omega) (show Int32.toInt (q_97.1 24 9) = Int32.toInt (q.1 24 9) by omega) (show 0 ≤ Int32.toInt x1_71 ∧ Int32.toInt x1_71 ≤ 47 by omega)
        · refine dOk_lt (A := Int32.toInt x1_71) (B := 5) rfl (by decide) (fun c_124 => ?_) (fun c_125 => ?_)
          · have f_126 : 0 ≤ Int32.toInt (q_97.1 24 0) ∧ Int32.toInt (q_97.1 24 0) ≤ 1 := rg_24_0 i_99
            have w_127 : Int32.toInt (q_97.1 24 0) = Int32.toInt (q_93.1 24 0) := by rw [i_100.1 24 0 (by decide) (by decide)]
            have f_128 : 0 ≤ Int32.toInt (q_97.1 24 3) ∧ Int32.toInt (q_97.1 24 3) ≤ 1 := rg_24_3 i_99
            have f_129 : 0 ≤ Int32.toInt (q_93.1 24 3) ∧ Int32.toInt (q_93.1 24 3) ≤ 1 := rg_24_3 hTq_93
            have w_130 : Int32.toInt (q_93.1 24 3) = Int32.toInt (q_70.1 24 3) := by rw [eq_93, cui_n (by decide)]
            have w_131 : Int32.toInt (q_97.1 24 3) = Int32.toInt (q_93.1 24 3) := by rw [i_100.1 24 3 (by decide) (by decide)]
            have f_132 : 0 ≤ Int32.toInt (q_97.1 24 9) ∧ Int32.toInt (q_97.1 24 9) ≤ 8 := rg_24_9 i_99
            have f_133 : 0 ≤ Int32.toInt (q_93.1 24 9) ∧ Int32.toInt (q_93.1 24 9) ≤ 8 := rg_24_9 hTq_93
            have w_134 : Int32.toInt (q_93.1 24 9) = Int32.toInt (q_70.1 24 9) := by rw [eq_93, cui_n (by decide)]
            have w_135 : Int32.toInt (q_97.1 24 9) = Int32.toInt (q_93.1 24 9) := by rw [i_100.1 24 9 (by decide) (by decide)]
            exact hn_18 q_97 x1_71 i_99 (((by rw [eq_93]; exact (((cFr.rf : cFr [31] [(24, 4), (24, 5), (24, 6), (24, 7), (24, 8), (24, 9), (24, 10), (25, 7)] q q).t hF_80 (by decide) (by decide)) : cFr [31] [(24, 4), (24, 5), (24, 6), (24, 7), (24, 8), (24, 9), (24, 10), (25, 7)] q q_70).f (by decide)) : cFr [31] [(24, 4), (24, 5), (24, 6), (24, 7), (24, 8), (24, 9), (24, 10), (25, 7)] q q_93).t i_100 (by decide) (by decide)) (show ¬ Int32.toInt (q_97.1 24 0) = 0 by omega) (show ¬ Int32.toInt (q_97.1 24 3) = 0 by omega) (show Int32.toInt (q_97.1 24 9) = Int32.toInt (q.1 24 9) by omega) (show 0 ≤ Int32.toInt x1_71 ∧ Int32.toInt x1_71 ≤ 47 by omega)
          · refine dOk_eq (A := Int32.toInt x1_71) (B := 5) rfl (by decide) (fun c_136z c_136 => ?_) (fun c_137z c_137 => ?_)
            · have f_139 : 0 ≤ Int32.toInt (q_97.1 24 0) ∧ Int32.toInt (q_97.1 24 0) ≤ 1 := rg_24_0 i_99
              have w_140 : Int32.toInt (q_97.1 24 0) = Int32.toInt (q_93.1 24 0) := by rw [i_100.1 24 0 (by decide) (by decide)]
              have f_141 : 0 ≤ Int32.toInt (q_97.1 24 3) ∧ Int32.toInt (q_97.1 24 3) ≤ 1 := rg_24_3 i_99
              have f_142 : 0 ≤ Int32.toInt (q_93.1 24 3) ∧ Int32.toInt (q_93.1 24 3) ≤ 1 := rg_24_3 hTq_93
              have w_143 : Int32.toInt (q_93.1 24 3) = Int32.toInt (q_70.1 24 3) := by rw [eq_93, cui_n (by decide)]
              have w_144 : Int32.toInt (q_97.1 24 3) = Int32.toInt (q_93.1 24 3) := by rw [i_100.1 24 3 (by decide) (by decide)]
              have f_145 : 0 ≤ Int32.toInt (q_97.1 24 9) ∧ Int32.toInt (q_97.1 24 9) ≤ 8 := rg_24_9 i_99
              have f_146 : 0 ≤ Int32.toInt (q_93.1 24 9) ∧ Int32.toInt (q_93.1 24 9) ≤ 8 := rg_24_9 hTq_93
              have w_147 : Int32.toInt (q_93.1 24 9) = Int32.toInt (q_70.1 24 9) := by rw [eq_93, cui_n (by decide)]
              have w_148 : Int32.toInt (q_97.1 24 9) = Int32.toInt (q_93.1 24 9) := by rw [i_100.1 24 9 (by decide) (by decide)]
              exact hn_45 q_97 5 i_99 (((by rw [eq_93]; exact (((cFr.rf : cFr [31] [(24, 4), (24, 5), (24, 6), (24, 7), (24, 8), (24, 9), (24, 10), (25, 7)] q q).t hF_80 (by decide) (by decide)) : cFr [31] [(24, 4), (24, 5), (24, 6), (24, 7), (24, 8), (24, 9), (24, 10), (25, 7)] q q_70).f (by decide)) : cFr [31] [(24, 4), (24, 5), (24, 6), (24, 7), (24, 8), (24, 9), (24, 10), (25, 7)] q q_93).t i_100 (by decide) (by decide)) (show ¬ Int32.toInt (q_97.1 24 0) = 0 by omega) (show ¬ Int32.toInt (q_97.1 24 3) = 0 by omega) (show Int32.toInt (q_97.1 24 9) = Int32.toInt (q.1 24 9) by omega) (show 0 ≤ (5 : Int) ∧ (5 : Int) ≤ 100 by omega)
            · have f_149 : 0 ≤ Int32.toInt (q_97.1 24 0) ∧ Int32.toInt (q_97.1 24 0) ≤ 1 := rg_24_0 i_99
              have w_150 : Int32.toInt (q_97.1 24 0) = Int32.toInt (q_93.1 24 0) := by rw [i_100.1 24 0 (by decide) (by decide)]
              have f_151 : 0 ≤ Int32.toInt (q_97.1 24 3) ∧ Int32.toInt (q_97.1 24 3) ≤ 1 := rg_24_3 i_99
              have f_152 : 0 ≤ Int32.toInt (q_93.1 24 3) ∧ Int32.toInt (q_93.1 24 3) ≤ 1 := rg_24_3 hTq_93
              have w_153 : Int32.toInt (q_93.1 24 3) = Int32.toInt (q_70.1 24 3) := by rw [eq_93, cui_n (by decide)]
              have w_154 : Int32.toInt (q_97.1 24 3) = Int32.toInt (q_93.1 24 3) := by rw [i_100.1 24 3 (by decide) (by decide)]
              have f_155 : 0 ≤ Int32.toInt (q_97.1 24 9) ∧ Int32.toInt (q_97.1 24 9) ≤ 8 := rg_24_9 i_99
              have f_156 : 0 ≤ Int32.toInt (q_93.1 24 9) ∧ Int32.toInt (q_93.1 24 9) ≤ 8 := rg_24_9 hTq_93
              have w_157 : Int32.toInt (q_93.1 24 9) = Int32.toInt (q_70.1 24 9) := by rw [eq_93, cui_n (by decide)]
              have w_158 : Int32.toInt (q_97.1 24 9) = Int32.toInt (q_93.1 24 9) := by rw [i_100.1 24 9 (by decide) (by decide)]
              exact hn_45 q_97 11 i_99 (((by rw [eq_93]; exact (((cFr.rf : cFr [31] [(24, 4), (24, 5), (24, 6), (24, 7), (24, 8), (24, 9), (24, 10), (25, 7)] q q).t hF_80 (by decide) (by decide)) : cFr [31] [(24, 4), (24, 5), (24, 6), (24, 7), (24, 8), (24, 9), (24, 10), (25, 7)] q q_70).f (by decide)) : cFr [31] [(24, 4), (24, 5), (24, 6), (24, 7), (24, 8), (24, 9), (24, 10), (25, 7)] q q_93).t i_100 (by decide) (by decide)) (show ¬ Int32.toInt (q_97.1 24 0) = 0 by omega) (show ¬ Int32.toInt (q_97.1 24 3) = 0 by omega) (show Int32.toInt (q_97.1 24 9) = Int32.toInt (q.1 24 9) by omega) (show 0 ≤ (11 : Int) ∧ (11 : Int) ≤ 100 by omega)
      · have f_159 : 0 ≤ Int32.toInt (q_97.1 24 3) ∧ Int32.toInt (q_97.1 24 3) ≤ 1 := rg_24_3 i_99
        have f_160 : 0 ≤ Int32.toInt (q_93.1 24 3) ∧ Int32.toInt (q_93.1 24 3) ≤ 1 := rg_24_3 hTq_93
        have w_161 : Int32.toInt (q_93.1 24 3) = Int32.toInt (q_70.1 24 3) := by rw [eq_93, cui_n (by decide)]
        have w_162 : Int32.toInt (q_97.1 24 3) = Int32.toInt (q_93.1 24 3) := by rw [i_100.1 24 3 (by decide) (by decide)]
        refine dOk_G (dnz_ok (show ¬ Int32.toInt (q_97.1 24 3) = 0 by omega)) ?_
        have f_163 : 0 ≤ Int32.toInt (q_93.1 24 7) ∧ Int32.toInt (q_93.1 24 7) ≤ 1001 := rg_24_7 hTq_93
        have w_164 : Int32.toInt (q_93.1 24 7) = Int32.toInt (q_70.1 24 7) := by rw [eq_93, cui_n (by decide)]
        refine dOk_V (ok_X7_emit_s25 q_97 0 (q_93.1 24 7) i_99 (show 0 ≤ (0 : Int) ∧ (0 : Int) ≤ 12 by omega) (show 0 ≤ Int32.toInt (q_93.1 24 7) ∧ Int32.toInt (q_93.1 24 7) ≤ 2000 by omega)) (fun q_165 h_166 => ?_)
        replace h_166 : (TC q_165) ∧ (cFr [31] [(25, 7)] q_97 q_165) := h_166
        obtain ⟨i_167, i_168⟩ := h_166
        have hFq_165 : cFr [31] [(24, 4), (24, 5), (24, 6), (24, 7), (24, 8), (24, 9), (24, 10), (25, 7)] q q_165 := hFq_97.t i_168 (by decide) (by decide)
        have f_169 : 0 ≤ Int32.toInt (q_165.1 24 0) ∧ Int32.toInt (q_165.1 24 0) ≤ 1 := rg_24_0 i_167
        have f_170 : 0 ≤ Int32.toInt (q_97.1 24 0) ∧ Int32.toInt (q_97.1 24 0) ≤ 1 := rg_24_0 i_99
        have w_171 : Int32.toInt (q_97.1 24 0) = Int32.toInt (q_93.1 24 0) := by rw [i_100.1 24 0 (by decide) (by decide)]
        have w_172 : Int32.toInt (q_165.1 24 0) = Int32.toInt (q_97.1 24 0) := by rw [i_168.1 24 0 (by decide) (by decide)]
        have f_173 : 0 ≤ Int32.toInt (q_165.1 24 3) ∧ Int32.toInt (q_165.1 24 3) ≤ 1 := rg_24_3 i_167
        have w_174 : Int32.toInt (q_165.1 24 3) = Int32.toInt (q_97.1 24 3) := by rw [i_168.1 24 3 (by decide) (by decide)]
        have f_175 : 0 ≤ Int32.toInt (q_165.1 24 9) ∧ Int32.toInt (q_165.1 24 9) ≤ 8 := rg_24_9 i_167
        have f_176 : 0 ≤ Int32.toInt (q_97.1 24 9) ∧ Int32.toInt (q_97.1 24 9) ≤ 8 := rg_24_9 i_99
        have f_177 : 0 ≤ Int32.toInt (q_93.1 24 9) ∧ Int32.toInt (q_93.1 24 9) ≤ 8 := rg_24_9 hTq_93
        have w_178 : Int32.toInt (q_93.1 24 9) = Int32.toInt (q_70.1 24 9) := by rw [eq_93, cui_n (by decide)]
        have w_179 : Int32.toInt (q_97.1 24 9) = Int32.toInt (q_93.1 24 9) := by rw [i_100.1 24 9 (by decide) (by decide)]
        have w_180 : Int32.toInt (q_165.1 24 9) = Int32.toInt (q_97.1 24 9) := by rw [i_168.1 24 9 (by decide) (by decide)]
        exact hn_2 q_165 i_167 (((((by rw [eq_93]; exact (((cFr.rf : cFr [31] [(24, 4), (24, 5), (24, 6), (24, 7), (24, 8), (24, 9), (24, 10), (25, 7)] q q).t hF_80 (by decide) (by decide)) : cFr [31] [(24, 4), (24, 5), (24, 6), (24, 7), (24, 8), (24, 9), (24, 10), (25, 7)] q q_70).f (by decide)) : cFr [31] [(24, 4), (24, 5), (24, 6), (24, 7), (24, 8), (24, 9), (24, 10), (25, 7)] q q_93).t i_100 (by decide) (by decide)) : cFr [31] [(24, 4), (24, 5), (24, 6), (24, 7), (24, 8), (24, 9), (24, 10), (25, 7)] q q_97).t i_168 (by decide) (by decide)) (show ¬ Int32.toInt (q_165.1 24 0) = 0 by omega) (show ¬ Int32.toInt (q_165.1 24 3) = 0 by omega) (show Int32.toInt (q_165.1 24 9) = Int32.toInt (q.1 24 9) by omega)
    · unfold zX4_readPart_s24_98
      refine dOk_V (ok_X4_fail_s24 q_70 hT_79) (fun q_181 h_182 => ?_)
      replace h_182 : (TC q_181) ∧ (cFr [] [(24, 10)] q_70 q_181) := h_182
      obtain ⟨i_183, i_184⟩ := h_182
      have hFq_181 : cFr [31] [(24, 4), (24, 5), (24, 6), (24, 7), (24, 8), (24, 9), (24, 10), (25, 7)] q q_181 := hF_80.t i_184 (by decide) (by decide)
      have f_185 : 0 ≤ Int32.toInt (q_181.1 24 9) ∧ Int32.toInt (q_181.1 24 9) ≤ 8 := rg_24_9 i_183
      have w_186 : Int32.toInt (q_181.1 24 9) = Int32.toInt (q_70.1 24 9) := by rw [i_184.1 24 9 (by decide) (by decide)]
      exact dOk_some (show (TC q_181) ∧ (cFr [31] [(24, 4), (24, 5), (24, 6), (24, 7), (24, 8), (24, 9), (24, 10), (25, 7)] q q_181) ∧ (Int32.toInt (q_181.1 24 9) = Int32.toInt (q.1 24 9)) from ⟨i_183, hFq_181, by omega⟩)
  have hn_190 : ∀ (q_187 : dK) (x1_188 : Int32) (y0_189 : Int32), TC q_187 → cFr [31] [(24, 4), (24, 5), (24, 6), (24, 7), (24, 8), (24, 9), (24, 10), (25, 7)] q q_187 → (¬ Int32.toInt (q_187.1 24 0) = 0) → (¬ Int32.toInt (q_187.1 24 3) = 0) → (Int32.toInt (q_187.1 24 9) = Int32.toInt (q.1 24 9)) → ((Int32.toInt y0_189 = 1 ∧ Int32.toInt (q_187.1 24 7) ≤ 1000) ∨ Int32.toInt y0_189 = 0) → (-1 ≤ Int32.toInt x1_188) → (Int32.toInt x1_188 ≤ 47) → dOk (zX4_readPart_s24_79 kS q_187 x1_188 y0_189) (fun (o : dK) => (TC o) ∧ (cFr [31] [(24, 4), (24, 5), (24, 6), (24, 7), (24, 8), (24, 9), (24, 10), (25, 7)] q o) ∧ (Int32.toInt (o.1 24 9) = Int32.toInt (q.1 24 9))) := by
    intro q_187 x1_188 y0_189 hT_197 hF_198 b_191 b_192 b_193 b_194 b_195 b_196
    unfold zX4_readPart_s24_79
    have f_199 : 0 ≤ Int32.toInt (q_187.1 24 0) ∧ Int32.toInt (q_187.1 24 0) ≤ 1 := rg_24_0 hT_197
    have f_200 : 0 ≤ Int32.toInt (q.1 24 0) ∧ Int32.toInt (q.1 24 0) ≤ 1 := rg_24_0 hT
    have w_201 : Int32.toInt (q_187.1 24 0) = Int32.toInt (q.1 24 0) := by rw [hF_198.1 24 0 (by decide) (by decide)]
    have f_202 : 0 ≤ Int32.toInt (q_187.1 24 3) ∧ Int32.toInt (q_187.1 24 3) ≤ 1 := rg_24_3 hT_197
    have f_203 : 0 ≤ Int32.toInt (q.1 24 3) ∧ Int32.toInt (q.1 24 3) ≤ 1 := rg_24_3 hT
    have w_204 : Int32.toInt (q_187.1 24 3) = Int32.toInt (q.1 24 3) := by rw [hF_198.1 24 3 (by decide) (by decide)]
    have f_205 : 0 ≤ Int32.toInt (q_187.1 24 9) ∧ Int32.toInt (q_187.1 24 9) ≤ 8 := rg_24_9 hT_197
    have f_206 : 0 ≤ Int32.toInt (q.1 24 9) ∧ Int32.toInt (q.1 24 9) ≤ 8 := rg_24_9 hT
    have f_207 : 0 ≤ Int32.toInt (q_187.1 24 7) ∧ Int32.toInt (q_187.1 24 7) ≤ 1001 := rg_24_7 hT_197
    refine dOk_eq (A := Int32.toInt x1_188) (B := (-1)) rfl (by decide) (fun c_208z c_208 => ?_) (fun c_209z c_209 => ?_)
    · refine dOk_eq (A := Int32.toInt y0_189) (B := 0) rfl (by decide) (fun c_211z c_211 => ?_) (fun c_212z c_212 => ?_)
      · unfold zX4_readPart_s24_98
        refine dOk_V (ok_X4_fail_s24 q_187 hT_197) (fun q_214 h_215 => ?_)
        replace h_215 : (TC q_214) ∧ (cFr [] [(24, 10)] q_187 q_214) := h_215
        obtain ⟨i_216, i_217⟩ := h_215
        have hFq_214 : cFr [31] [(24, 4), (24, 5), (24, 6), (24, 7), (24, 8), (24, 9), (24, 10), (25, 7)] q q_214 := hF_198.t i_217 (by decide) (by decide)
        have f_218 : 0 ≤ Int32.toInt (q_214.1 24 9) ∧ Int32.toInt (q_214.1 24 9) ≤ 8 := rg_24_9 i_216
        have w_219 : Int32.toInt (q_214.1 24 9) = Int32.toInt (q_187.1 24 9) := by rw [i_217.1 24 9 (by decide) (by decide)]
        exact dOk_some (show (TC q_214) ∧ (cFr [31] [(24, 4), (24, 5), (24, 6), (24, 7), (24, 8), (24, 9), (24, 10), (25, 7)] q q_214) ∧ (Int32.toInt (q_214.1 24 9) = Int32.toInt (q.1 24 9)) from ⟨i_216, hFq_214, by omega⟩)
      · exact hn_73 q_187 x1_188 y0_189 hT_197 ((cFr.rf : cFr [31] [(24, 4), (24, 5), (24, 6), (24, 7), (24, 8), (24, 9), (24, 10), (25, 7)] q q).t hF_198 (by decide) (by decide)) (show ¬ Int32.toInt (q_187.1 24 0) = 0 by omega) (show ¬ Int32.toInt (q_187.1 24 3) = 0 by omega) (show Int32.toInt (q_187.1 24 9) = Int32.toInt (q.1 24 9) by omega) (show (Int32.toInt y0_189 = 1 ∧ Int32.toInt (q_187.1 24 7) ≤ 1000) ∨ (Int32.toInt y0_189 = 0 ∧ 0 ≤ Int32.toInt x1_188) by omega) (show Int32.toInt x1_188 ≤ 47 by omega)
    · exact hn_73 q_187 x1_188 y0_189 hT_197 ((cFr.rf : cFr [31] [(24, 4), (24, 5), (24, 6), (24, 7), (24, 8), (24, 9), (24, 10), (25, 7)] q q).t hF_198 (by decide) (by decide)) (show ¬ Int32.toInt (q_187.1 24 0) = 0 by omega) (show ¬ Int32.toInt (q_187.1 24 3) = 0 by omega) (show Int32.toInt (q_187.1 24 9) = Int32.toInt (q.1 24 9) by omega) (show (Int32.toInt y0_189 = 1 ∧ Int32.toInt (q_187.1 24 7) ≤ 1000) ∨ (Int32.toInt y0_189 = 0 ∧ 0 ≤ Int32.toInt x1_188) by omega) (show Int32.toInt x1_188 ≤ 47 by omega)
  have f_220 : 0 ≤ Int32.toInt (q.1 24 0) ∧ Int32.toInt (q.1 24 0) ≤ 1 := rg_24_0 hT
  refine dOk_B (ok_X4_isSign_s24 q 91 hT (show ¬ Int32.toInt (q.1 24 0) = 0 by omega)) (fun r_221 q_222 h_223 => ?_)
  replace h_223 : (q_222 = q) ∧ ((Int32.toInt r_221 = 0 ∨ Int32.toInt r_221 = 1)) := h_223
  obtain ⟨i_224, i_225⟩ := h_223
  subst q_222
  refine dOk_eq (A := Int32.toInt r_221) (B := 0) rfl (by decide) (fun c_226z c_226 => ?_) (fun c_227z c_227 => ?_)
  · have f_229 : 0 ≤ Int32.toInt (q.1 24 2) ∧ Int32.toInt (q.1 24 2) ≤ 1 := rg_24_2 hT
    refine dOk_eq (A := Int32.toInt (q.1 24 2)) (B := 0) rfl (by decide) (fun c_230z c_230 => ?_) (fun c_231z c_231 => ?_)
    · unfold zX4_readPart_s24_52
      refine dOk_B (ok_X4_wordIn_s24_t3 q hT (show ¬ Int32.toInt (q.1 24 0) = 0 by omega)) (fun r_233 q_234 h_235 => ?_)
      replace h_235 : (q_234 = q) ∧ (-1 ≤ Int32.toInt r_233 ∧ Int32.toInt r_233 ≤ 47) := h_235
      obtain ⟨i_236, i_237⟩ := h_235
      subst q_234
      refine dOk_eq (A := Int32.toInt (q.1 24 4)) (B := 2) rfl (by decide) (fun c_238z c_238 => ?_) (fun c_239z c_239 => ?_)
      · have f_241 : 0 ≤ Int32.toInt (q.1 24 7) ∧ Int32.toInt (q.1 24 7) ≤ 1001 := rg_24_7 hT
        refine dOk_lt (A := 1000) (B := Int32.toInt (q.1 24 7)) (by decide) rfl (fun c_242 => ?_) (fun c_243 => ?_)
        · unfold zX4_readPart_s24_78
          have f_244 : 0 ≤ Int32.toInt (q.1 24 3) ∧ Int32.toInt (q.1 24 3) ≤ 1 := rg_24_3 hT
          have f_245 : 0 ≤ Int32.toInt (q.1 24 9) ∧ Int32.toInt (q.1 24 9) ≤ 8 := rg_24_9 hT
          exact hn_190 q r_233 0 hT cFr.rf (show ¬ Int32.toInt (q.1 24 0) = 0 by omega) (show ¬ Int32.toInt (q.1 24 3) = 0 by omega) (show Int32.toInt (q.1 24 9) = Int32.toInt (q.1 24 9) by omega) (show ((0 : Int) = 1 ∧ Int32.toInt (q.1 24 7) ≤ 1000) ∨ (0 : Int) = 0 by omega) (show -1 ≤ Int32.toInt r_233 by omega) (show Int32.toInt r_233 ≤ 47 by omega)
        · have f_246 : 0 ≤ Int32.toInt (q.1 24 3) ∧ Int32.toInt (q.1 24 3) ≤ 1 := rg_24_3 hT
          have f_247 : 0 ≤ Int32.toInt (q.1 24 9) ∧ Int32.toInt (q.1 24 9) ≤ 8 := rg_24_9 hT
          exact hn_190 q r_233 1 hT cFr.rf (show ¬ Int32.toInt (q.1 24 0) = 0 by omega) (show ¬ Int32.toInt (q.1 24 3) = 0 by omega) (show Int32.toInt (q.1 24 9) = Int32.toInt (q.1 24 9) by omega) (show ((1 : Int) = 1 ∧ Int32.toInt (q.1 24 7) ≤ 1000) ∨ (1 : Int) = 0 by omega) (show -1 ≤ Int32.toInt r_233 by omega) (show Int32.toInt r_233 ≤ 47 by omega)
      · unfold zX4_readPart_s24_78
        have f_248 : 0 ≤ Int32.toInt (q.1 24 3) ∧ Int32.toInt (q.1 24 3) ≤ 1 := rg_24_3 hT
        have f_249 : 0 ≤ Int32.toInt (q.1 24 9) ∧ Int32.toInt (q.1 24 9) ≤ 8 := rg_24_9 hT
        have f_250 : 0 ≤ Int32.toInt (q.1 24 7) ∧ Int32.toInt (q.1 24 7) ≤ 1001 := rg_24_7 hT
        exact hn_190 q r_233 0 hT cFr.rf (show ¬ Int32.toInt (q.1 24 0) = 0 by omega) (show ¬ Int32.toInt (q.1 24 3) = 0 by omega) (show Int32.toInt (q.1 24 9) = Int32.toInt (q.1 24 9) by omega) (show ((0 : Int) = 1 ∧ Int32.toInt (q.1 24 7) ≤ 1000) ∨ (0 : Int) = 0 by omega) (show -1 ≤ Int32.toInt r_233 by omega) (show Int32.toInt r_233 ≤ 47 by omega)
    · refine dOk_B (ok_X4_wordIn_s24_t2 q hT (show ¬ Int32.toInt (q.1 24 0) = 0 by omega)) (fun r_251 q_252 h_253 => ?_)
      replace h_253 : (q_252 = q) ∧ (-1 ≤ Int32.toInt r_251 ∧ Int32.toInt r_251 ≤ 35) := h_253
      obtain ⟨i_254, i_255⟩ := h_253
      subst q_252
      refine dOk_eq (A := Int32.toInt (q.1 24 4)) (B := 2) rfl (by decide) (fun c_256z c_256 => ?_) (fun c_257z c_257 => ?_)
      · have f_259 : 0 ≤ Int32.toInt (q.1 24 7) ∧ Int32.toInt (q.1 24 7) ≤ 1001 := rg_24_7 hT
        refine dOk_lt (A := 1000) (B := Int32.toInt (q.1 24 7)) (by decide) rfl (fun c_260 => ?_) (fun c_261 => ?_)
        · unfold zX4_readPart_s24_78
          have f_262 : 0 ≤ Int32.toInt (q.1 24 3) ∧ Int32.toInt (q.1 24 3) ≤ 1 := rg_24_3 hT
          have f_263 : 0 ≤ Int32.toInt (q.1 24 9) ∧ Int32.toInt (q.1 24 9) ≤ 8 := rg_24_9 hT
          exact hn_190 q r_251 0 hT cFr.rf (show ¬ Int32.toInt (q.1 24 0) = 0 by omega) (show ¬ Int32.toInt (q.1 24 3) = 0 by omega) (show Int32.toInt (q.1 24 9) = Int32.toInt (q.1 24 9) by omega) (show ((0 : Int) = 1 ∧ Int32.toInt (q.1 24 7) ≤ 1000) ∨ (0 : Int) = 0 by omega) (show -1 ≤ Int32.toInt r_251 by omega) (show Int32.toInt r_251 ≤ 47 by omega)
        · have f_264 : 0 ≤ Int32.toInt (q.1 24 3) ∧ Int32.toInt (q.1 24 3) ≤ 1 := rg_24_3 hT
          have f_265 : 0 ≤ Int32.toInt (q.1 24 9) ∧ Int32.toInt (q.1 24 9) ≤ 8 := rg_24_9 hT
          exact hn_190 q r_251 1 hT cFr.rf (show ¬ Int32.toInt (q.1 24 0) = 0 by omega) (show ¬ Int32.toInt (q.1 24 3) = 0 by omega) (show Int32.toInt (q.1 24 9) = Int32.toInt (q.1 24 9) by omega) (show ((1 : Int) = 1 ∧ Int32.toInt (q.1 24 7) ≤ 1000) ∨ (1 : Int) = 0 by omega) (show -1 ≤ Int32.toInt r_251 by omega) (show Int32.toInt r_251 ≤ 47 by omega)
      · unfold zX4_readPart_s24_78
        have f_266 : 0 ≤ Int32.toInt (q.1 24 3) ∧ Int32.toInt (q.1 24 3) ≤ 1 := rg_24_3 hT
        have f_267 : 0 ≤ Int32.toInt (q.1 24 9) ∧ Int32.toInt (q.1 24 9) ≤ 8 := rg_24_9 hT
        have f_268 : 0 ≤ Int32.toInt (q.1 24 7) ∧ Int32.toInt (q.1 24 7) ≤ 1001 := rg_24_7 hT
        exact hn_190 q r_251 0 hT cFr.rf (show ¬ Int32.toInt (q.1 24 0) = 0 by omega) (show ¬ Int32.toInt (q.1 24 3) = 0 by omega) (show Int32.toInt (q.1 24 9) = Int32.toInt (q.1 24 9) by omega) (show ((0 : Int) = 1 ∧ Int32.toInt (q.1 24 7) ≤ 1000) ∨ (0 : Int) = 0 by omega) (show -1 ≤ Int32.toInt r_251 by omega) (show Int32.toInt r_251 ≤ 47 by omega)
  · refine dOk_B (ok_X4_openBracket_s24 q hT (show ¬ Int32.toInt (q.1 24 0) = 0 by omega)) (fun r_269 q_270 h_271 => ?_)
    replace h_271 : (TC q_270) ∧ (cFr [] [(24, 4), (24, 5), (24, 6), (24, 7), (24, 9), (24, 10)] q q_270) ∧ ((Int32.toInt r_269 = 1 ∧ Int32.toInt (q_270.1 24 9) = Int32.toInt (q.1 24 9) + 1 ∧ Int32.toInt (q.1 24 9) ≤ 7) ∨ (Int32.toInt r_269 = 0 ∧ Int32.toInt (q_270.1 24 9) = Int32.toInt (q.1 24 9))) := h_271
    obtain ⟨i_272, i_273, i_274⟩ := h_271
    have hFq_270 : cFr [31] [(24, 4), (24, 5), (24, 6), (24, 7), (24, 8), (24, 9), (24, 10), (25, 7)] q q_270 := (cFr.rf (q := q)).t i_273 (by decide) (by decide)
    have f_275 : 0 ≤ Int32.toInt (q_270.1 24 9) ∧ Int32.toInt (q_270.1 24 9) ≤ 8 := rg_24_9 i_272
    have f_276 : 0 ≤ Int32.toInt (q.1 24 9) ∧ Int32.toInt (q.1 24 9) ≤ 8 := rg_24_9 hT
    refine dOk_eq (A := Int32.toInt r_269) (B := 0) rfl (by decide) (fun c_277z c_277 => ?_) (fun c_278z c_278 => ?_)
    · unfold zX4_readPart_s24_36
      exact dOk_some (show (TC q_270) ∧ (cFr [31] [(24, 4), (24, 5), (24, 6), (24, 7), (24, 8), (24, 9), (24, 10), (25, 7)] q q_270) ∧ (Int32.toInt (q_270.1 24 9) = Int32.toInt (q.1 24 9)) from ⟨i_272, hFq_270, by omega⟩)
    · have f_280 : 0 ≤ Int32.toInt (q_270.1 24 0) ∧ Int32.toInt (q_270.1 24 0) ≤ 1 := rg_24_0 i_272
      have w_281 : Int32.toInt (q_270.1 24 0) = Int32.toInt (q.1 24 0) := by rw [i_273.1 24 0 (by decide) (by decide)]
      have f_282 : 0 ≤ Int32.toInt (q_270.1 24 3) ∧ Int32.toInt (q_270.1 24 3) ≤ 1 := rg_24_3 i_272
      have f_283 : 0 ≤ Int32.toInt (q.1 24 3) ∧ Int32.toInt (q.1 24 3) ≤ 1 := rg_24_3 hT
      have w_284 : Int32.toInt (q_270.1 24 3) = Int32.toInt (q.1 24 3) := by rw [i_273.1 24 3 (by decide) (by decide)]
      refine dOk_V (hkS q_270 i_272 (show ¬ Int32.toInt (q_270.1 24 0) = 0 by omega) (show ¬ Int32.toInt (q_270.1 24 3) = 0 by omega) (show 9 - Int32.toInt (q_270.1 24 9) ≤ (n : Int) by omega)) (fun q_285 h_286 => ?_)
      replace h_286 : (TC q_285) ∧ (cFr [31] [(24, 4), (24, 5), (24, 6), (24, 7), (24, 8), (24, 9), (24, 10), (25, 7)] q_270 q_285) ∧ (Int32.toInt (q_285.1 24 9) = Int32.toInt (q_270.1 24 9)) := h_286
      obtain ⟨i_287, i_288, i_289⟩ := h_286
      have hFq_285 : cFr [31] [(24, 4), (24, 5), (24, 6), (24, 7), (24, 8), (24, 9), (24, 10), (25, 7)] q q_285 := hFq_270.t i_288 (by decide) (by decide)
      have f_290 : 0 ≤ Int32.toInt (q_285.1 24 9) ∧ Int32.toInt (q_285.1 24 9) ≤ 8 := rg_24_9 i_287
      refine dOk_L (fun q_291 eq_291 => ?_)
      try have t_292 : Int32.toInt (q_285.1 24 9 - 1) = Int32.toInt (q_285.1 24 9) - 1 := ti_sub rfl (by decide) (by omega) (by omega)
      have hTq_291 : TC q_291 := by rw [eq_291]; exact st_24_9 i_287 (show (0 : Int) ≤ Int32.toInt (q_285.1 24 9 - 1) by omega) (show Int32.toInt (q_285.1 24 9 - 1) ≤ (8 : Int) by omega)
      have hFq_291 : cFr [31] [(24, 4), (24, 5), (24, 6), (24, 7), (24, 8), (24, 9), (24, 10), (25, 7)] q q_291 := by rw [eq_291]; exact hFq_285.f (by decide)
      have f_293 : 0 ≤ Int32.toInt (q_291.1 24 0) ∧ Int32.toInt (q_291.1 24 0) ≤ 1 := rg_24_0 hTq_291
      have f_294 : 0 ≤ Int32.toInt (q_285.1 24 0) ∧ Int32.toInt (q_285.1 24 0) ≤ 1 := rg_24_0 i_287
      have w_295 : Int32.toInt (q_285.1 24 0) = Int32.toInt (q_270.1 24 0) := by rw [i_288.1 24 0 (by decide) (by decide)]
      have w_296 : Int32.toInt (q_291.1 24 0) = Int32.toInt (q_285.1 24 0) := by rw [eq_291, cui_n (by decide)]
      refine dOk_V (ok_X4_expectSign_s24 q_291 93 hTq_291 (show ¬ Int32.toInt (q_291.1 24 0) = 0 by omega)) (fun q_297 h_298 => ?_)
      replace h_298 : (TC q_297) ∧ (cFr [] [(24, 4), (24, 5), (24, 6), (24, 7), (24, 10)] q_291 q_297) := h_298
      obtain ⟨i_299, i_300⟩ := h_298
      have hFq_297 : cFr [31] [(24, 4), (24, 5), (24, 6), (24, 7), (24, 8), (24, 9), (24, 10), (25, 7)] q q_297 := hFq_291.t i_300 (by decide) (by decide)
      unfold zX4_readPart_s24_36
      have f_301 : 0 ≤ Int32.toInt (q_297.1 24 9) ∧ Int32.toInt (q_297.1 24 9) ≤ 8 := rg_24_9 i_299
      have f_302 : 0 ≤ Int32.toInt (q_291.1 24 9) ∧ Int32.toInt (q_291.1 24 9) ≤ 8 := rg_24_9 hTq_291
      have w_303 : Int32.toInt (q_291.1 24 9) = Int32.toInt (q_285.1 24 9 - 1) := by rw [eq_291, cui_e]
      have w_304 : Int32.toInt (q_297.1 24 9) = Int32.toInt (q_291.1 24 9) := by rw [i_300.1 24 9 (by decide) (by decide)]
      exact dOk_some (show (TC q_297) ∧ (cFr [31] [(24, 4), (24, 5), (24, 6), (24, 7), (24, 8), (24, 9), (24, 10), (25, 7)] q q_297) ∧ (Int32.toInt (q_297.1 24 9) = Int32.toInt (q.1 24 9)) from ⟨i_299, hFq_297, by omega⟩)
end
section
set_option maxHeartbeats 4000000 in
set_option maxRecDepth 100000 in
theorem ok_X4_readTerm_s24 (kS : dK → Option (dK)) (n : Nat) (hkS : ∀ q9 : dK, TC q9 → (¬ Int32.toInt (q9.1 24 0) = 0) → (¬ Int32.toInt (q9.1 24 3) = 0) → (9 - Int32.toInt (q9.1 24 9) ≤ (n : Int)) → dOk (kS q9) (fun (o : dK) => (TC o) ∧ (cFr [31] [(24, 4), (24, 5), (24, 6), (24, 7), (24, 8), (24, 9), (24, 10), (25, 7)] q9 o) ∧ (Int32.toInt (o.1 24 9) = Int32.toInt (q9.1 24 9)))) (q : dK) (hT : TC q) (hp0 : ¬ Int32.toInt (q.1 24 0) = 0) (hp1 : ¬ Int32.toInt (q.1 24 3) = 0) (hp2 : 9 - Int32.toInt (q.1 24 9) ≤ (n : Int) + 1) : dOk (zX4_readTerm_s24 kS q) (fun (o : dK) => (TC o) ∧ (cFr [31] [(24, 4), (24, 5), (24, 6), (24, 7), (24, 8), (24, 9), (24, 10), (25, 7)] q o) ∧ (Int32.toInt (o.1 24 9) = Int32.toInt (q.1 24 9))) := by
  unfold zX4_readTerm_s24
  have f_1 : 0 ≤ Int32.toInt (q.1 24 0) ∧ Int32.toInt (q.1 24 0) ≤ 1 := rg_24_0 hT
  have f_2 : 0 ≤ Int32.toInt (q.1 24 3) ∧ Int32.toInt (q.1 24 3) ≤ 1 := rg_24_3 hT
  have f_3 : 0 ≤ Int32.toInt (q.1 24 9) ∧ Int32.toInt (q.1 24 9) ≤ 8 := rg_24_9 hT
  refine dOk_V (ok_X4_readPart_s24 kS n hkS q hT (show ¬ Int32.toInt (q.1 24 0) = 0 by omega) (show ¬ Int32.toInt (q.1 24 3) = 0 by omega) (show 9 - Int32.toInt (q.1 24 9) ≤ (n : Int) + 1 by omega)) (fun q_4 h_5 => ?_)
  replace h_5 : (TC q_4) ∧ (cFr [31] [(24, 4), (24, 5), (24, 6), (24, 7), (24, 8), (24, 9), (24, 10), (25, 7)] q q_4) ∧ (Int32.toInt (q_4.1 24 9) = Int32.toInt (q.1 24 9)) := h_5
  obtain ⟨i_6, i_7, i_8⟩ := h_5
  have hFq_4 : cFr [31] [(24, 4), (24, 5), (24, 6), (24, 7), (24, 8), (24, 9), (24, 10), (25, 7)] q q_4 := (cFr.rf (q := q)).t i_7 (by decide) (by decide)
  have f_9 : 0 ≤ Int32.toInt (q_4.1 24 9) ∧ Int32.toInt (q_4.1 24 9) ≤ 8 := rg_24_9 i_6
  unfold zX4_readTerm_s24_6
  refine dFix_ok (fun (a : dK × Int32) => (TC a.1) ∧ (cFr [31] [(24, 4), (24, 5), (24, 6), (24, 7), (24, 8), (24, 9), (24, 10), (25, 7)] q_4 a.1) ∧ (0 ≤ Int32.toInt a.2) ∧ (Int32.toInt a.2 ≤ 400) ∧ (Int32.toInt (a.1.1 24 9) = Int32.toInt (q_4.1 24 9))) (fun (a : dK × Int32) => (400 - Int32.toInt a.2).toNat) ?_ _ ?_ _ (dF_gt ?_)
  · intro a ha k_11 hk_10
    obtain ⟨q_12, x1_13⟩ := a
    replace ha : (TC q_12) ∧ (cFr [31] [(24, 4), (24, 5), (24, 6), (24, 7), (24, 8), (24, 9), (24, 10), (25, 7)] q_4 q_12) ∧ (0 ≤ Int32.toInt x1_13) ∧ (Int32.toInt x1_13 ≤ 400) ∧ (Int32.toInt (q_12.1 24 9) = Int32.toInt (q_4.1 24 9)) := ha
    obtain ⟨a_14, a_15, a_16, a_17, a_18⟩ := ha
    show dOk (zX4_readTerm_s24_6b kS (fun q x1 => k_11 (q, x1)) q_12 x1_13) _
    unfold zX4_readTerm_s24_6b
    have hFq_12 : cFr [31] [(24, 4), (24, 5), (24, 6), (24, 7), (24, 8), (24, 9), (24, 10), (25, 7)] q q_12 := hFq_4.t a_15 (by decide) (by decide)
    have f_19 : 0 ≤ Int32.toInt (q_12.1 24 9) ∧ Int32.toInt (q_12.1 24 9) ≤ 8 := rg_24_9 a_14
    have f_20 : 0 ≤ Int32.toInt (q_12.1 24 1) ∧ Int32.toInt (q_12.1 24 1) ≤ 400 := rg_24_1 a_14
    have f_21 : 0 ≤ Int32.toInt (q_4.1 24 1) ∧ Int32.toInt (q_4.1 24 1) ≤ 400 := rg_24_1 i_6
    have f_22 : 0 ≤ Int32.toInt (q.1 24 1) ∧ Int32.toInt (q.1 24 1) ≤ 400 := rg_24_1 hT
    have w_23 : Int32.toInt (q_4.1 24 1) = Int32.toInt (q.1 24 1) := by rw [i_7.1 24 1 (by decide) (by decide)]
    have w_24 : Int32.toInt (q_12.1 24 1) = Int32.toInt (q_4.1 24 1) := by rw [a_15.1 24 1 (by decide) (by decide)]
    refine dOk_le (A := Int32.toInt (q_12.1 24 1)) (B := Int32.toInt x1_13) rfl rfl (fun c_25 => ?_) (fun c_26 => ?_)
    · unfold zX4_readTerm_s24_59
      exact dOk_some (show (TC q_12) ∧ (cFr [31] [(24, 4), (24, 5), (24, 6), (24, 7), (24, 8), (24, 9), (24, 10), (25, 7)] q q_12) ∧ (Int32.toInt (q_12.1 24 9) = Int32.toInt (q.1 24 9)) from ⟨a_14, hFq_12, by omega⟩)
    · refine dOk_eq (A := Int32.toInt (q_12.1 24 10)) (B := (-1)) rfl (by decide) (fun c_27z c_27 => ?_) (fun c_28z c_28 => ?_)
      · have f_30 : 0 ≤ Int32.toInt (q_12.1 24 0) ∧ Int32.toInt (q_12.1 24 0) ≤ 1 := rg_24_0 a_14
        have f_31 : 0 ≤ Int32.toInt (q_4.1 24 0) ∧ Int32.toInt (q_4.1 24 0) ≤ 1 := rg_24_0 i_6
        have w_32 : Int32.toInt (q_4.1 24 0) = Int32.toInt (q.1 24 0) := by rw [i_7.1 24 0 (by decide) (by decide)]
        have w_33 : Int32.toInt (q_12.1 24 0) = Int32.toInt (q_4.1 24 0) := by rw [a_15.1 24 0 (by decide) (by decide)]
        refine dOk_B (ok_X4_signIn_s24_t4 q_12 4 a_14 (show ¬ Int32.toInt (q_12.1 24 0) = 0 by omega) (show 0 ≤ (4 : Int) by omega) (show (4 : Int) ≤ 10 by omega)) (fun r_34 q_35 h_36 => ?_)
        replace h_36 : (q_35 = q_12) ∧ (-1 ≤ Int32.toInt r_34) ∧ (Int32.toInt r_34 ≤ (4 : Int) + 2) := h_36
        obtain ⟨i_37, i_38, i_39⟩ := h_36
        subst q_35
        refine dOk_eq (A := Int32.toInt r_34) (B := (-1)) rfl (by decide) (fun c_40z c_40 => ?_) (fun c_41z c_41 => ?_)
        · exact dOk_some (show (TC q_12) ∧ (cFr [31] [(24, 4), (24, 5), (24, 6), (24, 7), (24, 8), (24, 9), (24, 10), (25, 7)] q q_12) ∧ (Int32.toInt (q_12.1 24 9) = Int32.toInt (q.1 24 9)) from ⟨a_14, hFq_12, by omega⟩)
        · refine dOk_V (ok_X4_step_s24 q_12 a_14 (show ¬ Int32.toInt (q_12.1 24 0) = 0 by omega)) (fun q_43 h_44 => ?_)
          replace h_44 : (TC q_43) ∧ (cFr [] [(24, 4), (24, 5), (24, 6), (24, 7)] q_12 q_43) := h_44
          obtain ⟨i_45, i_46⟩ := h_44
          have hFq_43 : cFr [31] [(24, 4), (24, 5), (24, 6), (24, 7), (24, 8), (24, 9), (24, 10), (25, 7)] q q_43 := hFq_12.t i_46 (by decide) (by decide)
          have f_47 : 0 ≤ Int32.toInt (q_43.1 24 0) ∧ Int32.toInt (q_43.1 24 0) ≤ 1 := rg_24_0 i_45
          have w_48 : Int32.toInt (q_43.1 24 0) = Int32.toInt (q_12.1 24 0) := by rw [i_46.1 24 0 (by decide) (by decide)]
          have f_49 : 0 ≤ Int32.toInt (q_43.1 24 3) ∧ Int32.toInt (q_43.1 24 3) ≤ 1 := rg_24_3 i_45
          have f_50 : 0 ≤ Int32.toInt (q_12.1 24 3) ∧ Int32.toInt (q_12.1 24 3) ≤ 1 := rg_24_3 a_14
          have f_51 : 0 ≤ Int32.toInt (q_4.1 24 3) ∧ Int32.toInt (q_4.1 24 3) ≤ 1 := rg_24_3 i_6
          have w_52 : Int32.toInt (q_4.1 24 3) = Int32.toInt (q.1 24 3) := by rw [i_7.1 24 3 (by decide) (by decide)]
          have w_53 : Int32.toInt (q_12.1 24 3) = Int32.toInt (q_4.1 24 3) := by rw [a_15.1 24 3 (by decide) (by decide)]
          have w_54 : Int32.toInt (q_43.1 24 3) = Int32.toInt (q_12.1 24 3) := by rw [i_46.1 24 3 (by decide) (by decide)]
          have f_55 : 0 ≤ Int32.toInt (q_43.1 24 9) ∧ Int32.toInt (q_43.1 24 9) ≤ 8 := rg_24_9 i_45
          have w_56 : Int32.toInt (q_43.1 24 9) = Int32.toInt (q_12.1 24 9) := by rw [i_46.1 24 9 (by decide) (by decide)]
          refine dOk_V (ok_X4_readPart_s24 kS n hkS q_43 i_45 (show ¬ Int32.toInt (q_43.1 24 0) = 0 by omega) (show ¬ Int32.toInt (q_43.1 24 3) = 0 by omega) (show 9 - Int32.toInt (q_43.1 24 9) ≤ (n : Int) + 1 by omega)) (fun q_57 h_58 => ?_)
          replace h_58 : (TC q_57) ∧ (cFr [31] [(24, 4), (24, 5), (24, 6), (24, 7), (24, 8), (24, 9), (24, 10), (25, 7)] q_43 q_57) ∧ (Int32.toInt (q_57.1 24 9) = Int32.toInt (q_43.1 24 9)) := h_58
          obtain ⟨i_59, i_60, i_61⟩ := h_58
          have hFq_57 : cFr [31] [(24, 4), (24, 5), (24, 6), (24, 7), (24, 8), (24, 9), (24, 10), (25, 7)] q q_57 := hFq_43.t i_60 (by decide) (by decide)
          have f_62 : 0 ≤ Int32.toInt (q_57.1 24 9) ∧ Int32.toInt (q_57.1 24 9) ≤ 8 := rg_24_9 i_59
          have f_63 : 0 ≤ Int32.toInt (q_57.1 24 3) ∧ Int32.toInt (q_57.1 24 3) ≤ 1 := rg_24_3 i_59
          have w_64 : Int32.toInt (q_57.1 24 3) = Int32.toInt (q_43.1 24 3) := by rw [i_60.1 24 3 (by decide) (by decide)]
          refine dOk_G (dnz_ok (show ¬ Int32.toInt (q_57.1 24 3) = 0 by omega)) ?_
          refine dOk_V (ok_X7_emit_s25 q_57 r_34 0 i_59 (show 0 ≤ Int32.toInt r_34 ∧ Int32.toInt r_34 ≤ 12 by omega) (show 0 ≤ (0 : Int) ∧ (0 : Int) ≤ 2000 by omega)) (fun q_65 h_66 => ?_)
          replace h_66 : (TC q_65) ∧ (cFr [31] [(25, 7)] q_57 q_65) := h_66
          obtain ⟨i_67, i_68⟩ := h_66
          have hFq_65 : cFr [31] [(24, 4), (24, 5), (24, 6), (24, 7), (24, 8), (24, 9), (24, 10), (25, 7)] q q_65 := hFq_57.t i_68 (by decide) (by decide)
          try have t_69 : Int32.toInt (x1_13 + 1) = Int32.toInt x1_13 + 1 := ti_add rfl (by decide) (by omega) (by omega)
          have f_70 : 0 ≤ Int32.toInt (q_65.1 24 9) ∧ Int32.toInt (q_65.1 24 9) ≤ 8 := rg_24_9 i_67
          have w_71 : Int32.toInt (q_65.1 24 9) = Int32.toInt (q_57.1 24 9) := by rw [i_68.1 24 9 (by decide) (by decide)]
          exact hk_10 (q_65, (x1_13 + 1)) (show (TC q_65) ∧ (cFr [31] [(24, 4), (24, 5), (24, 6), (24, 7), (24, 8), (24, 9), (24, 10), (25, 7)] q_4 q_65) ∧ (0 ≤ Int32.toInt (x1_13 + 1)) ∧ (Int32.toInt (x1_13 + 1) ≤ 400) ∧ (Int32.toInt (q_65.1 24 9) = Int32.toInt (q_4.1 24 9)) from ⟨i_67, ((((((((cFr.rf : cFr [31] [(24, 4), (24, 5), (24, 6), (24, 7), (24, 8), (24, 9), (24, 10), (25, 7)] q_4 q_4).t a_15 (by decide) (by decide)) : cFr [31] [(24, 4), (24, 5), (24, 6), (24, 7), (24, 8), (24, 9), (24, 10), (25, 7)] q_4 q_12).t i_46 (by decide) (by decide)) : cFr [31] [(24, 4), (24, 5), (24, 6), (24, 7), (24, 8), (24, 9), (24, 10), (25, 7)] q_4 q_43).t i_60 (by decide) (by decide)) : cFr [31] [(24, 4), (24, 5), (24, 6), (24, 7), (24, 8), (24, 9), (24, 10), (25, 7)] q_4 q_57).t i_68 (by decide) (by decide)), by omega, by omega, by omega⟩) (show (400 - Int32.toInt (x1_13 + 1)).toNat < (400 - Int32.toInt x1_13).toNat by omega)
      · unfold zX4_readTerm_s24_59
        exact dOk_some (show (TC q_12) ∧ (cFr [31] [(24, 4), (24, 5), (24, 6), (24, 7), (24, 8), (24, 9), (24, 10), (25, 7)] q q_12) ∧ (Int32.toInt (q_12.1 24 9) = Int32.toInt (q.1 24 9)) from ⟨a_14, hFq_12, by omega⟩)
  · exact (show (TC q_4) ∧ (cFr [31] [(24, 4), (24, 5), (24, 6), (24, 7), (24, 8), (24, 9), (24, 10), (25, 7)] q_4 q_4) ∧ (0 ≤ (0 : Int)) ∧ ((0 : Int) ≤ 400) ∧ (Int32.toInt (q_4.1 24 9) = Int32.toInt (q_4.1 24 9)) from ⟨i_6, cFr.rf, by omega, by omega, by omega⟩)
  · show (400 - (0 : Int)).toNat < 1000000000000
    omega

set_option maxHeartbeats 4000000 in
set_option maxRecDepth 100000 in
theorem ok_X4_readSum_s24_o (kS : dK → Option (dK)) (n : Nat) (hkS : ∀ q9 : dK, TC q9 → (¬ Int32.toInt (q9.1 24 0) = 0) → (¬ Int32.toInt (q9.1 24 3) = 0) → (9 - Int32.toInt (q9.1 24 9) ≤ (n : Int)) → dOk (kS q9) (fun (o : dK) => (TC o) ∧ (cFr [31] [(24, 4), (24, 5), (24, 6), (24, 7), (24, 8), (24, 9), (24, 10), (25, 7)] q9 o) ∧ (Int32.toInt (o.1 24 9) = Int32.toInt (q9.1 24 9)))) (q : dK) (hT : TC q) (hp0 : ¬ Int32.toInt (q.1 24 0) = 0) (hp1 : ¬ Int32.toInt (q.1 24 3) = 0) (hp2 : 9 - Int32.toInt (q.1 24 9) ≤ (n : Int) + 1) : dOk (zX4_readSum_s24_o kS q) (fun (o : dK) => (TC o) ∧ (cFr [31] [(24, 4), (24, 5), (24, 6), (24, 7), (24, 8), (24, 9), (24, 10), (25, 7)] q o) ∧ (Int32.toInt (o.1 24 9) = Int32.toInt (q.1 24 9))) := by
  unfold zX4_readSum_s24_o
  have f_1 : 0 ≤ Int32.toInt (q.1 24 0) ∧ Int32.toInt (q.1 24 0) ≤ 1 := rg_24_0 hT
  have f_2 : 0 ≤ Int32.toInt (q.1 24 3) ∧ Int32.toInt (q.1 24 3) ≤ 1 := rg_24_3 hT
  have f_3 : 0 ≤ Int32.toInt (q.1 24 9) ∧ Int32.toInt (q.1 24 9) ≤ 8 := rg_24_9 hT
  refine dOk_V (ok_X4_readTerm_s24 kS n hkS q hT (show ¬ Int32.toInt (q.1 24 0) = 0 by omega) (show ¬ Int32.toInt (q.1 24 3) = 0 by omega) (show 9 - Int32.toInt (q.1 24 9) ≤ (n : Int) + 1 by omega)) (fun q_4 h_5 => ?_)
  replace h_5 : (TC q_4) ∧ (cFr [31] [(24, 4), (24, 5), (24, 6), (24, 7), (24, 8), (24, 9), (24, 10), (25, 7)] q q_4) ∧ (Int32.toInt (q_4.1 24 9) = Int32.toInt (q.1 24 9)) := h_5
  obtain ⟨i_6, i_7, i_8⟩ := h_5
  have hFq_4 : cFr [31] [(24, 4), (24, 5), (24, 6), (24, 7), (24, 8), (24, 9), (24, 10), (25, 7)] q q_4 := (cFr.rf (q := q)).t i_7 (by decide) (by decide)
  have f_9 : 0 ≤ Int32.toInt (q_4.1 24 9) ∧ Int32.toInt (q_4.1 24 9) ≤ 8 := rg_24_9 i_6
  unfold zX4_readSum_s24_6
  refine dFix_ok (fun (a : dK × Int32) => (TC a.1) ∧ (cFr [31] [(24, 4), (24, 5), (24, 6), (24, 7), (24, 8), (24, 9), (24, 10), (25, 7)] q_4 a.1) ∧ (0 ≤ Int32.toInt a.2) ∧ (Int32.toInt a.2 ≤ 400) ∧ (Int32.toInt (a.1.1 24 9) = Int32.toInt (q_4.1 24 9))) (fun (a : dK × Int32) => (400 - Int32.toInt a.2).toNat) ?_ _ ?_ _ (dF_gt ?_)
  · intro a ha k_11 hk_10
    obtain ⟨q_12, x1_13⟩ := a
    replace ha : (TC q_12) ∧ (cFr [31] [(24, 4), (24, 5), (24, 6), (24, 7), (24, 8), (24, 9), (24, 10), (25, 7)] q_4 q_12) ∧ (0 ≤ Int32.toInt x1_13) ∧ (Int32.toInt x1_13 ≤ 400) ∧ (Int32.toInt (q_12.1 24 9) = Int32.toInt (q_4.1 24 9)) := ha
    obtain ⟨a_14, a_15, a_16, a_17, a_18⟩ := ha
    show dOk (zX4_readSum_s24_6b kS (fun q x1 => k_11 (q, x1)) q_12 x1_13) _
    unfold zX4_readSum_s24_6b
    have hFq_12 : cFr [31] [(24, 4), (24, 5), (24, 6), (24, 7), (24, 8), (24, 9), (24, 10), (25, 7)] q q_12 := hFq_4.t a_15 (by decide) (by decide)
    have f_19 : 0 ≤ Int32.toInt (q_12.1 24 9) ∧ Int32.toInt (q_12.1 24 9) ≤ 8 := rg_24_9 a_14
    have f_20 : 0 ≤ Int32.toInt (q_12.1 24 1) ∧ Int32.toInt (q_12.1 24 1) ≤ 400 := rg_24_1 a_14
    have f_21 : 0 ≤ Int32.toInt (q_4.1 24 1) ∧ Int32.toInt (q_4.1 24 1) ≤ 400 := rg_24_1 i_6
    have f_22 : 0 ≤ Int32.toInt (q.1 24 1) ∧ Int32.toInt (q.1 24 1) ≤ 400 := rg_24_1 hT
    have w_23 : Int32.toInt (q_4.1 24 1) = Int32.toInt (q.1 24 1) := by rw [i_7.1 24 1 (by decide) (by decide)]
    have w_24 : Int32.toInt (q_12.1 24 1) = Int32.toInt (q_4.1 24 1) := by rw [a_15.1 24 1 (by decide) (by decide)]
    refine dOk_le (A := Int32.toInt (q_12.1 24 1)) (B := Int32.toInt x1_13) rfl rfl (fun c_25 => ?_) (fun c_26 => ?_)
    · unfold zX4_readSum_s24_59
      exact dOk_some (show (TC q_12) ∧ (cFr [31] [(24, 4), (24, 5), (24, 6), (24, 7), (24, 8), (24, 9), (24, 10), (25, 7)] q q_12) ∧ (Int32.toInt (q_12.1 24 9) = Int32.toInt (q.1 24 9)) from ⟨a_14, hFq_12, by omega⟩)
    · refine dOk_eq (A := Int32.toInt (q_12.1 24 10)) (B := (-1)) rfl (by decide) (fun c_27z c_27 => ?_) (fun c_28z c_28 => ?_)
      · have f_30 : 0 ≤ Int32.toInt (q_12.1 24 0) ∧ Int32.toInt (q_12.1 24 0) ≤ 1 := rg_24_0 a_14
        have f_31 : 0 ≤ Int32.toInt (q_4.1 24 0) ∧ Int32.toInt (q_4.1 24 0) ≤ 1 := rg_24_0 i_6
        have w_32 : Int32.toInt (q_4.1 24 0) = Int32.toInt (q.1 24 0) := by rw [i_7.1 24 0 (by decide) (by decide)]
        have w_33 : Int32.toInt (q_12.1 24 0) = Int32.toInt (q_4.1 24 0) := by rw [a_15.1 24 0 (by decide) (by decide)]
        refine dOk_B (ok_X4_signIn_s24_t5 q_12 2 a_14 (show ¬ Int32.toInt (q_12.1 24 0) = 0 by omega) (show 0 ≤ (2 : Int) by omega) (show (2 : Int) ≤ 10 by omega)) (fun r_34 q_35 h_36 => ?_)
        replace h_36 : (q_35 = q_12) ∧ (-1 ≤ Int32.toInt r_34) ∧ (Int32.toInt r_34 ≤ (2 : Int) + 1) := h_36
        obtain ⟨i_37, i_38, i_39⟩ := h_36
        subst q_35
        refine dOk_eq (A := Int32.toInt r_34) (B := (-1)) rfl (by decide) (fun c_40z c_40 => ?_) (fun c_41z c_41 => ?_)
        · exact dOk_some (show (TC q_12) ∧ (cFr [31] [(24, 4), (24, 5), (24, 6), (24, 7), (24, 8), (24, 9), (24, 10), (25, 7)] q q_12) ∧ (Int32.toInt (q_12.1 24 9) = Int32.toInt (q.1 24 9)) from ⟨a_14, hFq_12, by omega⟩)
        · refine dOk_V (ok_X4_step_s24 q_12 a_14 (show ¬ Int32.toInt (q_12.1 24 0) = 0 by omega)) (fun q_43 h_44 => ?_)
          replace h_44 : (TC q_43) ∧ (cFr [] [(24, 4), (24, 5), (24, 6), (24, 7)] q_12 q_43) := h_44
          obtain ⟨i_45, i_46⟩ := h_44
          have hFq_43 : cFr [31] [(24, 4), (24, 5), (24, 6), (24, 7), (24, 8), (24, 9), (24, 10), (25, 7)] q q_43 := hFq_12.t i_46 (by decide) (by decide)
          have f_47 : 0 ≤ Int32.toInt (q_43.1 24 0) ∧ Int32.toInt (q_43.1 24 0) ≤ 1 := rg_24_0 i_45
          have w_48 : Int32.toInt (q_43.1 24 0) = Int32.toInt (q_12.1 24 0) := by rw [i_46.1 24 0 (by decide) (by decide)]
          have f_49 : 0 ≤ Int32.toInt (q_43.1 24 3) ∧ Int32.toInt (q_43.1 24 3) ≤ 1 := rg_24_3 i_45
          have f_50 : 0 ≤ Int32.toInt (q_12.1 24 3) ∧ Int32.toInt (q_12.1 24 3) ≤ 1 := rg_24_3 a_14
          have f_51 : 0 ≤ Int32.toInt (q_4.1 24 3) ∧ Int32.toInt (q_4.1 24 3) ≤ 1 := rg_24_3 i_6
          have w_52 : Int32.toInt (q_4.1 24 3) = Int32.toInt (q.1 24 3) := by rw [i_7.1 24 3 (by decide) (by decide)]
          have w_53 : Int32.toInt (q_12.1 24 3) = Int32.toInt (q_4.1 24 3) := by rw [a_15.1 24 3 (by decide) (by decide)]
          have w_54 : Int32.toInt (q_43.1 24 3) = Int32.toInt (q_12.1 24 3) := by rw [i_46.1 24 3 (by decide) (by decide)]
          have f_55 : 0 ≤ Int32.toInt (q_43.1 24 9) ∧ Int32.toInt (q_43.1 24 9) ≤ 8 := rg_24_9 i_45
          have w_56 : Int32.toInt (q_43.1 24 9) = Int32.toInt (q_12.1 24 9) := by rw [i_46.1 24 9 (by decide) (by decide)]
          refine dOk_V (ok_X4_readTerm_s24 kS n hkS q_43 i_45 (show ¬ Int32.toInt (q_43.1 24 0) = 0 by omega) (show ¬ Int32.toInt (q_43.1 24 3) = 0 by omega) (show 9 - Int32.toInt (q_43.1 24 9) ≤ (n : Int) + 1 by omega)) (fun q_57 h_58 => ?_)
          replace h_58 : (TC q_57) ∧ (cFr [31] [(24, 4), (24, 5), (24, 6), (24, 7), (24, 8), (24, 9), (24, 10), (25, 7)] q_43 q_57) ∧ (Int32.toInt (q_57.1 24 9) = Int32.toInt (q_43.1 24 9)) := h_58
          obtain ⟨i_59, i_60, i_61⟩ := h_58
          have hFq_57 : cFr [31] [(24, 4), (24, 5), (24, 6), (24, 7), (24, 8), (24, 9), (24, 10), (25, 7)] q q_57 := hFq_43.t i_60 (by decide) (by decide)
          have f_62 : 0 ≤ Int32.toInt (q_57.1 24 9) ∧ Int32.toInt (q_57.1 24 9) ≤ 8 := rg_24_9 i_59
          have f_63 : 0 ≤ Int32.toInt (q_57.1 24 3) ∧ Int32.toInt (q_57.1 24 3) ≤ 1 := rg_24_3 i_59
          have w_64 : Int32.toInt (q_57.1 24 3) = Int32.toInt (q_43.1 24 3) := by rw [i_60.1 24 3 (by decide) (by decide)]
          refine dOk_G (dnz_ok (show ¬ Int32.toInt (q_57.1 24 3) = 0 by omega)) ?_
          refine dOk_V (ok_X7_emit_s25 q_57 r_34 0 i_59 (show 0 ≤ Int32.toInt r_34 ∧ Int32.toInt r_34 ≤ 12 by omega) (show 0 ≤ (0 : Int) ∧ (0 : Int) ≤ 2000 by omega)) (fun q_65 h_66 => ?_)
          replace h_66 : (TC q_65) ∧ (cFr [31] [(25, 7)] q_57 q_65) := h_66
          obtain ⟨i_67, i_68⟩ := h_66
          have hFq_65 : cFr [31] [(24, 4), (24, 5), (24, 6), (24, 7), (24, 8), (24, 9), (24, 10), (25, 7)] q q_65 := hFq_57.t i_68 (by decide) (by decide)
          try have t_69 : Int32.toInt (x1_13 + 1) = Int32.toInt x1_13 + 1 := ti_add rfl (by decide) (by omega) (by omega)
          have f_70 : 0 ≤ Int32.toInt (q_65.1 24 9) ∧ Int32.toInt (q_65.1 24 9) ≤ 8 := rg_24_9 i_67
          have w_71 : Int32.toInt (q_65.1 24 9) = Int32.toInt (q_57.1 24 9) := by rw [i_68.1 24 9 (by decide) (by decide)]
          exact hk_10 (q_65, (x1_13 + 1)) (show (TC q_65) ∧ (cFr [31] [(24, 4), (24, 5), (24, 6), (24, 7), (24, 8), (24, 9), (24, 10), (25, 7)] q_4 q_65) ∧ (0 ≤ Int32.toInt (x1_13 + 1)) ∧ (Int32.toInt (x1_13 + 1) ≤ 400) ∧ (Int32.toInt (q_65.1 24 9) = Int32.toInt (q_4.1 24 9)) from ⟨i_67, ((((((((cFr.rf : cFr [31] [(24, 4), (24, 5), (24, 6), (24, 7), (24, 8), (24, 9), (24, 10), (25, 7)] q_4 q_4).t a_15 (by decide) (by decide)) : cFr [31] [(24, 4), (24, 5), (24, 6), (24, 7), (24, 8), (24, 9), (24, 10), (25, 7)] q_4 q_12).t i_46 (by decide) (by decide)) : cFr [31] [(24, 4), (24, 5), (24, 6), (24, 7), (24, 8), (24, 9), (24, 10), (25, 7)] q_4 q_43).t i_60 (by decide) (by decide)) : cFr [31] [(24, 4), (24, 5), (24, 6), (24, 7), (24, 8), (24, 9), (24, 10), (25, 7)] q_4 q_57).t i_68 (by decide) (by decide)), by omega, by omega, by omega⟩) (show (400 - Int32.toInt (x1_13 + 1)).toNat < (400 - Int32.toInt x1_13).toNat by omega)
      · unfold zX4_readSum_s24_59
        exact dOk_some (show (TC q_12) ∧ (cFr [31] [(24, 4), (24, 5), (24, 6), (24, 7), (24, 8), (24, 9), (24, 10), (25, 7)] q q_12) ∧ (Int32.toInt (q_12.1 24 9) = Int32.toInt (q.1 24 9)) from ⟨a_14, hFq_12, by omega⟩)
  · exact (show (TC q_4) ∧ (cFr [31] [(24, 4), (24, 5), (24, 6), (24, 7), (24, 8), (24, 9), (24, 10), (25, 7)] q_4 q_4) ∧ (0 ≤ (0 : Int)) ∧ ((0 : Int) ≤ 400) ∧ (Int32.toInt (q_4.1 24 9) = Int32.toInt (q_4.1 24 9)) from ⟨i_6, cFr.rf, by omega, by omega, by omega⟩)
  · show (400 - (0 : Int)).toNat < 1000000000000
    omega

theorem ok_X4_readSum_s24 (n : Nat) : ∀ (q : dK) (hT : TC q) (hp0 : ¬ Int32.toInt (q.1 24 0) = 0) (hp1 : ¬ Int32.toInt (q.1 24 3) = 0) (hp2 : 9 - Int32.toInt (q.1 24 9) ≤ (n : Int)), dOk (zX4_readSum_s24 n q) (fun (o : dK) => (TC o) ∧ (cFr [31] [(24, 4), (24, 5), (24, 6), (24, 7), (24, 8), (24, 9), (24, 10), (25, 7)] q o) ∧ (Int32.toInt (o.1 24 9) = Int32.toInt (q.1 24 9))) := by
  induction n with
  | zero =>
    intro q hT hp0 hp1 hp2
    have f := rg_24_9 hT
    exfalso
    omega
  | succ n ih =>
    intro q hT hp0 hp1 hp2
    show dOk (zX4_readSum_s24_o (zX4_readSum_s24 n) q) _
    exact ok_X4_readSum_s24_o (zX4_readSum_s24 n) n ih q hT hp0 hp1 (by omega)
end
section
set_option maxHeartbeats 4000000 in
set_option maxRecDepth 100000 in
theorem ok_X4_readPlain_s24 (kT : dK → Option (dK)) (n : Nat) (hkT : ∀ q9 : dK, TC q9 → (¬ Int32.toInt (q9.1 24 0) = 0) → (¬ Int32.toInt (q9.1 24 3) = 0) → (9 - Int32.toInt (q9.1 24 9) ≤ (n : Int)) → dOk (kT q9) (fun (o : dK) => (TC o) ∧ (cFr [31] [(24, 4), (24, 5), (24, 6), (24, 7), (24, 8), (24, 9), (24, 10), (25, 7)] q9 o) ∧ (Int32.toInt (o.1 24 9) = Int32.toInt (q9.1 24 9)))) (q : dK) (hT : TC q) (hp0 : ¬ Int32.toInt (q.1 24 0) = 0) (hp1 : ¬ Int32.toInt (q.1 24 3) = 0) (hp2 : 9 - Int32.toInt (q.1 24 9) ≤ (n : Int) + 1) : dOk (zX4_readPlain_s24 kT q) (fun (o : dK) => (TC o) ∧ (cFr [31] [(24, 4), (24, 5), (24, 6), (24, 7), (24, 8), (24, 9), (24, 10), (25, 7)] q o) ∧ (Int32.toInt (o.1 24 9) = Int32.toInt (q.1 24 9))) := by
  unfold zX4_readPlain_s24
  have hn_3 : ∀ (q_1 : dK) (x1_2 : Int32), TC q_1 → cFr [31] [(24, 4), (24, 5), (24, 6), (24, 7), (24, 8), (24, 9), (24, 10), (25, 7)] q q_1 → (¬ Int32.toInt (q_1.1 24 0) = 0) → (¬ Int32.toInt (q_1.1 24 3) = 0) → (Int32.toInt (q_1.1 24 9) = Int32.toInt (q.1 24 9)) → dOk (zX4_readPlain_s24_128 kT q_1 x1_2) (fun (o : dK) => (TC o) ∧ (cFr [31] [(24, 4), (24, 5), (24, 6), (24, 7), (24, 8), (24, 9), (24, 10), (25, 7)] q o) ∧ (Int32.toInt (o.1 24 9) = Int32.toInt (q.1 24 9))) := by
    intro q_1 x1_2 hT_7 hF_8 b_4 b_5 b_6
    unfold zX4_readPlain_s24_128
    have f_9 : 0 ≤ Int32.toInt (q_1.1 24 0) ∧ Int32.toInt (q_1.1 24 0) ≤ 1 := rg_24_0 hT_7
    have f_10 : 0 ≤ Int32.toInt (q.1 24 0) ∧ Int32.toInt (q.1 24 0) ≤ 1 := rg_24_0 hT
    have w_11 : Int32.toInt (q_1.1 24 0) = Int32.toInt (q.1 24 0) := by rw [hF_8.1 24 0 (by decide) (by decide)]
    have f_12 : 0 ≤ Int32.toInt (q_1.1 24 3) ∧ Int32.toInt (q_1.1 24 3) ≤ 1 := rg_24_3 hT_7
    have f_13 : 0 ≤ Int32.toInt (q.1 24 3) ∧ Int32.toInt (q.1 24 3) ≤ 1 := rg_24_3 hT
    have w_14 : Int32.toInt (q_1.1 24 3) = Int32.toInt (q.1 24 3) := by rw [hF_8.1 24 3 (by decide) (by decide)]
    have f_15 : 0 ≤ Int32.toInt (q_1.1 24 9) ∧ Int32.toInt (q_1.1 24 9) ≤ 8 := rg_24_9 hT_7
    have f_16 : 0 ≤ Int32.toInt (q.1 24 9) ∧ Int32.toInt (q.1 24 9) ≤ 8 := rg_24_9 hT
    refine dOk_eq (A := Int32.toInt x1_2) (B := 0) rfl (by decide) (fun c_17z c_17 => ?_) (fun c_18z c_18 => ?_)
    · unfold zX4_readPlain_s24_142
      exact dOk_some (show (TC q_1) ∧ (cFr [31] [(24, 4), (24, 5), (24, 6), (24, 7), (24, 8), (24, 9), (24, 10), (25, 7)] q q_1) ∧ (Int32.toInt (q_1.1 24 9) = Int32.toInt (q.1 24 9)) from ⟨hT_7, hF_8, by omega⟩)
    · refine dOk_G (dnz_ok (show ¬ Int32.toInt (q_1.1 24 3) = 0 by omega)) ?_
      refine dOk_V (ok_X7_emit_s25 q_1 10 0 hT_7 (show 0 ≤ (10 : Int) ∧ (10 : Int) ≤ 12 by omega) (show 0 ≤ (0 : Int) ∧ (0 : Int) ≤ 2000 by omega)) (fun q_20 h_21 => ?_)
      replace h_21 : (TC q_20) ∧ (cFr [31] [(25, 7)] q_1 q_20) := h_21
      obtain ⟨i_22, i_23⟩ := h_21
      have hFq_20 : cFr [31] [(24, 4), (24, 5), (24, 6), (24, 7), (24, 8), (24, 9), (24, 10), (25, 7)] q q_20 := hF_8.t i_23 (by decide) (by decide)
      unfold zX4_readPlain_s24_142
      have f_24 : 0 ≤ Int32.toInt (q_20.1 24 9) ∧ Int32.toInt (q_20.1 24 9) ≤ 8 := rg_24_9 i_22
      have w_25 : Int32.toInt (q_20.1 24 9) = Int32.toInt (q_1.1 24 9) := by rw [i_23.1 24 9 (by decide) (by decide)]
      exact dOk_some (show (TC q_20) ∧ (cFr [31] [(24, 4), (24, 5), (24, 6), (24, 7), (24, 8), (24, 9), (24, 10), (25, 7)] q q_20) ∧ (Int32.toInt (q_20.1 24 9) = Int32.toInt (q.1 24 9)) from ⟨i_22, hFq_20, by omega⟩)
  have hn_28 : ∀ (q_26 : dK) (x1_27 : Int32), TC q_26 → cFr [31] [(24, 4), (24, 5), (24, 6), (24, 7), (24, 8), (24, 9), (24, 10), (25, 7)] q q_26 → (¬ Int32.toInt (q_26.1 24 0) = 0) → (¬ Int32.toInt (q_26.1 24 3) = 0) → (Int32.toInt (q_26.1 24 9) = Int32.toInt (q.1 24 9)) → dOk (zX4_readPlain_s24_41 kT q_26 x1_27) (fun (o : dK) => (TC o) ∧ (cFr [31] [(24, 4), (24, 5), (24, 6), (24, 7), (24, 8), (24, 9), (24, 10), (25, 7)] q o) ∧ (Int32.toInt (o.1 24 9) = Int32.toInt (q.1 24 9))) := by
    intro q_26 x1_27 hT_32 hF_33 b_29 b_30 b_31
    unfold zX4_readPlain_s24_41
    have f_34 : 0 ≤ Int32.toInt (q_26.1 24 0) ∧ Int32.toInt (q_26.1 24 0) ≤ 1 := rg_24_0 hT_32
    have f_35 : 0 ≤ Int32.toInt (q.1 24 0) ∧ Int32.toInt (q.1 24 0) ≤ 1 := rg_24_0 hT
    have w_36 : Int32.toInt (q_26.1 24 0) = Int32.toInt (q.1 24 0) := by rw [hF_33.1 24 0 (by decide) (by decide)]
    have f_37 : 0 ≤ Int32.toInt (q_26.1 24 3) ∧ Int32.toInt (q_26.1 24 3) ≤ 1 := rg_24_3 hT_32
    have f_38 : 0 ≤ Int32.toInt (q.1 24 3) ∧ Int32.toInt (q.1 24 3) ≤ 1 := rg_24_3 hT
    have w_39 : Int32.toInt (q_26.1 24 3) = Int32.toInt (q.1 24 3) := by rw [hF_33.1 24 3 (by decide) (by decide)]
    have f_40 : 0 ≤ Int32.toInt (q_26.1 24 9) ∧ Int32.toInt (q_26.1 24 9) ≤ 8 := rg_24_9 hT_32
    have f_41 : 0 ≤ Int32.toInt (q.1 24 9) ∧ Int32.toInt (q.1 24 9) ≤ 8 := rg_24_9 hT
    refine dOk_B (ok_X4_isSign_s24 q_26 40 hT_32 (show ¬ Int32.toInt (q_26.1 24 0) = 0 by omega)) (fun r_42 q_43 h_44 => ?_)
    replace h_44 : (q_43 = q_26) ∧ ((Int32.toInt r_42 = 0 ∨ Int32.toInt r_42 = 1)) := h_44
    obtain ⟨i_45, i_46⟩ := h_44
    subst q_43
    refine dOk_eq (A := Int32.toInt r_42) (B := 0) rfl (by decide) (fun c_47z c_47 => ?_) (fun c_48z c_48 => ?_)
    · refine dOk_V (ok_X4_readSum_s24 10 q_26 hT_32 (show ¬ Int32.toInt (q_26.1 24 0) = 0 by omega) (show ¬ Int32.toInt (q_26.1 24 3) = 0 by omega) (show 9 - Int32.toInt (q_26.1 24 9) ≤ (10 : Int) by omega)) (fun q_50 h_51 => ?_)
      replace h_51 : (TC q_50) ∧ (cFr [31] [(24, 4), (24, 5), (24, 6), (24, 7), (24, 8), (24, 9), (24, 10), (25, 7)] q_26 q_50) ∧ (Int32.toInt (q_50.1 24 9) = Int32.toInt (q_26.1 24 9)) := h_51
      obtain ⟨i_52, i_53, i_54⟩ := h_51
      have hFq_50 : cFr [31] [(24, 4), (24, 5), (24, 6), (24, 7), (24, 8), (24, 9), (24, 10), (25, 7)] q q_50 := hF_33.t i_53 (by decide) (by decide)
      have f_55 : 0 ≤ Int32.toInt (q_50.1 24 9) ∧ Int32.toInt (q_50.1 24 9) ≤ 8 := rg_24_9 i_52
      have f_56 : 0 ≤ Int32.toInt (q_50.1 24 0) ∧ Int32.toInt (q_50.1 24 0) ≤ 1 := rg_24_0 i_52
      have w_57 : Int32.toInt (q_50.1 24 0) = Int32.toInt (q_26.1 24 0) := by rw [i_53.1 24 0 (by decide) (by decide)]
      refine dOk_B (ok_X4_signIn_s24_t9 q_50 7 i_52 (show ¬ Int32.toInt (q_50.1 24 0) = 0 by omega) (show 0 ≤ (7 : Int) by omega) (show (7 : Int) ≤ 10 by omega)) (fun r_58 q_59 h_60 => ?_)
      replace h_60 : (q_59 = q_50) ∧ (-1 ≤ Int32.toInt r_58) ∧ (Int32.toInt r_58 ≤ (7 : Int) + 2) := h_60
      obtain ⟨i_61, i_62, i_63⟩ := h_60
      subst q_59
      refine dOk_eq (A := Int32.toInt (q_50.1 24 10)) (B := (-1)) rfl (by decide) (fun c_64z c_64 => ?_) (fun c_65z c_65 => ?_)
      · refine dOk_eq (A := Int32.toInt r_58) (B := (-1)) rfl (by decide) (fun c_67z c_67 => ?_) (fun c_68z c_68 => ?_)
        · unfold zX4_readPlain_s24_106
          refine dOk_V (ok_X4_fail_s24 q_50 i_52) (fun q_70 h_71 => ?_)
          replace h_71 : (TC q_70) ∧ (cFr [] [(24, 10)] q_50 q_70) := h_71
          obtain ⟨i_72, i_73⟩ := h_71
          have hFq_70 : cFr [31] [(24, 4), (24, 5), (24, 6), (24, 7), (24, 8), (24, 9), (24, 10), (25, 7)] q q_70 := hFq_50.t i_73 (by decide) (by decide)
          have f_74 : 0 ≤ Int32.toInt (q_70.1 24 9) ∧ Int32.toInt (q_70.1 24 9) ≤ 8 := rg_24_9 i_72
          have w_75 : Int32.toInt (q_70.1 24 9) = Int32.toInt (q_50.1 24 9) := by rw [i_73.1 24 9 (by decide) (by decide)]
          exact dOk_some (show (TC q_70) ∧ (cFr [31] [(24, 4), (24, 5), (24, 6), (24, 7), (24, 8), (24, 9), (24, 10), (25, 7)] q q_70) ∧ (Int32.toInt (q_70.1 24 9) = Int32.toInt (q.1 24 9)) from ⟨i_72, hFq_70, by omega⟩)
        · refine dOk_V (ok_X4_step_s24 q_50 i_52 (show ¬ Int32.toInt (q_50.1 24 0) = 0 by omega)) (fun q_76 h_77 => ?_)
          replace h_77 : (TC q_76) ∧ (cFr [] [(24, 4), (24, 5), (24, 6), (24, 7)] q_50 q_76) := h_77
          obtain ⟨i_78, i_79⟩ := h_77
          have hFq_76 : cFr [31] [(24, 4), (24, 5), (24, 6), (24, 7), (24, 8), (24, 9), (24, 10), (25, 7)] q q_76 := hFq_50.t i_79 (by decide) (by decide)
          have f_80 : 0 ≤ Int32.toInt (q_76.1 24 0) ∧ Int32.toInt (q_76.1 24 0) ≤ 1 := rg_24_0 i_78
          have w_81 : Int32.toInt (q_76.1 24 0) = Int32.toInt (q_50.1 24 0) := by rw [i_79.1 24 0 (by decide) (by decide)]
          have f_82 : 0 ≤ Int32.toInt (q_76.1 24 3) ∧ Int32.toInt (q_76.1 24 3) ≤ 1 := rg_24_3 i_78
          have f_83 : 0 ≤ Int32.toInt (q_50.1 24 3) ∧ Int32.toInt (q_50.1 24 3) ≤ 1 := rg_24_3 i_52
          have w_84 : Int32.toInt (q_50.1 24 3) = Int32.toInt (q_26.1 24 3) := by rw [i_53.1 24 3 (by decide) (by decide)]
          have w_85 : Int32.toInt (q_76.1 24 3) = Int32.toInt (q_50.1 24 3) := by rw [i_79.1 24 3 (by decide) (by decide)]
          have f_86 : 0 ≤ Int32.toInt (q_76.1 24 9) ∧ Int32.toInt (q_76.1 24 9) ≤ 8 := rg_24_9 i_78
          have w_87 : Int32.toInt (q_76.1 24 9) = Int32.toInt (q_50.1 24 9) := by rw [i_79.1 24 9 (by decide) (by decide)]
          refine dOk_V (ok_X4_readSum_s24 10 q_76 i_78 (show ¬ Int32.toInt (q_76.1 24 0) = 0 by omega) (show ¬ Int32.toInt (q_76.1 24 3) = 0 by omega) (show 9 - Int32.toInt (q_76.1 24 9) ≤ (10 : Int) by omega)) (fun q_88 h_89 => ?_)
          replace h_89 : (TC q_88) ∧ (cFr [31] [(24, 4), (24, 5), (24, 6), (24, 7), (24, 8), (24, 9), (24, 10), (25, 7)] q_76 q_88) ∧ (Int32.toInt (q_88.1 24 9) = Int32.toInt (q_76.1 24 9)) := h_89
          obtain ⟨i_90, i_91, i_92⟩ := h_89
          have hFq_88 : cFr [31] [(24, 4), (24, 5), (24, 6), (24, 7), (24, 8), (24, 9), (24, 10), (25, 7)] q q_88 := hFq_76.t i_91 (by decide) (by decide)
          have f_93 : 0 ≤ Int32.toInt (q_88.1 24 9) ∧ Int32.toInt (q_88.1 24 9) ≤ 8 := rg_24_9 i_90
          have f_94 : 0 ≤ Int32.toInt (q_88.1 24 3) ∧ Int32.toInt (q_88.1 24 3) ≤ 1 := rg_24_3 i_90
          have w_95 : Int32.toInt (q_88.1 24 3) = Int32.toInt (q_76.1 24 3) := by rw [i_91.1 24 3 (by decide) (by decide)]
          refine dOk_G (dnz_ok (show ¬ Int32.toInt (q_88.1 24 3) = 0 by omega)) ?_
          refine dOk_V (ok_X7_emit_s25 q_88 r_58 0 i_90 (show 0 ≤ Int32.toInt r_58 ∧ Int32.toInt r_58 ≤ 12 by omega) (show 0 ≤ (0 : Int) ∧ (0 : Int) ≤ 2000 by omega)) (fun q_96 h_97 => ?_)
          replace h_97 : (TC q_96) ∧ (cFr [31] [(25, 7)] q_88 q_96) := h_97
          obtain ⟨i_98, i_99⟩ := h_97
          have hFq_96 : cFr [31] [(24, 4), (24, 5), (24, 6), (24, 7), (24, 8), (24, 9), (24, 10), (25, 7)] q q_96 := hFq_88.t i_99 (by decide) (by decide)
          have f_100 : 0 ≤ Int32.toInt (q_96.1 24 0) ∧ Int32.toInt (q_96.1 24 0) ≤ 1 := rg_24_0 i_98
          have f_101 : 0 ≤ Int32.toInt (q_88.1 24 0) ∧ Int32.toInt (q_88.1 24 0) ≤ 1 := rg_24_0 i_90
          have w_102 : Int32.toInt (q_88.1 24 0) = Int32.toInt (q_76.1 24 0) := by rw [i_91.1 24 0 (by decide) (by decide)]
          have w_103 : Int32.toInt (q_96.1 24 0) = Int32.toInt (q_88.1 24 0) := by rw [i_99.1 24 0 (by decide) (by decide)]
          have f_104 : 0 ≤ Int32.toInt (q_96.1 24 3) ∧ Int32.toInt (q_96.1 24 3) ≤ 1 := rg_24_3 i_98
          have w_105 : Int32.toInt (q_96.1 24 3) = Int32.toInt (q_88.1 24 3) := by rw [i_99.1 24 3 (by decide) (by decide)]
          have f_106 : 0 ≤ Int32.toInt (q_96.1 24 9) ∧ Int32.toInt (q_96.1 24 9) ≤ 8 := rg_24_9 i_98
          have w_107 : Int32.toInt (q_96.1 24 9) = Int32.toInt (q_88.1 24 9) := by rw [i_99.1 24 9 (by decide) (by decide)]
          exact hn_3 q_96 x1_27 i_98 ((((((((((cFr.rf : cFr [31] [(24, 4), (24, 5), (24, 6), (24, 7), (24, 8), (24, 9), (24, 10), (25, 7)] q q).t hF_33 (by decide) (by decide)) : cFr [31] [(24, 4), (24, 5), (24, 6), (24, 7), (24, 8), (24, 9), (24, 10), (25, 7)] q q_26).t i_53 (by decide) (by decide)) : cFr [31] [(24, 4), (24, 5), (24, 6), (24, 7), (24, 8), (24, 9), (24, 10), (25, 7)] q q_50).t i_79 (by decide) (by decide)) : cFr [31] [(24, 4), (24, 5), (24, 6), (24, 7), (24, 8), (24, 9), (24, 10), (25, 7)] q q_76).t i_91 (by decide) (by decide)) : cFr [31] [(24, 4), (24, 5), (24, 6), (24, 7), (24, 8), (24, 9), (24, 10), (25, 7)] q q_88).t i_99 (by decide) (by decide)) (show ¬ Int32.toInt (q_96.1 24 0) = 0 by omega) (show ¬ Int32.toInt (q_96.1 24 3) = 0 by omega) (show Int32.toInt (q_96.1 24 9) = Int32.toInt (q.1 24 9) by omega)
      · unfold zX4_readPlain_s24_106
        refine dOk_V (ok_X4_fail_s24 q_50 i_52) (fun q_108 h_109 => ?_)
        replace h_109 : (TC q_108) ∧ (cFr [] [(24, 10)] q_50 q_108) := h_109
        obtain ⟨i_110, i_111⟩ := h_109
        have hFq_108 : cFr [31] [(24, 4), (24, 5), (24, 6), (24, 7), (24, 8), (24, 9), (24, 10), (25, 7)] q q_108 := hFq_50.t i_111 (by decide) (by decide)
        have f_112 : 0 ≤ Int32.toInt (q_108.1 24 9) ∧ Int32.toInt (q_108.1 24 9) ≤ 8 := rg_24_9 i_110
        have w_113 : Int32.toInt (q_108.1 24 9) = Int32.toInt (q_50.1 24 9) := by rw [i_111.1 24 9 (by decide) (by decide)]
        exact dOk_some (show (TC q_108) ∧ (cFr [31] [(24, 4), (24, 5), (24, 6), (24, 7), (24, 8), (24, 9), (24, 10), (25, 7)] q q_108) ∧ (Int32.toInt (q_108.1 24 9) = Int32.toInt (q.1 24 9)) from ⟨i_110, hFq_108, by omega⟩)
    · refine dOk_B (ok_X4_openBracket_s24 q_26 hT_32 (show ¬ Int32.toInt (q_26.1 24 0) = 0 by omega)) (fun r_114 q_115 h_116 => ?_)
      replace h_116 : (TC q_115) ∧ (cFr [] [(24, 4), (24, 5), (24, 6), (24, 7), (24, 9), (24, 10)] q_26 q_115) ∧ ((Int32.toInt r_114 = 1 ∧ Int32.toInt (q_115.1 24 9) = Int32.toInt (q_26.1 24 9) + 1 ∧ Int32.toInt (q_26.1 24 9) ≤ 7) ∨ (Int32.toInt r_114 = 0 ∧ Int32.toInt (q_115.1 24 9) = Int32.toInt (q_26.1 24 9))) := h_116
      obtain ⟨i_117, i_118, i_119⟩ := h_116
      have hFq_115 : cFr [31] [(24, 4), (24, 5), (24, 6), (24, 7), (24, 8), (24, 9), (24, 10), (25, 7)] q q_115 := hF_33.t i_118 (by decide) (by decide)
      have f_120 : 0 ≤ Int32.toInt (q_115.1 24 9) ∧ Int32.toInt (q_115.1 24 9) ≤ 8 := rg_24_9 i_117
      refine dOk_eq (A := Int32.toInt r_114) (B := 0) rfl (by decide) (fun c_121z c_121 => ?_) (fun c_122z c_122 => ?_)
      · have f_124 : 0 ≤ Int32.toInt (q_115.1 24 0) ∧ Int32.toInt (q_115.1 24 0) ≤ 1 := rg_24_0 i_117
        have w_125 : Int32.toInt (q_115.1 24 0) = Int32.toInt (q_26.1 24 0) := by rw [i_118.1 24 0 (by decide) (by decide)]
        have f_126 : 0 ≤ Int32.toInt (q_115.1 24 3) ∧ Int32.toInt (q_115.1 24 3) ≤ 1 := rg_24_3 i_117
        have w_127 : Int32.toInt (q_115.1 24 3) = Int32.toInt (q_26.1 24 3) := by rw [i_118.1 24 3 (by decide) (by decide)]
        exact hn_3 q_115 x1_27 i_117 ((((cFr.rf : cFr [31] [(24, 4), (24, 5), (24, 6), (24, 7), (24, 8), (24, 9), (24, 10), (25, 7)] q q).t hF_33 (by decide) (by decide)) : cFr [31] [(24, 4), (24, 5), (24, 6), (24, 7), (24, 8), (24, 9), (24, 10), (25, 7)] q q_26).t i_118 (by decide) (by decide)) (show ¬ Int32.toInt (q_115.1 24 0) = 0 by omega) (show ¬ Int32.toInt (q_115.1 24 3) = 0 by omega) (show Int32.toInt (q_115.1 24 9) = Int32.toInt (q.1 24 9) by omega)
      · have f_128 : 0 ≤ Int32.toInt (q_115.1 24 0) ∧ Int32.toInt (q_115.1 24 0) ≤ 1 := rg_24_0 i_117
        have w_129 : Int32.toInt (q_115.1 24 0) = Int32.toInt (q_26.1 24 0) := by rw [i_118.1 24 0 (by decide) (by decide)]
        have f_130 : 0 ≤ Int32.toInt (q_115.1 24 3) ∧ Int32.toInt (q_115.1 24 3) ≤ 1 := rg_24_3 i_117
        have w_131 : Int32.toInt (q_115.1 24 3) = Int32.toInt (q_26.1 24 3) := by rw [i_118.1 24 3 (by decide) (by decide)]
        refine dOk_V (hkT q_115 i_117 (show ¬ Int32.toInt (q_115.1 24 0) = 0 by omega) (show ¬ Int32.toInt (q_115.1 24 3) = 0 by omega) (show 9 - Int32.toInt (q_115.1 24 9) ≤ (n : Int) by omega)) (fun q_132 h_133 => ?_)
        replace h_133 : (TC q_132) ∧ (cFr [31] [(24, 4), (24, 5), (24, 6), (24, 7), (24, 8), (24, 9), (24, 10), (25, 7)] q_115 q_132) ∧ (Int32.toInt (q_132.1 24 9) = Int32.toInt (q_115.1 24 9)) := h_133
        obtain ⟨i_134, i_135, i_136⟩ := h_133
        have hFq_132 : cFr [31] [(24, 4), (24, 5), (24, 6), (24, 7), (24, 8), (24, 9), (24, 10), (25, 7)] q q_132 := hFq_115.t i_135 (by decide) (by decide)
        have f_137 : 0 ≤ Int32.toInt (q_132.1 24 9) ∧ Int32.toInt (q_132.1 24 9) ≤ 8 := rg_24_9 i_134
        refine dOk_L (fun q_138 eq_138 => ?_)
        try have t_139 : Int32.toInt (q_132.1 24 9 - 1) = Int32.toInt (q_132.1 24 9) - 1 := ti_sub rfl (by decide) (by omega) (by omega)
        have hTq_138 : TC q_138 := by rw [eq_138]; exact st_24_9 i_134 (show (0 : Int) ≤ Int32.toInt (q_132.1 24 9 - 1) by omega) (show Int32.toInt (q_132.1 24 9 - 1) ≤ (8 : Int) by omega)
        have hFq_138 : cFr [31] [(24, 4), (24, 5), (24, 6), (24, 7), (24, 8), (24, 9), (24, 10), (25, 7)] q q_138 := by rw [eq_138]; exact hFq_132.f (by decide)
        have f_140 : 0 ≤ Int32.toInt (q_138.1 24 0) ∧ Int32.toInt (q_138.1 24 0) ≤ 1 := rg_24_0 hTq_138
        have f_141 : 0 ≤ Int32.toInt (q_132.1 24 0) ∧ Int32.toInt (q_132.1 24 0) ≤ 1 := rg_24_0 i_134
        have w_142 : Int32.toInt (q_132.1 24 0) = Int32.toInt (q_115.1 24 0) := by rw [i_135.1 24 0 (by decide) (by decide)]
        have w_143 : Int32.toInt (q_138.1 24 0) = Int32.toInt (q_132.1 24 0) := by rw [eq_138, cui_n (by decide)]
        refine dOk_V (ok_X4_expectSign_s24 q_138 41 hTq_138 (show ¬ Int32.toInt (q_138.1 24 0) = 0 by omega)) (fun q_144 h_145 => ?_)
        replace h_145 : (TC q_144) ∧ (cFr [] [(24, 4), (24, 5), (24, 6), (24, 7), (24, 10)] q_138 q_144) := h_145
        obtain ⟨i_146, i_147⟩ := h_145
        have hFq_144 : cFr [31] [(24, 4), (24, 5), (24, 6), (24, 7), (24, 8), (24, 9), (24, 10), (25, 7)] q q_144 := hFq_138.t i_147 (by decide) (by decide)
        have f_148 : 0 ≤ Int32.toInt (q_144.1 24 0) ∧ Int32.toInt (q_144.1 24 0) ≤ 1 := rg_24_0 i_146
        have w_149 : Int32.toInt (q_144.1 24 0) = Int32.toInt (q_138.1 24 0) := by rw [i_147.1 24 0 (by decide) (by decide)]
        have f_150 : 0 ≤ Int32.toInt (q_144.1 24 3) ∧ Int32.toInt (q_144.1 24 3) ≤ 1 := rg_24_3 i_146
        have f_151 : 0 ≤ Int32.toInt (q_138.1 24 3) ∧ Int32.toInt (q_138.1 24 3) ≤ 1 := rg_24_3 hTq_138
        have f_152 : 0 ≤ Int32.toInt (q_132.1 24 3) ∧ Int32.toInt (q_132.1 24 3) ≤ 1 := rg_24_3 i_134
        have w_153 : Int32.toInt (q_132.1 24 3) = Int32.toInt (q_115.1 24 3) := by rw [i_135.1 24 3 (by decide) (by decide)]
        have w_154 : Int32.toInt (q_138.1 24 3) = Int32.toInt (q_132.1 24 3) := by rw [eq_138, cui_n (by decide)]
        have w_155 : Int32.toInt (q_144.1 24 3) = Int32.toInt (q_138.1 24 3) := by rw [i_147.1 24 3 (by decide) (by decide)]
        have f_156 : 0 ≤ Int32.toInt (q_144.1 24 9) ∧ Int32.toInt (q_144.1 24 9) ≤ 8 := rg_24_9 i_146
        have f_157 : 0 ≤ Int32.toInt (q_138.1 24 9) ∧ Int32.toInt (q_138.1 24 9) ≤ 8 := rg_24_9 hTq_138
        have w_158 : Int32.toInt (q_138.1 24 9) = Int32.toInt (q_132.1 24 9 - 1) := by rw [eq_138, cui_e]
        have w_159 : Int32.toInt (q_144.1 24 9) = Int32.toInt (q_138.1 24 9) := by rw [i_147.1 24 9 (by decide) (by decide)]
        exact hn_3 q_144 x1_27 i_146 (((by rw [eq_138]; exact (((((((cFr.rf : cFr [31] [(24, 4), (24, 5), (24, 6), (24, 7), (24, 8), (24, 9), (24, 10), (25, 7)] q q).t hF_33 (by decide) (by decide)) : cFr [31] [(24, 4), (24, 5), (24, 6), (24, 7), (24, 8), (24, 9), (24, 10), (25, 7)] q q_26).t i_118 (by decide) (by decide)) : cFr [31] [(24, 4), (24, 5), (24, 6), (24, 7), (24, 8), (24, 9), (24, 10), (25, 7)] q q_115).t i_135 (by decide) (by decide)) : cFr [31] [(24, 4), (24, 5), (24, 6), (24, 7), (24, 8), (24, 9), (24, 10), (25, 7)] q q_132).f (by decide)) : cFr [31] [(24, 4), (24, 5), (24, 6), (24, 7), (24, 8), (24, 9), (24, 10), (25, 7)] q q_138).t i_147 (by decide) (by decide)) (show ¬ Int32.toInt (q_144.1 24 0) = 0 by omega) (show ¬ Int32.toInt (q_144.1 24 3) = 0 by omega) (show Int32.toInt (q_144.1 24 9) = Int32.toInt (q.1 24 9) by omega)
  unfold zX4_readPlain_s24_4
  refine dFix_ok (fun (a : dK × Int32 × Int32) => (TC a.1) ∧ (cFr [] [(24, 4), (24, 5), (24, 6), (24, 7)] q a.1) ∧ (0 ≤ Int32.toInt a.2.2) ∧ (Int32.toInt a.2.2 ≤ 400) ∧ (Int32.toInt (a.1.1 24 9) = Int32.toInt (q.1 24 9))) (fun (a : dK × Int32 × Int32) => (400 - Int32.toInt a.2.2).toNat) ?_ _ ?_ _ (dF_gt ?_)
  · intro a ha k_161 hk_160
    obtain ⟨q_162, x1_163, x2_164⟩ := a
    replace ha : (TC q_162) ∧ (cFr [] [(24, 4), (24, 5), (24, 6), (24, 7)] q q_162) ∧ (0 ≤ Int32.toInt x2_164) ∧ (Int32.toInt x2_164 ≤ 400) ∧ (Int32.toInt (q_162.1 24 9) = Int32.toInt (q.1 24 9)) := ha
    obtain ⟨a_165, a_166, a_167, a_168, a_169⟩ := ha
    show dOk (zX4_readPlain_s24_4b kT (fun q x1 x2 => k_161 (q, x1, x2)) q_162 x1_163 x2_164) _
    unfold zX4_readPlain_s24_4b
    have hFq_162 : cFr [31] [(24, 4), (24, 5), (24, 6), (24, 7), (24, 8), (24, 9), (24, 10), (25, 7)] q q_162 := (cFr.rf (q := q)).t a_166 (by decide) (by decide)
    have f_170 : 0 ≤ Int32.toInt (q_162.1 24 9) ∧ Int32.toInt (q_162.1 24 9) ≤ 8 := rg_24_9 a_165
    have f_171 : 0 ≤ Int32.toInt (q.1 24 9) ∧ Int32.toInt (q.1 24 9) ≤ 8 := rg_24_9 hT
    have w_172 : Int32.toInt (q_162.1 24 9) = Int32.toInt (q.1 24 9) := by rw [a_166.1 24 9 (by decide) (by decide)]
    have f_173 : 0 ≤ Int32.toInt (q_162.1 24 1) ∧ Int32.toInt (q_162.1 24 1) ≤ 400 := rg_24_1 a_165
    have f_174 : 0 ≤ Int32.toInt (q.1 24 1) ∧ Int32.toInt (q.1 24 1) ≤ 400 := rg_24_1 hT
    have w_175 : Int32.toInt (q_162.1 24 1) = Int32.toInt (q.1 24 1) := by rw [a_166.1 24 1 (by decide) (by decide)]
    refine dOk_le (A := Int32.toInt (q_162.1 24 1)) (B := Int32.toInt x2_164) rfl rfl (fun c_176 => ?_) (fun c_177 => ?_)
    · have f_178 : 0 ≤ Int32.toInt (q_162.1 24 0) ∧ Int32.toInt (q_162.1 24 0) ≤ 1 := rg_24_0 a_165
      have f_179 : 0 ≤ Int32.toInt (q.1 24 0) ∧ Int32.toInt (q.1 24 0) ≤ 1 := rg_24_0 hT
      have w_180 : Int32.toInt (q_162.1 24 0) = Int32.toInt (q.1 24 0) := by rw [a_166.1 24 0 (by decide) (by decide)]
      have f_181 : 0 ≤ Int32.toInt (q_162.1 24 3) ∧ Int32.toInt (q_162.1 24 3) ≤ 1 := rg_24_3 a_165
      have f_182 : 0 ≤ Int32.toInt (q.1 24 3) ∧ Int32.toInt (q.1 24 3) ≤ 1 := rg_24_3 hT
      have w_183 : Int32.toInt (q_162.1 24 3) = Int32.toInt (q.1 24 3) := by rw [a_166.1 24 3 (by decide) (by decide)]
      exact hn_28 q_162 x1_163 a_165 ((cFr.rf : cFr [31] [(24, 4), (24, 5), (24, 6), (24, 7), (24, 8), (24, 9), (24, 10), (25, 7)] q q).t a_166 (by decide) (by decide)) (show ¬ Int32.toInt (q_162.1 24 0) = 0 by omega) (show ¬ Int32.toInt (q_162.1 24 3) = 0 by omega) (show Int32.toInt (q_162.1 24 9) = Int32.toInt (q.1 24 9) by omega)
    · have f_184 : 0 ≤ Int32.toInt (q_162.1 24 0) ∧ Int32.toInt (q_162.1 24 0) ≤ 1 := rg_24_0 a_165
      have f_185 : 0 ≤ Int32.toInt (q.1 24 0) ∧ Int32.toInt (q.1 24 0) ≤ 1 := rg_24_0 hT
      have w_186 : Int32.toInt (q_162.1 24 0) = Int32.toInt (q.1 24 0) := by rw [a_166.1 24 0 (by decide) (by decide)]
      refine dOk_B (ok_X4_isWord_s24_t8 q_162 a_165 (show ¬ Int32.toInt (q_162.1 24 0) = 0 by omega)) (fun r_187 q_188 h_189 => ?_)
      replace h_189 : (q_188 = q_162) ∧ ((Int32.toInt r_187 = 0 ∨ Int32.toInt r_187 = 1)) := h_189
      obtain ⟨i_190, i_191⟩ := h_189
      subst q_188
      refine dOk_eq (A := Int32.toInt r_187) (B := 0) rfl (by decide) (fun c_192z c_192 => ?_) (fun c_193z c_193 => ?_)
      · have f_195 : 0 ≤ Int32.toInt (q_162.1 24 3) ∧ Int32.toInt (q_162.1 24 3) ≤ 1 := rg_24_3 a_165
        have f_196 : 0 ≤ Int32.toInt (q.1 24 3) ∧ Int32.toInt (q.1 24 3) ≤ 1 := rg_24_3 hT
        have w_197 : Int32.toInt (q_162.1 24 3) = Int32.toInt (q.1 24 3) := by rw [a_166.1 24 3 (by decide) (by decide)]
        exact hn_28 q_162 x1_163 a_165 ((cFr.rf : cFr [31] [(24, 4), (24, 5), (24, 6), (24, 7), (24, 8), (24, 9), (24, 10), (25, 7)] q q).t a_166 (by decide) (by decide)) (show ¬ Int32.toInt (q_162.1 24 0) = 0 by omega) (show ¬ Int32.toInt (q_162.1 24 3) = 0 by omega) (show Int32.toInt (q_162.1 24 9) = Int32.toInt (q.1 24 9) by omega)
      · refine dOk_eq (A := Int32.toInt x1_163) (B := 0) rfl (by decide) (fun c_198z c_198 => ?_) (fun c_199z c_199 => ?_)
        · unfold zX4_readPlain_s24_30
          refine dOk_V (ok_X4_step_s24 q_162 a_165 (show ¬ Int32.toInt (q_162.1 24 0) = 0 by omega)) (fun q_201 h_202 => ?_)
          replace h_202 : (TC q_201) ∧ (cFr [] [(24, 4), (24, 5), (24, 6), (24, 7)] q_162 q_201) := h_202
          obtain ⟨i_203, i_204⟩ := h_202
          have hFq_201 : cFr [31] [(24, 4), (24, 5), (24, 6), (24, 7), (24, 8), (24, 9), (24, 10), (25, 7)] q q_201 := hFq_162.t i_204 (by decide) (by decide)
          try have t_205 : Int32.toInt (x2_164 + 1) = Int32.toInt x2_164 + 1 := ti_add rfl (by decide) (by omega) (by omega)
          have f_206 : 0 ≤ Int32.toInt (q_201.1 24 9) ∧ Int32.toInt (q_201.1 24 9) ≤ 8 := rg_24_9 i_203
          have w_207 : Int32.toInt (q_201.1 24 9) = Int32.toInt (q_162.1 24 9) := by rw [i_204.1 24 9 (by decide) (by decide)]
          exact hk_160 (q_201, 1, (x2_164 + 1)) (show (TC q_201) ∧ (cFr [] [(24, 4), (24, 5), (24, 6), (24, 7)] q q_201) ∧ (0 ≤ Int32.toInt (x2_164 + 1)) ∧ (Int32.toInt (x2_164 + 1) ≤ 400) ∧ (Int32.toInt (q_201.1 24 9) = Int32.toInt (q.1 24 9)) from ⟨i_203, ((((cFr.rf : cFr [] [(24, 4), (24, 5), (24, 6), (24, 7)] q q).t a_166 (by decide) (by decide)) : cFr [] [(24, 4), (24, 5), (24, 6), (24, 7)] q q_162).t i_204 (by decide) (by decide)), by omega, by omega, by omega⟩) (show (400 - Int32.toInt (x2_164 + 1)).toNat < (400 - Int32.toInt x2_164).toNat by omega)
        · unfold zX4_readPlain_s24_30
          refine dOk_V (ok_X4_step_s24 q_162 a_165 (show ¬ Int32.toInt (q_162.1 24 0) = 0 by omega)) (fun q_208 h_209 => ?_)
          replace h_209 : (TC q_208) ∧ (cFr [] [(24, 4), (24, 5), (24, 6), (24, 7)] q_162 q_208) := h_209
          obtain ⟨i_210, i_211⟩ := h_209
          have hFq_208 : cFr [31] [(24, 4), (24, 5), (24, 6), (24, 7), (24, 8), (24, 9), (24, 10), (25, 7)] q q_208 := hFq_162.t i_211 (by decide) (by decide)
          try have t_212 : Int32.toInt (x2_164 + 1) = Int32.toInt x2_164 + 1 := ti_add rfl (by decide) (by omega) (by omega)
          have f_213 : 0 ≤ Int32.toInt (q_208.1 24 9) ∧ Int32.toInt (q_208.1 24 9) ≤ 8 := rg_24_9 i_210
          have w_214 : Int32.toInt (q_208.1 24 9) = Int32.toInt (q_162.1 24 9) := by rw [i_211.1 24 9 (by decide) (by decide)]
          exact hk_160 (q_208, 0, (x2_164 + 1)) (show (TC q_208) ∧ (cFr [] [(24, 4), (24, 5), (24, 6), (24, 7)] q q_208) ∧ (0 ≤ Int32.toInt (x2_164 + 1)) ∧ (Int32.toInt (x2_164 + 1) ≤ 400) ∧ (Int32.toInt (q_208.1 24 9) = Int32.toInt (q.1 24 9)) from ⟨i_210, ((((cFr.rf : cFr [] [(24, 4), (24, 5), (24, 6), (24, 7)] q q).t a_166 (by decide) (by decide)) : cFr [] [(24, 4), (24, 5), (24, 6), (24, 7)] q q_162).t i_211 (by decide) (by decide)), by omega, by omega, by omega⟩) (show (400 - Int32.toInt (x2_164 + 1)).toNat < (400 - Int32.toInt x2_164).toNat by omega)
  · have f_215 : 0 ≤ Int32.toInt (q.1 24 9) ∧ Int32.toInt (q.1 24 9) ≤ 8 := rg_24_9 hT
    exact (show (TC q) ∧ (cFr [] [(24, 4), (24, 5), (24, 6), (24, 7)] q q) ∧ (0 ≤ (0 : Int)) ∧ ((0 : Int) ≤ 400) ∧ (Int32.toInt (q.1 24 9) = Int32.toInt (q.1 24 9)) from ⟨hT, cFr.rf, by omega, by omega, by omega⟩)
  · show (400 - (0 : Int)).toNat < 1000000000000
    omega

set_option maxHeartbeats 4000000 in
set_option maxRecDepth 100000 in
theorem ok_X4_readBoth_s24 (kT : dK → Option (dK)) (n : Nat) (hkT : ∀ q9 : dK, TC q9 → (¬ Int32.toInt (q9.1 24 0) = 0) → (¬ Int32.toInt (q9.1 24 3) = 0) → (9 - Int32.toInt (q9.1 24 9) ≤ (n : Int)) → dOk (kT q9) (fun (o : dK) => (TC o) ∧ (cFr [31] [(24, 4), (24, 5), (24, 6), (24, 7), (24, 8), (24, 9), (24, 10), (25, 7)] q9 o) ∧ (Int32.toInt (o.1 24 9) = Int32.toInt (q9.1 24 9)))) (q : dK) (hT : TC q) (hp0 : ¬ Int32.toInt (q.1 24 0) = 0) (hp1 : ¬ Int32.toInt (q.1 24 3) = 0) (hp2 : 9 - Int32.toInt (q.1 24 9) ≤ (n : Int) + 1) : dOk (zX4_readBoth_s24 kT q) (fun (o : dK) => (TC o) ∧ (cFr [31] [(24, 4), (24, 5), (24, 6), (24, 7), (24, 8), (24, 9), (24, 10), (25, 7)] q o) ∧ (Int32.toInt (o.1 24 9) = Int32.toInt (q.1 24 9))) := by
  unfold zX4_readBoth_s24
  have f_1 : 0 ≤ Int32.toInt (q.1 24 0) ∧ Int32.toInt (q.1 24 0) ≤ 1 := rg_24_0 hT
  have f_2 : 0 ≤ Int32.toInt (q.1 24 3) ∧ Int32.toInt (q.1 24 3) ≤ 1 := rg_24_3 hT
  have f_3 : 0 ≤ Int32.toInt (q.1 24 9) ∧ Int32.toInt (q.1 24 9) ≤ 8 := rg_24_9 hT
  refine dOk_V (ok_X4_readPlain_s24 kT n hkT q hT (show ¬ Int32.toInt (q.1 24 0) = 0 by omega) (show ¬ Int32.toInt (q.1 24 3) = 0 by omega) (show 9 - Int32.toInt (q.1 24 9) ≤ (n : Int) + 1 by omega)) (fun q_4 h_5 => ?_)
  replace h_5 : (TC q_4) ∧ (cFr [31] [(24, 4), (24, 5), (24, 6), (24, 7), (24, 8), (24, 9), (24, 10), (25, 7)] q q_4) ∧ (Int32.toInt (q_4.1 24 9) = Int32.toInt (q.1 24 9)) := h_5
  obtain ⟨i_6, i_7, i_8⟩ := h_5
  have hFq_4 : cFr [31] [(24, 4), (24, 5), (24, 6), (24, 7), (24, 8), (24, 9), (24, 10), (25, 7)] q q_4 := (cFr.rf (q := q)).t i_7 (by decide) (by decide)
  have f_9 : 0 ≤ Int32.toInt (q_4.1 24 9) ∧ Int32.toInt (q_4.1 24 9) ≤ 8 := rg_24_9 i_6
  unfold zX4_readBoth_s24_6
  refine dFix_ok (fun (a : dK × Int32) => (TC a.1) ∧ (cFr [31] [(24, 4), (24, 5), (24, 6), (24, 7), (24, 8), (24, 9), (24, 10), (25, 7)] q_4 a.1) ∧ (0 ≤ Int32.toInt a.2) ∧ (Int32.toInt a.2 ≤ 400) ∧ (Int32.toInt (a.1.1 24 9) = Int32.toInt (q_4.1 24 9))) (fun (a : dK × Int32) => (400 - Int32.toInt a.2).toNat) ?_ _ ?_ _ (dF_gt ?_)
  · intro a ha k_11 hk_10
    obtain ⟨q_12, x1_13⟩ := a
    replace ha : (TC q_12) ∧ (cFr [31] [(24, 4), (24, 5), (24, 6), (24, 7), (24, 8), (24, 9), (24, 10), (25, 7)] q_4 q_12) ∧ (0 ≤ Int32.toInt x1_13) ∧ (Int32.toInt x1_13 ≤ 400) ∧ (Int32.toInt (q_12.1 24 9) = Int32.toInt (q_4.1 24 9)) := ha
    obtain ⟨a_14, a_15, a_16, a_17, a_18⟩ := ha
    show dOk (zX4_readBoth_s24_6b kT (fun q x1 => k_11 (q, x1)) q_12 x1_13) _
    unfold zX4_readBoth_s24_6b
    have hFq_12 : cFr [31] [(24, 4), (24, 5), (24, 6), (24, 7), (24, 8), (24, 9), (24, 10), (25, 7)] q q_12 := hFq_4.t a_15 (by decide) (by decide)
    have f_19 : 0 ≤ Int32.toInt (q_12.1 24 9) ∧ Int32.toInt (q_12.1 24 9) ≤ 8 := rg_24_9 a_14
    have f_20 : 0 ≤ Int32.toInt (q_12.1 24 1) ∧ Int32.toInt (q_12.1 24 1) ≤ 400 := rg_24_1 a_14
    have f_21 : 0 ≤ Int32.toInt (q_4.1 24 1) ∧ Int32.toInt (q_4.1 24 1) ≤ 400 := rg_24_1 i_6
    have f_22 : 0 ≤ Int32.toInt (q.1 24 1) ∧ Int32.toInt (q.1 24 1) ≤ 400 := rg_24_1 hT
    have w_23 : Int32.toInt (q_4.1 24 1) = Int32.toInt (q.1 24 1) := by rw [i_7.1 24 1 (by decide) (by decide)]
    have w_24 : Int32.toInt (q_12.1 24 1) = Int32.toInt (q_4.1 24 1) := by rw [a_15.1 24 1 (by decide) (by decide)]
    refine dOk_le (A := Int32.toInt (q_12.1 24 1)) (B := Int32.toInt x1_13) rfl rfl (fun c_25 => ?_) (fun c_26 => ?_)
    · unfold zX4_readBoth_s24_73
      exact dOk_some (show (TC q_12) ∧ (cFr [31] [(24, 4), (24, 5), (24, 6), (24, 7), (24, 8), (24, 9), (24, 10), (25, 7)] q q_12) ∧ (Int32.toInt (q_12.1 24 9) = Int32.toInt (q.1 24 9)) from ⟨a_14, hFq_12, by omega⟩)
    · refine dOk_eq (A := Int32.toInt (q_12.1 24 10)) (B := (-1)) rfl (by decide) (fun c_27z c_27 => ?_) (fun c_28z c_28 => ?_)
      · have f_30 : 0 ≤ Int32.toInt (q_12.1 24 0) ∧ Int32.toInt (q_12.1 24 0) ≤ 1 := rg_24_0 a_14
        have f_31 : 0 ≤ Int32.toInt (q_4.1 24 0) ∧ Int32.toInt (q_4.1 24 0) ≤ 1 := rg_24_0 i_6
        have w_32 : Int32.toInt (q_4.1 24 0) = Int32.toInt (q.1 24 0) := by rw [i_7.1 24 0 (by decide) (by decide)]
        have w_33 : Int32.toInt (q_12.1 24 0) = Int32.toInt (q_4.1 24 0) := by rw [a_15.1 24 0 (by decide) (by decide)]
        refine dOk_B (ok_X4_isWord_s24_t10 q_12 a_14 (show ¬ Int32.toInt (q_12.1 24 0) = 0 by omega)) (fun r_34 q_35 h_36 => ?_)
        replace h_36 : (q_35 = q_12) ∧ ((Int32.toInt r_34 = 0 ∨ Int32.toInt r_34 = 1)) := h_36
        obtain ⟨i_37, i_38⟩ := h_36
        subst q_35
        refine dOk_eq (A := Int32.toInt r_34) (B := 0) rfl (by decide) (fun c_39z c_39 => ?_) (fun c_40z c_40 => ?_)
        · unfold zX4_readBoth_s24_73
          exact dOk_some (show (TC q_12) ∧ (cFr [31] [(24, 4), (24, 5), (24, 6), (24, 7), (24, 8), (24, 9), (24, 10), (25, 7)] q q_12) ∧ (Int32.toInt (q_12.1 24 9) = Int32.toInt (q.1 24 9)) from ⟨a_14, hFq_12, by omega⟩)
        · have f_42 : 0 ≤ Int32.toInt (q_12.1 24 3) ∧ Int32.toInt (q_12.1 24 3) ≤ 1 := rg_24_3 a_14
          have f_43 : 0 ≤ Int32.toInt (q_4.1 24 3) ∧ Int32.toInt (q_4.1 24 3) ≤ 1 := rg_24_3 i_6
          have w_44 : Int32.toInt (q_4.1 24 3) = Int32.toInt (q.1 24 3) := by rw [i_7.1 24 3 (by decide) (by decide)]
          have w_45 : Int32.toInt (q_12.1 24 3) = Int32.toInt (q_4.1 24 3) := by rw [a_15.1 24 3 (by decide) (by decide)]
          refine dOk_G (dnz_ok (show ¬ Int32.toInt (q_12.1 24 3) = 0 by omega)) ?_
          refine dOk_G (dnz_ok (show ¬ Int32.toInt (q_12.1 24 3) = 0 by omega)) ?_
          refine dOk_V (ok_X7_emit_s25 q_12 11 0 a_14 (show 0 ≤ (11 : Int) ∧ (11 : Int) ≤ 12 by omega) (show 0 ≤ (0 : Int) ∧ (0 : Int) ≤ 2000 by omega)) (fun q_46 h_47 => ?_)
          replace h_47 : (TC q_46) ∧ (cFr [31] [(25, 7)] q_12 q_46) := h_47
          obtain ⟨i_48, i_49⟩ := h_47
          have hFq_46 : cFr [31] [(24, 4), (24, 5), (24, 6), (24, 7), (24, 8), (24, 9), (24, 10), (25, 7)] q q_46 := hFq_12.t i_49 (by decide) (by decide)
          have f_50 : 0 ≤ Int32.toInt (q_46.1 24 0) ∧ Int32.toInt (q_46.1 24 0) ≤ 1 := rg_24_0 i_48
          have w_51 : Int32.toInt (q_46.1 24 0) = Int32.toInt (q_12.1 24 0) := by rw [i_49.1 24 0 (by decide) (by decide)]
          refine dOk_V (ok_X4_step_s24 q_46 i_48 (show ¬ Int32.toInt (q_46.1 24 0) = 0 by omega)) (fun q_52 h_53 => ?_)
          replace h_53 : (TC q_52) ∧ (cFr [] [(24, 4), (24, 5), (24, 6), (24, 7)] q_46 q_52) := h_53
          obtain ⟨i_54, i_55⟩ := h_53
          have hFq_52 : cFr [31] [(24, 4), (24, 5), (24, 6), (24, 7), (24, 8), (24, 9), (24, 10), (25, 7)] q q_52 := hFq_46.t i_55 (by decide) (by decide)
          have f_56 : 0 ≤ Int32.toInt (q_52.1 24 0) ∧ Int32.toInt (q_52.1 24 0) ≤ 1 := rg_24_0 i_54
          have w_57 : Int32.toInt (q_52.1 24 0) = Int32.toInt (q_46.1 24 0) := by rw [i_55.1 24 0 (by decide) (by decide)]
          have f_58 : 0 ≤ Int32.toInt (q_52.1 24 3) ∧ Int32.toInt (q_52.1 24 3) ≤ 1 := rg_24_3 i_54
          have f_59 : 0 ≤ Int32.toInt (q_46.1 24 3) ∧ Int32.toInt (q_46.1 24 3) ≤ 1 := rg_24_3 i_48
          have w_60 : Int32.toInt (q_46.1 24 3) = Int32.toInt (q_12.1 24 3) := by rw [i_49.1 24 3 (by decide) (by decide)]
          have w_61 : Int32.toInt (q_52.1 24 3) = Int32.toInt (q_46.1 24 3) := by rw [i_55.1 24 3 (by decide) (by decide)]
          have f_62 : 0 ≤ Int32.toInt (q_52.1 24 9) ∧ Int32.toInt (q_52.1 24 9) ≤ 8 := rg_24_9 i_54
          have f_63 : 0 ≤ Int32.toInt (q_46.1 24 9) ∧ Int32.toInt (q_46.1 24 9) ≤ 8 := rg_24_9 i_48
          have w_64 : Int32.toInt (q_46.1 24 9) = Int32.toInt (q_12.1 24 9) := by rw [i_49.1 24 9 (by decide) (by decide)]
          have w_65 : Int32.toInt (q_52.1 24 9) = Int32.toInt (q_46.1 24 9) := by rw [i_55.1 24 9 (by decide) (by decide)]
          refine dOk_V (ok_X4_readPlain_s24 kT n hkT q_52 i_54 (show ¬ Int32.toInt (q_52.1 24 0) = 0 by omega) (show ¬ Int32.toInt (q_52.1 24 3) = 0 by omega) (show 9 - Int32.toInt (q_52.1 24 9) ≤ (n : Int) + 1 by omega)) (fun q_66 h_67 => ?_)
          replace h_67 : (TC q_66) ∧ (cFr [31] [(24, 4), (24, 5), (24, 6), (24, 7), (24, 8), (24, 9), (24, 10), (25, 7)] q_52 q_66) ∧ (Int32.toInt (q_66.1 24 9) = Int32.toInt (q_52.1 24 9)) := h_67
          obtain ⟨i_68, i_69, i_70⟩ := h_67
          have hFq_66 : cFr [31] [(24, 4), (24, 5), (24, 6), (24, 7), (24, 8), (24, 9), (24, 10), (25, 7)] q q_66 := hFq_52.t i_69 (by decide) (by decide)
          have f_71 : 0 ≤ Int32.toInt (q_66.1 24 9) ∧ Int32.toInt (q_66.1 24 9) ≤ 8 := rg_24_9 i_68
          have f_72 : 0 ≤ Int32.toInt (q_66.1 24 3) ∧ Int32.toInt (q_66.1 24 3) ≤ 1 := rg_24_3 i_68
          have w_73 : Int32.toInt (q_66.1 24 3) = Int32.toInt (q_52.1 24 3) := by rw [i_69.1 24 3 (by decide) (by decide)]
          refine dOk_G (dnz_ok (show ¬ Int32.toInt (q_66.1 24 3) = 0 by omega)) ?_
          have f_74 : 0 ≤ Int32.toInt (q_12.1 25 7) ∧ Int32.toInt (q_12.1 25 7) ≤ 400 := rg_25_7 a_14
          refine dOk_V (ok_X7_leapHere_s25 q_66 11 (q_12.1 25 7) i_68 (show 0 ≤ (11 : Int) ∧ (11 : Int) ≤ 12 by omega)) (fun q_75 h_76 => ?_)
          replace h_76 : (TC q_75) ∧ (cFr [31] [] q_66 q_75) := h_76
          obtain ⟨i_77, i_78⟩ := h_76
          have hFq_75 : cFr [31] [(24, 4), (24, 5), (24, 6), (24, 7), (24, 8), (24, 9), (24, 10), (25, 7)] q q_75 := hFq_66.t i_78 (by decide) (by decide)
          try have t_79 : Int32.toInt (x1_13 + 1) = Int32.toInt x1_13 + 1 := ti_add rfl (by decide) (by omega) (by omega)
          have f_80 : 0 ≤ Int32.toInt (q_75.1 24 9) ∧ Int32.toInt (q_75.1 24 9) ≤ 8 := rg_24_9 i_77
          have w_81 : Int32.toInt (q_75.1 24 9) = Int32.toInt (q_66.1 24 9) := by rw [i_78.1 24 9 (by decide) (by decide)]
          exact hk_10 (q_75, (x1_13 + 1)) (show (TC q_75) ∧ (cFr [31] [(24, 4), (24, 5), (24, 6), (24, 7), (24, 8), (24, 9), (24, 10), (25, 7)] q_4 q_75) ∧ (0 ≤ Int32.toInt (x1_13 + 1)) ∧ (Int32.toInt (x1_13 + 1) ≤ 400) ∧ (Int32.toInt (q_75.1 24 9) = Int32.toInt (q_4.1 24 9)) from ⟨i_77, ((((((((((cFr.rf : cFr [31] [(24, 4), (24, 5), (24, 6), (24, 7), (24, 8), (24, 9), (24, 10), (25, 7)] q_4 q_4).t a_15 (by decide) (by decide)) : cFr [31] [(24, 4), (24, 5), (24, 6), (24, 7), (24, 8), (24, 9), (24, 10), (25, 7)] q_4 q_12).t i_49 (by decide) (by decide)) : cFr [31] [(24, 4), (24, 5), (24, 6), (24, 7), (24, 8), (24, 9), (24, 10), (25, 7)] q_4 q_46).t i_55 (by decide) (by decide)) : cFr [31] [(24, 4), (24, 5), (24, 6), (24, 7), (24, 8), (24, 9), (24, 10), (25, 7)] q_4 q_52).t i_69 (by decide) (by decide)) : cFr [31] [(24, 4), (24, 5), (24, 6), (24, 7), (24, 8), (24, 9), (24, 10), (25, 7)] q_4 q_66).t i_78 (by decide) (by decide)), by omega, by omega, by omega⟩) (show (400 - Int32.toInt (x1_13 + 1)).toNat < (400 - Int32.toInt x1_13).toNat by omega)
      · unfold zX4_readBoth_s24_73
        exact dOk_some (show (TC q_12) ∧ (cFr [31] [(24, 4), (24, 5), (24, 6), (24, 7), (24, 8), (24, 9), (24, 10), (25, 7)] q q_12) ∧ (Int32.toInt (q_12.1 24 9) = Int32.toInt (q.1 24 9)) from ⟨a_14, hFq_12, by omega⟩)
  · exact (show (TC q_4) ∧ (cFr [31] [(24, 4), (24, 5), (24, 6), (24, 7), (24, 8), (24, 9), (24, 10), (25, 7)] q_4 q_4) ∧ (0 ≤ (0 : Int)) ∧ ((0 : Int) ≤ 400) ∧ (Int32.toInt (q_4.1 24 9) = Int32.toInt (q_4.1 24 9)) from ⟨i_6, cFr.rf, by omega, by omega, by omega⟩)
  · show (400 - (0 : Int)).toNat < 1000000000000
    omega
end
section
set_option maxHeartbeats 4000000 in
set_option maxRecDepth 100000 in
theorem ok_X4_readTest_s24_o (kT : dK → Option (dK)) (n : Nat) (hkT : ∀ q9 : dK, TC q9 → (¬ Int32.toInt (q9.1 24 0) = 0) → (¬ Int32.toInt (q9.1 24 3) = 0) → (9 - Int32.toInt (q9.1 24 9) ≤ (n : Int)) → dOk (kT q9) (fun (o : dK) => (TC o) ∧ (cFr [31] [(24, 4), (24, 5), (24, 6), (24, 7), (24, 8), (24, 9), (24, 10), (25, 7)] q9 o) ∧ (Int32.toInt (o.1 24 9) = Int32.toInt (q9.1 24 9)))) (q : dK) (hT : TC q) (hp0 : ¬ Int32.toInt (q.1 24 0) = 0) (hp1 : ¬ Int32.toInt (q.1 24 3) = 0) (hp2 : 9 - Int32.toInt (q.1 24 9) ≤ (n : Int) + 1) : dOk (zX4_readTest_s24_o kT q) (fun (o : dK) => (TC o) ∧ (cFr [31] [(24, 4), (24, 5), (24, 6), (24, 7), (24, 8), (24, 9), (24, 10), (25, 7)] q o) ∧ (Int32.toInt (o.1 24 9) = Int32.toInt (q.1 24 9))) := by
  unfold zX4_readTest_s24_o
  have f_1 : 0 ≤ Int32.toInt (q.1 24 0) ∧ Int32.toInt (q.1 24 0) ≤ 1 := rg_24_0 hT
  have f_2 : 0 ≤ Int32.toInt (q.1 24 3) ∧ Int32.toInt (q.1 24 3) ≤ 1 := rg_24_3 hT
  have f_3 : 0 ≤ Int32.toInt (q.1 24 9) ∧ Int32.toInt (q.1 24 9) ≤ 8 := rg_24_9 hT
  refine dOk_V (ok_X4_readBoth_s24 kT n hkT q hT (show ¬ Int32.toInt (q.1 24 0) = 0 by omega) (show ¬ Int32.toInt (q.1 24 3) = 0 by omega) (show 9 - Int32.toInt (q.1 24 9) ≤ (n : Int) + 1 by omega)) (fun q_4 h_5 => ?_)
  replace h_5 : (TC q_4) ∧ (cFr [31] [(24, 4), (24, 5), (24, 6), (24, 7), (24, 8), (24, 9), (24, 10), (25, 7)] q q_4) ∧ (Int32.toInt (q_4.1 24 9) = Int32.toInt (q.1 24 9)) := h_5
  obtain ⟨i_6, i_7, i_8⟩ := h_5
  have hFq_4 : cFr [31] [(24, 4), (24, 5), (24, 6), (24, 7), (24, 8), (24, 9), (24, 10), (25, 7)] q q_4 := (cFr.rf (q := q)).t i_7 (by decide) (by decide)
  have f_9 : 0 ≤ Int32.toInt (q_4.1 24 9) ∧ Int32.toInt (q_4.1 24 9) ≤ 8 := rg_24_9 i_6
  unfold zX4_readTest_s24_6
  refine dFix_ok (fun (a : dK × Int32) => (TC a.1) ∧ (cFr [31] [(24, 4), (24, 5), (24, 6), (24, 7), (24, 8), (24, 9), (24, 10), (25, 7)] q_4 a.1) ∧ (0 ≤ Int32.toInt a.2) ∧ (Int32.toInt a.2 ≤ 400) ∧ (Int32.toInt (a.1.1 24 9) = Int32.toInt (q_4.1 24 9))) (fun (a : dK × Int32) => (400 - Int32.toInt a.2).toNat) ?_ _ ?_ _ (dF_gt ?_)
  · intro a ha k_11 hk_10
    obtain ⟨q_12, x1_13⟩ := a
    replace ha : (TC q_12) ∧ (cFr [31] [(24, 4), (24, 5), (24, 6), (24, 7), (24, 8), (24, 9), (24, 10), (25, 7)] q_4 q_12) ∧ (0 ≤ Int32.toInt x1_13) ∧ (Int32.toInt x1_13 ≤ 400) ∧ (Int32.toInt (q_12.1 24 9) = Int32.toInt (q_4.1 24 9)) := ha
    obtain ⟨a_14, a_15, a_16, a_17, a_18⟩ := ha
    show dOk (zX4_readTest_s24_6b kT (fun q x1 => k_11 (q, x1)) q_12 x1_13) _
    unfold zX4_readTest_s24_6b
    have hFq_12 : cFr [31] [(24, 4), (24, 5), (24, 6), (24, 7), (24, 8), (24, 9), (24, 10), (25, 7)] q q_12 := hFq_4.t a_15 (by decide) (by decide)
    have f_19 : 0 ≤ Int32.toInt (q_12.1 24 9) ∧ Int32.toInt (q_12.1 24 9) ≤ 8 := rg_24_9 a_14
    have f_20 : 0 ≤ Int32.toInt (q_12.1 24 1) ∧ Int32.toInt (q_12.1 24 1) ≤ 400 := rg_24_1 a_14
    have f_21 : 0 ≤ Int32.toInt (q_4.1 24 1) ∧ Int32.toInt (q_4.1 24 1) ≤ 400 := rg_24_1 i_6
    have f_22 : 0 ≤ Int32.toInt (q.1 24 1) ∧ Int32.toInt (q.1 24 1) ≤ 400 := rg_24_1 hT
    have w_23 : Int32.toInt (q_4.1 24 1) = Int32.toInt (q.1 24 1) := by rw [i_7.1 24 1 (by decide) (by decide)]
    have w_24 : Int32.toInt (q_12.1 24 1) = Int32.toInt (q_4.1 24 1) := by rw [a_15.1 24 1 (by decide) (by decide)]
    refine dOk_le (A := Int32.toInt (q_12.1 24 1)) (B := Int32.toInt x1_13) rfl rfl (fun c_25 => ?_) (fun c_26 => ?_)
    · unfold zX4_readTest_s24_73
      exact dOk_some (show (TC q_12) ∧ (cFr [31] [(24, 4), (24, 5), (24, 6), (24, 7), (24, 8), (24, 9), (24, 10), (25, 7)] q q_12) ∧ (Int32.toInt (q_12.1 24 9) = Int32.toInt (q.1 24 9)) from ⟨a_14, hFq_12, by omega⟩)
    · refine dOk_eq (A := Int32.toInt (q_12.1 24 10)) (B := (-1)) rfl (by decide) (fun c_27z c_27 => ?_) (fun c_28z c_28 => ?_)
      · have f_30 : 0 ≤ Int32.toInt (q_12.1 24 0) ∧ Int32.toInt (q_12.1 24 0) ≤ 1 := rg_24_0 a_14
        have f_31 : 0 ≤ Int32.toInt (q_4.1 24 0) ∧ Int32.toInt (q_4.1 24 0) ≤ 1 := rg_24_0 i_6
        have w_32 : Int32.toInt (q_4.1 24 0) = Int32.toInt (q.1 24 0) := by rw [i_7.1 24 0 (by decide) (by decide)]
        have w_33 : Int32.toInt (q_12.1 24 0) = Int32.toInt (q_4.1 24 0) := by rw [a_15.1 24 0 (by decide) (by decide)]
        refine dOk_B (ok_X4_isWord_s24_t11 q_12 a_14 (show ¬ Int32.toInt (q_12.1 24 0) = 0 by omega)) (fun r_34 q_35 h_36 => ?_)
        replace h_36 : (q_35 = q_12) ∧ ((Int32.toInt r_34 = 0 ∨ Int32.toInt r_34 = 1)) := h_36
        obtain ⟨i_37, i_38⟩ := h_36
        subst q_35
        refine dOk_eq (A := Int32.toInt r_34) (B := 0) rfl (by decide) (fun c_39z c_39 => ?_) (fun c_40z c_40 => ?_)
        · unfold zX4_readTest_s24_73
          exact dOk_some (show (TC q_12) ∧ (cFr [31] [(24, 4), (24, 5), (24, 6), (24, 7), (24, 8), (24, 9), (24, 10), (25, 7)] q q_12) ∧ (Int32.toInt (q_12.1 24 9) = Int32.toInt (q.1 24 9)) from ⟨a_14, hFq_12, by omega⟩)
        · have f_42 : 0 ≤ Int32.toInt (q_12.1 24 3) ∧ Int32.toInt (q_12.1 24 3) ≤ 1 := rg_24_3 a_14
          have f_43 : 0 ≤ Int32.toInt (q_4.1 24 3) ∧ Int32.toInt (q_4.1 24 3) ≤ 1 := rg_24_3 i_6
          have w_44 : Int32.toInt (q_4.1 24 3) = Int32.toInt (q.1 24 3) := by rw [i_7.1 24 3 (by decide) (by decide)]
          have w_45 : Int32.toInt (q_12.1 24 3) = Int32.toInt (q_4.1 24 3) := by rw [a_15.1 24 3 (by decide) (by decide)]
          refine dOk_G (dnz_ok (show ¬ Int32.toInt (q_12.1 24 3) = 0 by omega)) ?_
          refine dOk_G (dnz_ok (show ¬ Int32.toInt (q_12.1 24 3) = 0 by omega)) ?_
          refine dOk_V (ok_X7_emit_s25 q_12 12 0 a_14 (show 0 ≤ (12 : Int) ∧ (12 : Int) ≤ 12 by omega) (show 0 ≤ (0 : Int) ∧ (0 : Int) ≤ 2000 by omega)) (fun q_46 h_47 => ?_)
          replace h_47 : (TC q_46) ∧ (cFr [31] [(25, 7)] q_12 q_46) := h_47
          obtain ⟨i_48, i_49⟩ := h_47
          have hFq_46 : cFr [31] [(24, 4), (24, 5), (24, 6), (24, 7), (24, 8), (24, 9), (24, 10), (25, 7)] q q_46 := hFq_12.t i_49 (by decide) (by decide)
          have f_50 : 0 ≤ Int32.toInt (q_46.1 24 0) ∧ Int32.toInt (q_46.1 24 0) ≤ 1 := rg_24_0 i_48
          have w_51 : Int32.toInt (q_46.1 24 0) = Int32.toInt (q_12.1 24 0) := by rw [i_49.1 24 0 (by decide) (by decide)]
          refine dOk_V (ok_X4_step_s24 q_46 i_48 (show ¬ Int32.toInt (q_46.1 24 0) = 0 by omega)) (fun q_52 h_53 => ?_)
          replace h_53 : (TC q_52) ∧ (cFr [] [(24, 4), (24, 5), (24, 6), (24, 7)] q_46 q_52) := h_53
          obtain ⟨i_54, i_55⟩ := h_53
          have hFq_52 : cFr [31] [(24, 4), (24, 5), (24, 6), (24, 7), (24, 8), (24, 9), (24, 10), (25, 7)] q q_52 := hFq_46.t i_55 (by decide) (by decide)
          have f_56 : 0 ≤ Int32.toInt (q_52.1 24 0) ∧ Int32.toInt (q_52.1 24 0) ≤ 1 := rg_24_0 i_54
          have w_57 : Int32.toInt (q_52.1 24 0) = Int32.toInt (q_46.1 24 0) := by rw [i_55.1 24 0 (by decide) (by decide)]
          have f_58 : 0 ≤ Int32.toInt (q_52.1 24 3) ∧ Int32.toInt (q_52.1 24 3) ≤ 1 := rg_24_3 i_54
          have f_59 : 0 ≤ Int32.toInt (q_46.1 24 3) ∧ Int32.toInt (q_46.1 24 3) ≤ 1 := rg_24_3 i_48
          have w_60 : Int32.toInt (q_46.1 24 3) = Int32.toInt (q_12.1 24 3) := by rw [i_49.1 24 3 (by decide) (by decide)]
          have w_61 : Int32.toInt (q_52.1 24 3) = Int32.toInt (q_46.1 24 3) := by rw [i_55.1 24 3 (by decide) (by decide)]
          have f_62 : 0 ≤ Int32.toInt (q_52.1 24 9) ∧ Int32.toInt (q_52.1 24 9) ≤ 8 := rg_24_9 i_54
          have f_63 : 0 ≤ Int32.toInt (q_46.1 24 9) ∧ Int32.toInt (q_46.1 24 9) ≤ 8 := rg_24_9 i_48
          have w_64 : Int32.toInt (q_46.1 24 9) = Int32.toInt (q_12.1 24 9) := by rw [i_49.1 24 9 (by decide) (by decide)]
          have w_65 : Int32.toInt (q_52.1 24 9) = Int32.toInt (q_46.1 24 9) := by rw [i_55.1 24 9 (by decide) (by decide)]
          refine dOk_V (ok_X4_readBoth_s24 kT n hkT q_52 i_54 (show ¬ Int32.toInt (q_52.1 24 0) = 0 by omega) (show ¬ Int32.toInt (q_52.1 24 3) = 0 by omega) (show 9 - Int32.toInt (q_52.1 24 9) ≤ (n : Int) + 1 by omega)) (fun q_66 h_67 => ?_)
          replace h_67 : (TC q_66) ∧ (cFr [31] [(24, 4), (24, 5), (24, 6), (24, 7), (24, 8), (24, 9), (24, 10), (25, 7)] q_52 q_66) ∧ (Int32.toInt (q_66.1 24 9) = Int32.toInt (q_52.1 24 9)) := h_67
          obtain ⟨i_68, i_69, i_70⟩ := h_67
          have hFq_66 : cFr [31] [(24, 4), (24, 5), (24, 6), (24, 7), (24, 8), (24, 9), (24, 10), (25, 7)] q q_66 := hFq_52.t i_69 (by decide) (by decide)
          have f_71 : 0 ≤ Int32.toInt (q_66.1 24 9) ∧ Int32.toInt (q_66.1 24 9) ≤ 8 := rg_24_9 i_68
          have f_72 : 0 ≤ Int32.toInt (q_66.1 24 3) ∧ Int32.toInt (q_66.1 24 3) ≤ 1 := rg_24_3 i_68
          have w_73 : Int32.toInt (q_66.1 24 3) = Int32.toInt (q_52.1 24 3) := by rw [i_69.1 24 3 (by decide) (by decide)]
          refine dOk_G (dnz_ok (show ¬ Int32.toInt (q_66.1 24 3) = 0 by omega)) ?_
          have f_74 : 0 ≤ Int32.toInt (q_12.1 25 7) ∧ Int32.toInt (q_12.1 25 7) ≤ 400 := rg_25_7 a_14
          refine dOk_V (ok_X7_leapHere_s25 q_66 12 (q_12.1 25 7) i_68 (show 0 ≤ (12 : Int) ∧ (12 : Int) ≤ 12 by omega)) (fun q_75 h_76 => ?_)
          replace h_76 : (TC q_75) ∧ (cFr [31] [] q_66 q_75) := h_76
          obtain ⟨i_77, i_78⟩ := h_76
          have hFq_75 : cFr [31] [(24, 4), (24, 5), (24, 6), (24, 7), (24, 8), (24, 9), (24, 10), (25, 7)] q q_75 := hFq_66.t i_78 (by decide) (by decide)
          try have t_79 : Int32.toInt (x1_13 + 1) = Int32.toInt x1_13 + 1 := ti_add rfl (by decide) (by omega) (by omega)
          have f_80 : 0 ≤ Int32.toInt (q_75.1 24 9) ∧ Int32.toInt (q_75.1 24 9) ≤ 8 := rg_24_9 i_77
          have w_81 : Int32.toInt (q_75.1 24 9) = Int32.toInt (q_66.1 24 9) := by rw [i_78.1 24 9 (by decide) (by decide)]
          exact hk_10 (q_75, (x1_13 + 1)) (show (TC q_75) ∧ (cFr [31] [(24, 4), (24, 5), (24, 6), (24, 7), (24, 8), (24, 9), (24, 10), (25, 7)] q_4 q_75) ∧ (0 ≤ Int32.toInt (x1_13 + 1)) ∧ (Int32.toInt (x1_13 + 1) ≤ 400) ∧ (Int32.toInt (q_75.1 24 9) = Int32.toInt (q_4.1 24 9)) from ⟨i_77, ((((((((((cFr.rf : cFr [31] [(24, 4), (24, 5), (24, 6), (24, 7), (24, 8), (24, 9), (24, 10), (25, 7)] q_4 q_4).t a_15 (by decide) (by decide)) : cFr [31] [(24, 4), (24, 5), (24, 6), (24, 7), (24, 8), (24, 9), (24, 10), (25, 7)] q_4 q_12).t i_49 (by decide) (by decide)) : cFr [31] [(24, 4), (24, 5), (24, 6), (24, 7), (24, 8), (24, 9), (24, 10), (25, 7)] q_4 q_46).t i_55 (by decide) (by decide)) : cFr [31] [(24, 4), (24, 5), (24, 6), (24, 7), (24, 8), (24, 9), (24, 10), (25, 7)] q_4 q_52).t i_69 (by decide) (by decide)) : cFr [31] [(24, 4), (24, 5), (24, 6), (24, 7), (24, 8), (24, 9), (24, 10), (25, 7)] q_4 q_66).t i_78 (by decide) (by decide)), by omega, by omega, by omega⟩) (show (400 - Int32.toInt (x1_13 + 1)).toNat < (400 - Int32.toInt x1_13).toNat by omega)
      · unfold zX4_readTest_s24_73
        exact dOk_some (show (TC q_12) ∧ (cFr [31] [(24, 4), (24, 5), (24, 6), (24, 7), (24, 8), (24, 9), (24, 10), (25, 7)] q q_12) ∧ (Int32.toInt (q_12.1 24 9) = Int32.toInt (q.1 24 9)) from ⟨a_14, hFq_12, by omega⟩)
  · exact (show (TC q_4) ∧ (cFr [31] [(24, 4), (24, 5), (24, 6), (24, 7), (24, 8), (24, 9), (24, 10), (25, 7)] q_4 q_4) ∧ (0 ≤ (0 : Int)) ∧ ((0 : Int) ≤ 400) ∧ (Int32.toInt (q_4.1 24 9) = Int32.toInt (q_4.1 24 9)) from ⟨i_6, cFr.rf, by omega, by omega, by omega⟩)
  · show (400 - (0 : Int)).toNat < 1000000000000
    omega

theorem ok_X4_readTest_s24 (n : Nat) : ∀ (q : dK) (hT : TC q) (hp0 : ¬ Int32.toInt (q.1 24 0) = 0) (hp1 : ¬ Int32.toInt (q.1 24 3) = 0) (hp2 : 9 - Int32.toInt (q.1 24 9) ≤ (n : Int)), dOk (zX4_readTest_s24 n q) (fun (o : dK) => (TC o) ∧ (cFr [31] [(24, 4), (24, 5), (24, 6), (24, 7), (24, 8), (24, 9), (24, 10), (25, 7)] q o) ∧ (Int32.toInt (o.1 24 9) = Int32.toInt (q.1 24 9))) := by
  induction n with
  | zero =>
    intro q hT hp0 hp1 hp2
    have f := rg_24_9 hT
    exfalso
    omega
  | succ n ih =>
    intro q hT hp0 hp1 hp2
    show dOk (zX4_readTest_s24_o (zX4_readTest_s24 n) q) _
    exact ok_X4_readTest_s24_o (zX4_readTest_s24 n) n ih q hT hp0 hp1 (by omega)
end
section
set_option maxHeartbeats 4000000 in
set_option maxRecDepth 100000 in
theorem ok_X4_readClause_s24 (q : dK) (hT : TC q) (hp0 : ¬ Int32.toInt (q.1 24 0) = 0) (hp1 : ¬ Int32.toInt (q.1 24 3) = 0) : dOk (zX4_readClause_s24 q) (fun (o : dK) => (TC o) ∧ (cFr [26, 27, 28, 29, 30, 31] [(24, 4), (24, 5), (24, 6), (24, 7), (24, 8), (24, 9), (24, 10), (25, 6), (25, 7)] q o)) := by
  unfold zX4_readClause_s24
  have hn_2 : ∀ (q_1 : dK), TC q_1 → cFr [26, 27, 28, 29, 30, 31] [(24, 4), (24, 5), (24, 6), (24, 7), (24, 8), (24, 9), (24, 10), (25, 6), (25, 7)] q q_1 → (¬ Int32.toInt (q_1.1 24 0) = 0) → (¬ Int32.toInt (q_1.1 24 3) = 0) → dOk (zX4_readClause_s24_103 q_1) (fun (o : dK) => (TC o) ∧ (cFr [26, 27, 28, 29, 30, 31] [(24, 4), (24, 5), (24, 6), (24, 7), (24, 8), (24, 9), (24, 10), (25, 6), (25, 7)] q o)) := by
    intro q_1 hT_5 hF_6 b_3 b_4
    unfold zX4_readClause_s24_103
    have f_7 : 0 ≤ Int32.toInt (q_1.1 24 0) ∧ Int32.toInt (q_1.1 24 0) ≤ 1 := rg_24_0 hT_5
    have f_8 : 0 ≤ Int32.toInt (q.1 24 0) ∧ Int32.toInt (q.1 24 0) ≤ 1 := rg_24_0 hT
    have w_9 : Int32.toInt (q_1.1 24 0) = Int32.toInt (q.1 24 0) := by rw [hF_6.1 24 0 (by decide) (by decide)]
    have f_10 : 0 ≤ Int32.toInt (q_1.1 24 3) ∧ Int32.toInt (q_1.1 24 3) ≤ 1 := rg_24_3 hT_5
    have f_11 : 0 ≤ Int32.toInt (q.1 24 3) ∧ Int32.toInt (q.1 24 3) ≤ 1 := rg_24_3 hT
    have w_12 : Int32.toInt (q_1.1 24 3) = Int32.toInt (q.1 24 3) := by rw [hF_6.1 24 3 (by decide) (by decide)]
    refine dOk_eq (A := Int32.toInt (q_1.1 24 10)) (B := (-1)) rfl (by decide) (fun c_13z c_13 => ?_) (fun c_14z c_14 => ?_)
    · refine dOk_B (ok_X4_isWord_s24_t7 q_1 hT_5 (show ¬ Int32.toInt (q_1.1 24 0) = 0 by omega)) (fun r_16 q_17 h_18 => ?_)
      replace h_18 : (q_17 = q_1) ∧ ((Int32.toInt r_16 = 0 ∨ Int32.toInt r_16 = 1)) := h_18
      obtain ⟨i_19, i_20⟩ := h_18
      subst q_17
      refine dOk_eq (A := Int32.toInt r_16) (B := 0) rfl (by decide) (fun c_21z c_21 => ?_) (fun c_22z c_22 => ?_)
      · unfold zX4_readClause_s24_135
        exact dOk_some (show (TC q_1) ∧ (cFr [26, 27, 28, 29, 30, 31] [(24, 4), (24, 5), (24, 6), (24, 7), (24, 8), (24, 9), (24, 10), (25, 6), (25, 7)] q q_1) from ⟨hT_5, hF_6⟩)
      · refine dOk_V (ok_X4_step_s24 q_1 hT_5 (show ¬ Int32.toInt (q_1.1 24 0) = 0 by omega)) (fun q_24 h_25 => ?_)
        replace h_25 : (TC q_24) ∧ (cFr [] [(24, 4), (24, 5), (24, 6), (24, 7)] q_1 q_24) := h_25
        obtain ⟨i_26, i_27⟩ := h_25
        have hFq_24 : cFr [26, 27, 28, 29, 30, 31] [(24, 4), (24, 5), (24, 6), (24, 7), (24, 8), (24, 9), (24, 10), (25, 6), (25, 7)] q q_24 := hF_6.t i_27 (by decide) (by decide)
        have f_28 : 0 ≤ Int32.toInt (q_24.1 24 0) ∧ Int32.toInt (q_24.1 24 0) ≤ 1 := rg_24_0 i_26
        have w_29 : Int32.toInt (q_24.1 24 0) = Int32.toInt (q_1.1 24 0) := by rw [i_27.1 24 0 (by decide) (by decide)]
        have f_30 : 0 ≤ Int32.toInt (q_24.1 24 3) ∧ Int32.toInt (q_24.1 24 3) ≤ 1 := rg_24_3 i_26
        have w_31 : Int32.toInt (q_24.1 24 3) = Int32.toInt (q_1.1 24 3) := by rw [i_27.1 24 3 (by decide) (by decide)]
        have f_32 : 0 ≤ Int32.toInt (q_24.1 24 9) ∧ Int32.toInt (q_24.1 24 9) ≤ 8 := rg_24_9 i_26
        have f_33 : 0 ≤ Int32.toInt (q_1.1 24 9) ∧ Int32.toInt (q_1.1 24 9) ≤ 8 := rg_24_9 hT_5
        have w_34 : Int32.toInt (q_24.1 24 9) = Int32.toInt (q_1.1 24 9) := by rw [i_27.1 24 9 (by decide) (by decide)]
        refine dOk_V (ok_X4_readTest_s24 10 q_24 i_26 (show ¬ Int32.toInt (q_24.1 24 0) = 0 by omega) (show ¬ Int32.toInt (q_24.1 24 3) = 0 by omega) (show 9 - Int32.toInt (q_24.1 24 9) ≤ (10 : Int) by omega)) (fun q_35 h_36 => ?_)
        replace h_36 : (TC q_35) ∧ (cFr [31] [(24, 4), (24, 5), (24, 6), (24, 7), (24, 8), (24, 9), (24, 10), (25, 7)] q_24 q_35) ∧ (Int32.toInt (q_35.1 24 9) = Int32.toInt (q_24.1 24 9)) := h_36
        obtain ⟨i_37, i_38, i_39⟩ := h_36
        have hFq_35 : cFr [26, 27, 28, 29, 30, 31] [(24, 4), (24, 5), (24, 6), (24, 7), (24, 8), (24, 9), (24, 10), (25, 6), (25, 7)] q q_35 := hFq_24.t i_38 (by decide) (by decide)
        have f_40 : 0 ≤ Int32.toInt (q_35.1 24 9) ∧ Int32.toInt (q_35.1 24 9) ≤ 8 := rg_24_9 i_37
        have f_41 : 0 ≤ Int32.toInt (q_35.1 24 3) ∧ Int32.toInt (q_35.1 24 3) ≤ 1 := rg_24_3 i_37
        have w_42 : Int32.toInt (q_35.1 24 3) = Int32.toInt (q_24.1 24 3) := by rw [i_38.1 24 3 (by decide) (by decide)]
        refine dOk_G (dnz_ok (show ¬ Int32.toInt (q_35.1 24 3) = 0 by omega)) ?_
        refine dOk_V (ok_X7_endTest_s25 q_35 i_37) (fun q_43 h_44 => ?_)
        replace h_44 : (TC q_43) ∧ (cFr [30] [] q_35 q_43) := h_44
        obtain ⟨i_45, i_46⟩ := h_44
        have hFq_43 : cFr [26, 27, 28, 29, 30, 31] [(24, 4), (24, 5), (24, 6), (24, 7), (24, 8), (24, 9), (24, 10), (25, 6), (25, 7)] q q_43 := hFq_35.t i_46 (by decide) (by decide)
        unfold zX4_readClause_s24_135
        exact dOk_some (show (TC q_43) ∧ (cFr [26, 27, 28, 29, 30, 31] [(24, 4), (24, 5), (24, 6), (24, 7), (24, 8), (24, 9), (24, 10), (25, 6), (25, 7)] q q_43) from ⟨i_45, hFq_43⟩)
    · unfold zX4_readClause_s24_135
      exact dOk_some (show (TC q_1) ∧ (cFr [26, 27, 28, 29, 30, 31] [(24, 4), (24, 5), (24, 6), (24, 7), (24, 8), (24, 9), (24, 10), (25, 6), (25, 7)] q q_1) from ⟨hT_5, hF_6⟩)
  have hn_48 : ∀ (q_47 : dK), TC q_47 → cFr [26, 27, 28, 29, 30, 31] [(24, 4), (24, 5), (24, 6), (24, 7), (24, 8), (24, 9), (24, 10), (25, 6), (25, 7)] q q_47 → (¬ Int32.toInt (q_47.1 24 0) = 0) → (¬ Int32.toInt (q_47.1 24 3) = 0) → dOk (zX4_readClause_s24_71 q_47) (fun (o : dK) => (TC o) ∧ (cFr [26, 27, 28, 29, 30, 31] [(24, 4), (24, 5), (24, 6), (24, 7), (24, 8), (24, 9), (24, 10), (25, 6), (25, 7)] q o)) := by
    intro q_47 hT_51 hF_52 b_49 b_50
    unfold zX4_readClause_s24_71
    have f_53 : 0 ≤ Int32.toInt (q_47.1 24 0) ∧ Int32.toInt (q_47.1 24 0) ≤ 1 := rg_24_0 hT_51
    have f_54 : 0 ≤ Int32.toInt (q.1 24 0) ∧ Int32.toInt (q.1 24 0) ≤ 1 := rg_24_0 hT
    have w_55 : Int32.toInt (q_47.1 24 0) = Int32.toInt (q.1 24 0) := by rw [hF_52.1 24 0 (by decide) (by decide)]
    have f_56 : 0 ≤ Int32.toInt (q_47.1 24 3) ∧ Int32.toInt (q_47.1 24 3) ≤ 1 := rg_24_3 hT_51
    have f_57 : 0 ≤ Int32.toInt (q.1 24 3) ∧ Int32.toInt (q.1 24 3) ≤ 1 := rg_24_3 hT
    have w_58 : Int32.toInt (q_47.1 24 3) = Int32.toInt (q.1 24 3) := by rw [hF_52.1 24 3 (by decide) (by decide)]
    have f_59 : 0 ≤ Int32.toInt (q_47.1 24 2) ∧ Int32.toInt (q_47.1 24 2) ≤ 1 := rg_24_2 hT_51
    have f_60 : 0 ≤ Int32.toInt (q.1 24 2) ∧ Int32.toInt (q.1 24 2) ≤ 1 := rg_24_2 hT
    have w_61 : Int32.toInt (q_47.1 24 2) = Int32.toInt (q.1 24 2) := by rw [hF_52.1 24 2 (by decide) (by decide)]
    refine dOk_eq (A := Int32.toInt (q_47.1 24 2)) (B := 0) rfl (by decide) (fun c_62z c_62 => ?_) (fun c_63z c_63 => ?_)
    · exact hn_2 q_47 hT_51 ((cFr.rf : cFr [26, 27, 28, 29, 30, 31] [(24, 4), (24, 5), (24, 6), (24, 7), (24, 8), (24, 9), (24, 10), (25, 6), (25, 7)] q q).t hF_52 (by decide) (by decide)) (show ¬ Int32.toInt (q_47.1 24 0) = 0 by omega) (show ¬ Int32.toInt (q_47.1 24 3) = 0 by omega)
    · refine dOk_eq (A := Int32.toInt (q_47.1 24 10)) (B := (-1)) rfl (by decide) (fun c_65z c_65 => ?_) (fun c_66z c_66 => ?_)
      · refine dOk_B (ok_X4_isWord_s24_t6 q_47 hT_51 (show ¬ Int32.toInt (q_47.1 24 0) = 0 by omega)) (fun r_68 q_69 h_70 => ?_)
        replace h_70 : (q_69 = q_47) ∧ ((Int32.toInt r_68 = 0 ∨ Int32.toInt r_68 = 1)) := h_70
        obtain ⟨i_71, i_72⟩ := h_70
        subst q_69
        refine dOk_eq (A := Int32.toInt r_68) (B := 0) rfl (by decide) (fun c_73z c_73 => ?_) (fun c_74z c_74 => ?_)
        · exact hn_2 q_47 hT_51 ((cFr.rf : cFr [26, 27, 28, 29, 30, 31] [(24, 4), (24, 5), (24, 6), (24, 7), (24, 8), (24, 9), (24, 10), (25, 6), (25, 7)] q q).t hF_52 (by decide) (by decide)) (show ¬ Int32.toInt (q_47.1 24 0) = 0 by omega) (show ¬ Int32.toInt (q_47.1 24 3) = 0 by omega)
        · refine dOk_V (ok_X4_step_s24 q_47 hT_51 (show ¬ Int32.toInt (q_47.1 24 0) = 0 by omega)) (fun q_76 h_77 => ?_)
          replace h_77 : (TC q_76) ∧ (cFr [] [(24, 4), (24, 5), (24, 6), (24, 7)] q_47 q_76) := h_77
          obtain ⟨i_78, i_79⟩ := h_77
          have hFq_76 : cFr [26, 27, 28, 29, 30, 31] [(24, 4), (24, 5), (24, 6), (24, 7), (24, 8), (24, 9), (24, 10), (25, 6), (25, 7)] q q_76 := hF_52.t i_79 (by decide) (by decide)
          have f_80 : 0 ≤ Int32.toInt (q_76.1 24 0) ∧ Int32.toInt (q_76.1 24 0) ≤ 1 := rg_24_0 i_78
          have w_81 : Int32.toInt (q_76.1 24 0) = Int32.toInt (q_47.1 24 0) := by rw [i_79.1 24 0 (by decide) (by decide)]
          have f_82 : 0 ≤ Int32.toInt (q_76.1 24 3) ∧ Int32.toInt (q_76.1 24 3) ≤ 1 := rg_24_3 i_78
          have w_83 : Int32.toInt (q_76.1 24 3) = Int32.toInt (q_47.1 24 3) := by rw [i_79.1 24 3 (by decide) (by decide)]
          refine dOk_V (ok_X4_readTimes_s24 q_76 i_78 (show ¬ Int32.toInt (q_76.1 24 0) = 0 by omega) (show ¬ Int32.toInt (q_76.1 24 3) = 0 by omega)) (fun q_84 h_85 => ?_)
          replace h_85 : (TC q_84) ∧ (cFr [27] [(24, 4), (24, 5), (24, 6), (24, 7), (24, 10)] q_76 q_84) := h_85
          obtain ⟨i_86, i_87⟩ := h_85
          have hFq_84 : cFr [26, 27, 28, 29, 30, 31] [(24, 4), (24, 5), (24, 6), (24, 7), (24, 8), (24, 9), (24, 10), (25, 6), (25, 7)] q q_84 := hFq_76.t i_87 (by decide) (by decide)
          have f_88 : 0 ≤ Int32.toInt (q_84.1 24 0) ∧ Int32.toInt (q_84.1 24 0) ≤ 1 := rg_24_0 i_86
          have w_89 : Int32.toInt (q_84.1 24 0) = Int32.toInt (q_76.1 24 0) := by rw [i_87.1 24 0 (by decide) (by decide)]
          have f_90 : 0 ≤ Int32.toInt (q_84.1 24 3) ∧ Int32.toInt (q_84.1 24 3) ≤ 1 := rg_24_3 i_86
          have w_91 : Int32.toInt (q_84.1 24 3) = Int32.toInt (q_76.1 24 3) := by rw [i_87.1 24 3 (by decide) (by decide)]
          exact hn_2 q_84 i_86 ((((((cFr.rf : cFr [26, 27, 28, 29, 30, 31] [(24, 4), (24, 5), (24, 6), (24, 7), (24, 8), (24, 9), (24, 10), (25, 6), (25, 7)] q q).t hF_52 (by decide) (by decide)) : cFr [26, 27, 28, 29, 30, 31] [(24, 4), (24, 5), (24, 6), (24, 7), (24, 8), (24, 9), (24, 10), (25, 6), (25, 7)] q q_47).t i_79 (by decide) (by decide)) : cFr [26, 27, 28, 29, 30, 31] [(24, 4), (24, 5), (24, 6), (24, 7), (24, 8), (24, 9), (24, 10), (25, 6), (25, 7)] q q_76).t i_87 (by decide) (by decide)) (show ¬ Int32.toInt (q_84.1 24 0) = 0 by omega) (show ¬ Int32.toInt (q_84.1 24 3) = 0 by omega)
      · exact hn_2 q_47 hT_51 ((cFr.rf : cFr [26, 27, 28, 29, 30, 31] [(24, 4), (24, 5), (24, 6), (24, 7), (24, 8), (24, 9), (24, 10), (25, 6), (25, 7)] q q).t hF_52 (by decide) (by decide)) (show ¬ Int32.toInt (q_47.1 24 0) = 0 by omega) (show ¬ Int32.toInt (q_47.1 24 3) = 0 by omega)
  have hn_93 : ∀ (q_92 : dK), TC q_92 → cFr [26, 27, 28, 29, 30, 31] [(24, 4), (24, 5), (24, 6), (24, 7), (24, 8), (24, 9), (24, 10), (25, 6), (25, 7)] q q_92 → (¬ Int32.toInt (q_92.1 24 0) = 0) → (¬ Int32.toInt (q_92.1 24 3) = 0) → dOk (zX4_readClause_s24_60 q_92) (fun (o : dK) => (TC o) ∧ (cFr [26, 27, 28, 29, 30, 31] [(24, 4), (24, 5), (24, 6), (24, 7), (24, 8), (24, 9), (24, 10), (25, 6), (25, 7)] q o)) := by
    intro q_92 hT_96 hF_97 b_94 b_95
    unfold zX4_readClause_s24_60
    have f_98 : 0 ≤ Int32.toInt (q_92.1 24 0) ∧ Int32.toInt (q_92.1 24 0) ≤ 1 := rg_24_0 hT_96
    have f_99 : 0 ≤ Int32.toInt (q.1 24 0) ∧ Int32.toInt (q.1 24 0) ≤ 1 := rg_24_0 hT
    have w_100 : Int32.toInt (q_92.1 24 0) = Int32.toInt (q.1 24 0) := by rw [hF_97.1 24 0 (by decide) (by decide)]
    have f_101 : 0 ≤ Int32.toInt (q_92.1 24 3) ∧ Int32.toInt (q_92.1 24 3) ≤ 1 := rg_24_3 hT_96
    have f_102 : 0 ≤ Int32.toInt (q.1 24 3) ∧ Int32.toInt (q.1 24 3) ≤ 1 := rg_24_3 hT
    have w_103 : Int32.toInt (q_92.1 24 3) = Int32.toInt (q.1 24 3) := by rw [hF_97.1 24 3 (by decide) (by decide)]
    have f_104 : 0 ≤ Int32.toInt (q_92.1 24 9) ∧ Int32.toInt (q_92.1 24 9) ≤ 8 := rg_24_9 hT_96
    refine dOk_V (ok_X4_readSum_s24 10 q_92 hT_96 (show ¬ Int32.toInt (q_92.1 24 0) = 0 by omega) (show ¬ Int32.toInt (q_92.1 24 3) = 0 by omega) (show 9 - Int32.toInt (q_92.1 24 9) ≤ (10 : Int) by omega)) (fun q_105 h_106 => ?_)
    replace h_106 : (TC q_105) ∧ (cFr [31] [(24, 4), (24, 5), (24, 6), (24, 7), (24, 8), (24, 9), (24, 10), (25, 7)] q_92 q_105) ∧ (Int32.toInt (q_105.1 24 9) = Int32.toInt (q_92.1 24 9)) := h_106
    obtain ⟨i_107, i_108, i_109⟩ := h_106
    have hFq_105 : cFr [26, 27, 28, 29, 30, 31] [(24, 4), (24, 5), (24, 6), (24, 7), (24, 8), (24, 9), (24, 10), (25, 6), (25, 7)] q q_105 := hF_97.t i_108 (by decide) (by decide)
    have f_110 : 0 ≤ Int32.toInt (q_105.1 24 9) ∧ Int32.toInt (q_105.1 24 9) ≤ 8 := rg_24_9 i_107
    have f_111 : 0 ≤ Int32.toInt (q_105.1 24 3) ∧ Int32.toInt (q_105.1 24 3) ≤ 1 := rg_24_3 i_107
    have w_112 : Int32.toInt (q_105.1 24 3) = Int32.toInt (q_92.1 24 3) := by rw [i_108.1 24 3 (by decide) (by decide)]
    refine dOk_G (dnz_ok (show ¬ Int32.toInt (q_105.1 24 3) = 0 by omega)) ?_
    refine dOk_V (ok_X7_endSum_s25 q_105 i_107) (fun q_113 h_114 => ?_)
    replace h_114 : (TC q_113) ∧ (cFr [29, 30] [] q_105 q_113) := h_114
    obtain ⟨i_115, i_116⟩ := h_114
    have hFq_113 : cFr [26, 27, 28, 29, 30, 31] [(24, 4), (24, 5), (24, 6), (24, 7), (24, 8), (24, 9), (24, 10), (25, 6), (25, 7)] q q_113 := hFq_105.t i_116 (by decide) (by decide)
    have f_117 : 0 ≤ Int32.toInt (q_113.1 24 0) ∧ Int32.toInt (q_113.1 24 0) ≤ 1 := rg_24_0 i_115
    have f_118 : 0 ≤ Int32.toInt (q_105.1 24 0) ∧ Int32.toInt (q_105.1 24 0) ≤ 1 := rg_24_0 i_107
    have w_119 : Int32.toInt (q_105.1 24 0) = Int32.toInt (q_92.1 24 0) := by rw [i_108.1 24 0 (by decide) (by decide)]
    have w_120 : Int32.toInt (q_113.1 24 0) = Int32.toInt (q_105.1 24 0) := by rw [i_116.1 24 0 (by decide) (by decide)]
    have f_121 : 0 ≤ Int32.toInt (q_113.1 24 3) ∧ Int32.toInt (q_113.1 24 3) ≤ 1 := rg_24_3 i_115
    have w_122 : Int32.toInt (q_113.1 24 3) = Int32.toInt (q_105.1 24 3) := by rw [i_116.1 24 3 (by decide) (by decide)]
    exact hn_48 q_113 i_115 ((((((cFr.rf : cFr [26, 27, 28, 29, 30, 31] [(24, 4), (24, 5), (24, 6), (24, 7), (24, 8), (24, 9), (24, 10), (25, 6), (25, 7)] q q).t hF_97 (by decide) (by decide)) : cFr [26, 27, 28, 29, 30, 31] [(24, 4), (24, 5), (24, 6), (24, 7), (24, 8), (24, 9), (24, 10), (25, 6), (25, 7)] q q_92).t i_108 (by decide) (by decide)) : cFr [26, 27, 28, 29, 30, 31] [(24, 4), (24, 5), (24, 6), (24, 7), (24, 8), (24, 9), (24, 10), (25, 6), (25, 7)] q q_105).t i_116 (by decide) (by decide)) (show ¬ Int32.toInt (q_113.1 24 0) = 0 by omega) (show ¬ Int32.toInt (q_113.1 24 3) = 0 by omega)
  have f_123 : 0 ≤ Int32.toInt (q.1 24 2) ∧ Int32.toInt (q.1 24 2) ≤ 1 := rg_24_2 hT
  refine dOk_eq (A := Int32.toInt (q.1 24 2)) (B := 0) rfl (by decide) (fun c_124z c_124 => ?_) (fun c_125z c_125 => ?_)
  · unfold zX4_readClause_s24_15
    have f_127 : 0 ≤ Int32.toInt (q.1 24 0) ∧ Int32.toInt (q.1 24 0) ≤ 1 := rg_24_0 hT
    refine dOk_B (ok_X4_wordIn_s24_t1 q hT (show ¬ Int32.toInt (q.1 24 0) = 0 by omega)) (fun r_128 q_129 h_130 => ?_)
    replace h_130 : (q_129 = q) ∧ (-1 ≤ Int32.toInt r_128 ∧ Int32.toInt r_128 ≤ 15) := h_130
    obtain ⟨i_131, i_132⟩ := h_130
    subst q_129
    refine dOk_eq (A := Int32.toInt r_128) (B := (-1)) rfl (by decide) (fun c_133z c_133 => ?_) (fun c_134z c_134 => ?_)
    · refine dOk_V (ok_X4_fail_s24 q hT) (fun q_136 h_137 => ?_)
      replace h_137 : (TC q_136) ∧ (cFr [] [(24, 10)] q q_136) := h_137
      obtain ⟨i_138, i_139⟩ := h_137
      have hFq_136 : cFr [26, 27, 28, 29, 30, 31] [(24, 4), (24, 5), (24, 6), (24, 7), (24, 8), (24, 9), (24, 10), (25, 6), (25, 7)] q q_136 := (cFr.rf (q := q)).t i_139 (by decide) (by decide)
      exact dOk_some (show (TC q_136) ∧ (cFr [26, 27, 28, 29, 30, 31] [(24, 4), (24, 5), (24, 6), (24, 7), (24, 8), (24, 9), (24, 10), (25, 6), (25, 7)] q q_136) from ⟨i_138, hFq_136⟩)
    · have f_140 : 0 ≤ Int32.toInt (q.1 24 3) ∧ Int32.toInt (q.1 24 3) ≤ 1 := rg_24_3 hT
      refine dOk_G (dnz_ok (show ¬ Int32.toInt (q.1 24 3) = 0 by omega)) ?_
      refine dOk_V (ok_X7_beginClause_s25 q r_128 hT) (fun q_141 h_142 => ?_)
      replace h_142 : (TC q_141) ∧ (cFr [26, 27, 28, 29, 30] [(25, 6)] q q_141) := h_142
      obtain ⟨i_143, i_144⟩ := h_142
      have hFq_141 : cFr [26, 27, 28, 29, 30, 31] [(24, 4), (24, 5), (24, 6), (24, 7), (24, 8), (24, 9), (24, 10), (25, 6), (25, 7)] q q_141 := (cFr.rf (q := q)).t i_144 (by decide) (by decide)
      have f_145 : 0 ≤ Int32.toInt (q_141.1 24 0) ∧ Int32.toInt (q_141.1 24 0) ≤ 1 := rg_24_0 i_143
      have w_146 : Int32.toInt (q_141.1 24 0) = Int32.toInt (q.1 24 0) := by rw [i_144.1 24 0 (by decide) (by decide)]
      refine dOk_V (ok_X4_step_s24 q_141 i_143 (show ¬ Int32.toInt (q_141.1 24 0) = 0 by omega)) (fun q_147 h_148 => ?_)
      replace h_148 : (TC q_147) ∧ (cFr [] [(24, 4), (24, 5), (24, 6), (24, 7)] q_141 q_147) := h_148
      obtain ⟨i_149, i_150⟩ := h_148
      have hFq_147 : cFr [26, 27, 28, 29, 30, 31] [(24, 4), (24, 5), (24, 6), (24, 7), (24, 8), (24, 9), (24, 10), (25, 6), (25, 7)] q q_147 := hFq_141.t i_150 (by decide) (by decide)
      have f_151 : 0 ≤ Int32.toInt (q_147.1 24 2) ∧ Int32.toInt (q_147.1 24 2) ≤ 1 := rg_24_2 i_149
      have f_152 : 0 ≤ Int32.toInt (q_141.1 24 2) ∧ Int32.toInt (q_141.1 24 2) ≤ 1 := rg_24_2 i_143
      have w_153 : Int32.toInt (q_141.1 24 2) = Int32.toInt (q.1 24 2) := by rw [i_144.1 24 2 (by decide) (by decide)]
      have w_154 : Int32.toInt (q_147.1 24 2) = Int32.toInt (q_141.1 24 2) := by rw [i_150.1 24 2 (by decide) (by decide)]
      refine dOk_eq (A := Int32.toInt (q_147.1 24 2)) (B := 0) rfl (by decide) (fun c_155z c_155 => ?_) (fun c_156z c_156 => ?_)
      · refine dOk_eq (A := Int32.toInt r_128) (B := 0) rfl (by decide) (fun c_158z c_158 => ?_) (fun c_159z c_159 => ?_)
        · have f_161 : 0 ≤ Int32.toInt (q_147.1 24 0) ∧ Int32.toInt (q_147.1 24 0) ≤ 1 := rg_24_0 i_149
          have w_162 : Int32.toInt (q_147.1 24 0) = Int32.toInt (q_141.1 24 0) := by rw [i_150.1 24 0 (by decide) (by decide)]
          have f_163 : 0 ≤ Int32.toInt (q_147.1 24 3) ∧ Int32.toInt (q_147.1 24 3) ≤ 1 := rg_24_3 i_149
          have f_164 : 0 ≤ Int32.toInt (q_141.1 24 3) ∧ Int32.toInt (q_141.1 24 3) ≤ 1 := rg_24_3 i_143
          have w_165 : Int32.toInt (q_141.1 24 3) = Int32.toInt (q.1 24 3) := by rw [i_144.1 24 3 (by decide) (by decide)]
          have w_166 : Int32.toInt (q_147.1 24 3) = Int32.toInt (q_141.1 24 3) := by rw [i_150.1 24 3 (by decide) (by decide)]
          exact hn_93 q_147 i_149 ((((cFr.rf : cFr [26, 27, 28, 29, 30, 31] [(24, 4), (24, 5), (24, 6), (24, 7), (24, 8), (24, 9), (24, 10), (25, 6), (25, 7)] q q).t i_144 (by decide) (by decide)) : cFr [26, 27, 28, 29, 30, 31] [(24, 4), (24, 5), (24, 6), (24, 7), (24, 8), (24, 9), (24, 10), (25, 6), (25, 7)] q q_141).t i_150 (by decide) (by decide)) (show ¬ Int32.toInt (q_147.1 24 0) = 0 by omega) (show ¬ Int32.toInt (q_147.1 24 3) = 0 by omega)
        · have f_167 : 0 ≤ Int32.toInt (q_147.1 24 0) ∧ Int32.toInt (q_147.1 24 0) ≤ 1 := rg_24_0 i_149
          have w_168 : Int32.toInt (q_147.1 24 0) = Int32.toInt (q_141.1 24 0) := by rw [i_150.1 24 0 (by decide) (by decide)]
          have f_169 : 0 ≤ Int32.toInt (q_147.1 24 3) ∧ Int32.toInt (q_147.1 24 3) ≤ 1 := rg_24_3 i_149
          have f_170 : 0 ≤ Int32.toInt (q_141.1 24 3) ∧ Int32.toInt (q_141.1 24 3) ≤ 1 := rg_24_3 i_143
          have w_171 : Int32.toInt (q_141.1 24 3) = Int32.toInt (q.1 24 3) := by rw [i_144.1 24 3 (by decide) (by decide)]
          have w_172 : Int32.toInt (q_147.1 24 3) = Int32.toInt (q_141.1 24 3) := by rw [i_150.1 24 3 (by decide) (by decide)]
          exact hn_48 q_147 i_149 ((((cFr.rf : cFr [26, 27, 28, 29, 30, 31] [(24, 4), (24, 5), (24, 6), (24, 7), (24, 8), (24, 9), (24, 10), (25, 6), (25, 7)] q q).t i_144 (by decide) (by decide)) : cFr [26, 27, 28, 29, 30, 31] [(24, 4), (24, 5), (24, 6), (24, 7), (24, 8), (24, 9), (24, 10), (25, 6), (25, 7)] q q_141).t i_150 (by decide) (by decide)) (show ¬ Int32.toInt (q_147.1 24 0) = 0 by omega) (show ¬ Int32.toInt (q_147.1 24 3) = 0 by omega)
      · refine dOk_eq (A := Int32.toInt r_128) (B := 3) rfl (by decide) (fun c_173z c_173 => ?_) (fun c_174z c_174 => ?_)
        · have f_176 : 0 ≤ Int32.toInt (q_147.1 24 0) ∧ Int32.toInt (q_147.1 24 0) ≤ 1 := rg_24_0 i_149
          have w_177 : Int32.toInt (q_147.1 24 0) = Int32.toInt (q_141.1 24 0) := by rw [i_150.1 24 0 (by decide) (by decide)]
          have f_178 : 0 ≤ Int32.toInt (q_147.1 24 3) ∧ Int32.toInt (q_147.1 24 3) ≤ 1 := rg_24_3 i_149
          have f_179 : 0 ≤ Int32.toInt (q_141.1 24 3) ∧ Int32.toInt (q_141.1 24 3) ≤ 1 := rg_24_3 i_143
          have w_180 : Int32.toInt (q_141.1 24 3) = Int32.toInt (q.1 24 3) := by rw [i_144.1 24 3 (by decide) (by decide)]
          have w_181 : Int32.toInt (q_147.1 24 3) = Int32.toInt (q_141.1 24 3) := by rw [i_150.1 24 3 (by decide) (by decide)]
          exact hn_48 q_147 i_149 ((((cFr.rf : cFr [26, 27, 28, 29, 30, 31] [(24, 4), (24, 5), (24, 6), (24, 7), (24, 8), (24, 9), (24, 10), (25, 6), (25, 7)] q q).t i_144 (by decide) (by decide)) : cFr [26, 27, 28, 29, 30, 31] [(24, 4), (24, 5), (24, 6), (24, 7), (24, 8), (24, 9), (24, 10), (25, 6), (25, 7)] q q_141).t i_150 (by decide) (by decide)) (show ¬ Int32.toInt (q_147.1 24 0) = 0 by omega) (show ¬ Int32.toInt (q_147.1 24 3) = 0 by omega)
        · have f_182 : 0 ≤ Int32.toInt (q_147.1 24 0) ∧ Int32.toInt (q_147.1 24 0) ≤ 1 := rg_24_0 i_149
          have w_183 : Int32.toInt (q_147.1 24 0) = Int32.toInt (q_141.1 24 0) := by rw [i_150.1 24 0 (by decide) (by decide)]
          have f_184 : 0 ≤ Int32.toInt (q_147.1 24 3) ∧ Int32.toInt (q_147.1 24 3) ≤ 1 := rg_24_3 i_149
          have f_185 : 0 ≤ Int32.toInt (q_141.1 24 3) ∧ Int32.toInt (q_141.1 24 3) ≤ 1 := rg_24_3 i_143
          have w_186 : Int32.toInt (q_141.1 24 3) = Int32.toInt (q.1 24 3) := by rw [i_144.1 24 3 (by decide) (by decide)]
          have w_187 : Int32.toInt (q_147.1 24 3) = Int32.toInt (q_141.1 24 3) := by rw [i_150.1 24 3 (by decide) (by decide)]
          exact hn_93 q_147 i_149 ((((cFr.rf : cFr [26, 27, 28, 29, 30, 31] [(24, 4), (24, 5), (24, 6), (24, 7), (24, 8), (24, 9), (24, 10), (25, 6), (25, 7)] q q).t i_144 (by decide) (by decide)) : cFr [26, 27, 28, 29, 30, 31] [(24, 4), (24, 5), (24, 6), (24, 7), (24, 8), (24, 9), (24, 10), (25, 6), (25, 7)] q q_141).t i_150 (by decide) (by decide)) (show ¬ Int32.toInt (q_147.1 24 0) = 0 by omega) (show ¬ Int32.toInt (q_147.1 24 3) = 0 by omega)
  · have f_188 : 0 ≤ Int32.toInt (q.1 24 0) ∧ Int32.toInt (q.1 24 0) ≤ 1 := rg_24_0 hT
    refine dOk_B (ok_X4_wordIn_s24_t0 q hT (show ¬ Int32.toInt (q.1 24 0) = 0 by omega)) (fun r_189 q_190 h_191 => ?_)
    replace h_191 : (q_190 = q) ∧ (-1 ≤ Int32.toInt r_189 ∧ Int32.toInt r_189 ≤ 21) := h_191
    obtain ⟨i_192, i_193⟩ := h_191
    subst q_190
    refine dOk_eq (A := Int32.toInt r_189) (B := (-1)) rfl (by decide) (fun c_194z c_194 => ?_) (fun c_195z c_195 => ?_)
    · refine dOk_V (ok_X4_fail_s24 q hT) (fun q_197 h_198 => ?_)
      replace h_198 : (TC q_197) ∧ (cFr [] [(24, 10)] q q_197) := h_198
      obtain ⟨i_199, i_200⟩ := h_198
      have hFq_197 : cFr [26, 27, 28, 29, 30, 31] [(24, 4), (24, 5), (24, 6), (24, 7), (24, 8), (24, 9), (24, 10), (25, 6), (25, 7)] q q_197 := (cFr.rf (q := q)).t i_200 (by decide) (by decide)
      exact dOk_some (show (TC q_197) ∧ (cFr [26, 27, 28, 29, 30, 31] [(24, 4), (24, 5), (24, 6), (24, 7), (24, 8), (24, 9), (24, 10), (25, 6), (25, 7)] q q_197) from ⟨i_199, hFq_197⟩)
    · have f_201 : 0 ≤ Int32.toInt (q.1 24 3) ∧ Int32.toInt (q.1 24 3) ≤ 1 := rg_24_3 hT
      refine dOk_G (dnz_ok (show ¬ Int32.toInt (q.1 24 3) = 0 by omega)) ?_
      refine dOk_V (ok_X7_beginClause_s25 q r_189 hT) (fun q_202 h_203 => ?_)
      replace h_203 : (TC q_202) ∧ (cFr [26, 27, 28, 29, 30] [(25, 6)] q q_202) := h_203
      obtain ⟨i_204, i_205⟩ := h_203
      have hFq_202 : cFr [26, 27, 28, 29, 30, 31] [(24, 4), (24, 5), (24, 6), (24, 7), (24, 8), (24, 9), (24, 10), (25, 6), (25, 7)] q q_202 := (cFr.rf (q := q)).t i_205 (by decide) (by decide)
      have f_206 : 0 ≤ Int32.toInt (q_202.1 24 0) ∧ Int32.toInt (q_202.1 24 0) ≤ 1 := rg_24_0 i_204
      have w_207 : Int32.toInt (q_202.1 24 0) = Int32.toInt (q.1 24 0) := by rw [i_205.1 24 0 (by decide) (by decide)]
      refine dOk_V (ok_X4_step_s24 q_202 i_204 (show ¬ Int32.toInt (q_202.1 24 0) = 0 by omega)) (fun q_208 h_209 => ?_)
      replace h_209 : (TC q_208) ∧ (cFr [] [(24, 4), (24, 5), (24, 6), (24, 7)] q_202 q_208) := h_209
      obtain ⟨i_210, i_211⟩ := h_209
      have hFq_208 : cFr [26, 27, 28, 29, 30, 31] [(24, 4), (24, 5), (24, 6), (24, 7), (24, 8), (24, 9), (24, 10), (25, 6), (25, 7)] q q_208 := hFq_202.t i_211 (by decide) (by decide)
      have f_212 : 0 ≤ Int32.toInt (q_208.1 24 2) ∧ Int32.toInt (q_208.1 24 2) ≤ 1 := rg_24_2 i_210
      have f_213 : 0 ≤ Int32.toInt (q_202.1 24 2) ∧ Int32.toInt (q_202.1 24 2) ≤ 1 := rg_24_2 i_204
      have w_214 : Int32.toInt (q_202.1 24 2) = Int32.toInt (q.1 24 2) := by rw [i_205.1 24 2 (by decide) (by decide)]
      have w_215 : Int32.toInt (q_208.1 24 2) = Int32.toInt (q_202.1 24 2) := by rw [i_211.1 24 2 (by decide) (by decide)]
      refine dOk_eq (A := Int32.toInt (q_208.1 24 2)) (B := 0) rfl (by decide) (fun c_216z c_216 => ?_) (fun c_217z c_217 => ?_)
      · refine dOk_eq (A := Int32.toInt r_189) (B := 0) rfl (by decide) (fun c_219z c_219 => ?_) (fun c_220z c_220 => ?_)
        · have f_222 : 0 ≤ Int32.toInt (q_208.1 24 0) ∧ Int32.toInt (q_208.1 24 0) ≤ 1 := rg_24_0 i_210
          have w_223 : Int32.toInt (q_208.1 24 0) = Int32.toInt (q_202.1 24 0) := by rw [i_211.1 24 0 (by decide) (by decide)]
          have f_224 : 0 ≤ Int32.toInt (q_208.1 24 3) ∧ Int32.toInt (q_208.1 24 3) ≤ 1 := rg_24_3 i_210
          have f_225 : 0 ≤ Int32.toInt (q_202.1 24 3) ∧ Int32.toInt (q_202.1 24 3) ≤ 1 := rg_24_3 i_204
          have w_226 : Int32.toInt (q_202.1 24 3) = Int32.toInt (q.1 24 3) := by rw [i_205.1 24 3 (by decide) (by decide)]
          have w_227 : Int32.toInt (q_208.1 24 3) = Int32.toInt (q_202.1 24 3) := by rw [i_211.1 24 3 (by decide) (by decide)]
          exact hn_93 q_208 i_210 ((((cFr.rf : cFr [26, 27, 28, 29, 30, 31] [(24, 4), (24, 5), (24, 6), (24, 7), (24, 8), (24, 9), (24, 10), (25, 6), (25, 7)] q q).t i_205 (by decide) (by decide)) : cFr [26, 27, 28, 29, 30, 31] [(24, 4), (24, 5), (24, 6), (24, 7), (24, 8), (24, 9), (24, 10), (25, 6), (25, 7)] q q_202).t i_211 (by decide) (by decide)) (show ¬ Int32.toInt (q_208.1 24 0) = 0 by omega) (show ¬ Int32.toInt (q_208.1 24 3) = 0 by omega)
        · have f_228 : 0 ≤ Int32.toInt (q_208.1 24 0) ∧ Int32.toInt (q_208.1 24 0) ≤ 1 := rg_24_0 i_210
          have w_229 : Int32.toInt (q_208.1 24 0) = Int32.toInt (q_202.1 24 0) := by rw [i_211.1 24 0 (by decide) (by decide)]
          have f_230 : 0 ≤ Int32.toInt (q_208.1 24 3) ∧ Int32.toInt (q_208.1 24 3) ≤ 1 := rg_24_3 i_210
          have f_231 : 0 ≤ Int32.toInt (q_202.1 24 3) ∧ Int32.toInt (q_202.1 24 3) ≤ 1 := rg_24_3 i_204
          have w_232 : Int32.toInt (q_202.1 24 3) = Int32.toInt (q.1 24 3) := by rw [i_205.1 24 3 (by decide) (by decide)]
          have w_233 : Int32.toInt (q_208.1 24 3) = Int32.toInt (q_202.1 24 3) := by rw [i_211.1 24 3 (by decide) (by decide)]
          exact hn_48 q_208 i_210 ((((cFr.rf : cFr [26, 27, 28, 29, 30, 31] [(24, 4), (24, 5), (24, 6), (24, 7), (24, 8), (24, 9), (24, 10), (25, 6), (25, 7)] q q).t i_205 (by decide) (by decide)) : cFr [26, 27, 28, 29, 30, 31] [(24, 4), (24, 5), (24, 6), (24, 7), (24, 8), (24, 9), (24, 10), (25, 6), (25, 7)] q q_202).t i_211 (by decide) (by decide)) (show ¬ Int32.toInt (q_208.1 24 0) = 0 by omega) (show ¬ Int32.toInt (q_208.1 24 3) = 0 by omega)
      · refine dOk_eq (A := Int32.toInt r_189) (B := 3) rfl (by decide) (fun c_234z c_234 => ?_) (fun c_235z c_235 => ?_)
        · have f_237 : 0 ≤ Int32.toInt (q_208.1 24 0) ∧ Int32.toInt (q_208.1 24 0) ≤ 1 := rg_24_0 i_210
          have w_238 : Int32.toInt (q_208.1 24 0) = Int32.toInt (q_202.1 24 0) := by rw [i_211.1 24 0 (by decide) (by decide)]
          have f_239 : 0 ≤ Int32.toInt (q_208.1 24 3) ∧ Int32.toInt (q_208.1 24 3) ≤ 1 := rg_24_3 i_210
          have f_240 : 0 ≤ Int32.toInt (q_202.1 24 3) ∧ Int32.toInt (q_202.1 24 3) ≤ 1 := rg_24_3 i_204
          have w_241 : Int32.toInt (q_202.1 24 3) = Int32.toInt (q.1 24 3) := by rw [i_205.1 24 3 (by decide) (by decide)]
          have w_242 : Int32.toInt (q_208.1 24 3) = Int32.toInt (q_202.1 24 3) := by rw [i_211.1 24 3 (by decide) (by decide)]
          exact hn_48 q_208 i_210 ((((cFr.rf : cFr [26, 27, 28, 29, 30, 31] [(24, 4), (24, 5), (24, 6), (24, 7), (24, 8), (24, 9), (24, 10), (25, 6), (25, 7)] q q).t i_205 (by decide) (by decide)) : cFr [26, 27, 28, 29, 30, 31] [(24, 4), (24, 5), (24, 6), (24, 7), (24, 8), (24, 9), (24, 10), (25, 6), (25, 7)] q q_202).t i_211 (by decide) (by decide)) (show ¬ Int32.toInt (q_208.1 24 0) = 0 by omega) (show ¬ Int32.toInt (q_208.1 24 3) = 0 by omega)
        · have f_243 : 0 ≤ Int32.toInt (q_208.1 24 0) ∧ Int32.toInt (q_208.1 24 0) ≤ 1 := rg_24_0 i_210
          have w_244 : Int32.toInt (q_208.1 24 0) = Int32.toInt (q_202.1 24 0) := by rw [i_211.1 24 0 (by decide) (by decide)]
          have f_245 : 0 ≤ Int32.toInt (q_208.1 24 3) ∧ Int32.toInt (q_208.1 24 3) ≤ 1 := rg_24_3 i_210
          have f_246 : 0 ≤ Int32.toInt (q_202.1 24 3) ∧ Int32.toInt (q_202.1 24 3) ≤ 1 := rg_24_3 i_204
          have w_247 : Int32.toInt (q_202.1 24 3) = Int32.toInt (q.1 24 3) := by rw [i_205.1 24 3 (by decide) (by decide)]
          have w_248 : Int32.toInt (q_208.1 24 3) = Int32.toInt (q_202.1 24 3) := by rw [i_211.1 24 3 (by decide) (by decide)]
          exact hn_93 q_208 i_210 ((((cFr.rf : cFr [26, 27, 28, 29, 30, 31] [(24, 4), (24, 5), (24, 6), (24, 7), (24, 8), (24, 9), (24, 10), (25, 6), (25, 7)] q q).t i_205 (by decide) (by decide)) : cFr [26, 27, 28, 29, 30, 31] [(24, 4), (24, 5), (24, 6), (24, 7), (24, 8), (24, 9), (24, 10), (25, 6), (25, 7)] q q_202).t i_211 (by decide) (by decide)) (show ¬ Int32.toInt (q_208.1 24 0) = 0 by omega) (show ¬ Int32.toInt (q_208.1 24 3) = 0 by omega)
end
section
set_option maxHeartbeats 4000000 in
set_option maxRecDepth 100000 in
theorem ok_X4_read_s24_s46_s25 (q : dK) (p2 : Int32) (p3 : Int32) (hT : TC q) (hp0 : 0 ≤ Int32.toInt p2) (hp1 : Int32.toInt p3 = 0 ∨ Int32.toInt p3 = 1) : dOk (zX4_read_s24_s46_s25 q p2 p3) (fun (o : Int32 × dK) => (TC o.2) ∧ (cFr [26, 27, 28, 29, 30, 31] [(24, 0), (24, 1), (24, 2), (24, 3), (24, 4), (24, 5), (24, 6), (24, 7), (24, 8), (24, 9), (24, 10), (25, 6), (25, 7)] q o.2)) := by
  unfold zX4_read_s24_s46_s25
  refine dOk_L (fun q_1 eq_1 => ?_)
  have hTq_1 : TC q_1 := by rw [eq_1]; exact st_24_0 hT (show (0 : Int) ≤ (1 : Int) by omega) (show (1 : Int) ≤ (1 : Int) by omega)
  have hFq_1 : cFr [26, 27, 28, 29, 30, 31] [(24, 0), (24, 1), (24, 2), (24, 3), (24, 4), (24, 5), (24, 6), (24, 7), (24, 8), (24, 9), (24, 10), (25, 6), (25, 7)] q q_1 := by rw [eq_1]; exact (cFr.rf (q := q)).f (by decide)
  refine dOk_L (fun q_2 eq_2 => ?_)
  have t_3 : Int32.toInt (mnI p2 400) ≤ Int32.toInt p2 ∧ Int32.toInt (mnI p2 400) ≤ 400 ∧ (Int32.toInt (mnI p2 400) = Int32.toInt p2 ∨ Int32.toInt (mnI p2 400) = 400) := mn_le
  have hTq_2 : TC q_2 := by rw [eq_2]; exact st_24_1 hTq_1 (show (0 : Int) ≤ Int32.toInt (mnI p2 400) by omega) (show Int32.toInt (mnI p2 400) ≤ (400 : Int) by omega)
  have hFq_2 : cFr [26, 27, 28, 29, 30, 31] [(24, 0), (24, 1), (24, 2), (24, 3), (24, 4), (24, 5), (24, 6), (24, 7), (24, 8), (24, 9), (24, 10), (25, 6), (25, 7)] q q_2 := by rw [eq_2]; exact hFq_1.f (by decide)
  refine dOk_G (dbl_ok (show Int32.toInt p3 = 0 ∨ Int32.toInt p3 = 1 by omega)) ?_
  refine dOk_L (fun q_4 eq_4 => ?_)
  have hTq_4 : TC q_4 := by rw [eq_4]; exact st_24_2 hTq_2 (show (0 : Int) ≤ Int32.toInt p3 by omega) (show Int32.toInt p3 ≤ (1 : Int) by omega)
  have hFq_4 : cFr [26, 27, 28, 29, 30, 31] [(24, 0), (24, 1), (24, 2), (24, 3), (24, 4), (24, 5), (24, 6), (24, 7), (24, 8), (24, 9), (24, 10), (25, 6), (25, 7)] q q_4 := by rw [eq_4]; exact hFq_2.f (by decide)
  refine dOk_L (fun q_5 eq_5 => ?_)
  have hTq_5 : TC q_5 := by rw [eq_5]; exact st_24_3 hTq_4 (show (0 : Int) ≤ (1 : Int) by omega) (show (1 : Int) ≤ (1 : Int) by omega)
  have hFq_5 : cFr [26, 27, 28, 29, 30, 31] [(24, 0), (24, 1), (24, 2), (24, 3), (24, 4), (24, 5), (24, 6), (24, 7), (24, 8), (24, 9), (24, 10), (25, 6), (25, 7)] q q_5 := by rw [eq_5]; exact hFq_4.f (by decide)
  have f_6 : 0 ≤ Int32.toInt (q_5.1 24 3) ∧ Int32.toInt (q_5.1 24 3) ≤ 1 := rg_24_3 hTq_5
  have w_7 : Int32.toInt (q_5.1 24 3) = (1 : Int) := by rw [eq_5, cui_e]; decide
  refine dOk_G (dnz_ok (show ¬ Int32.toInt (q_5.1 24 3) = 0 by omega)) ?_
  refine dOk_V (ok_X7_clear_s25 q_5 hTq_5) (fun q_8 h_9 => ?_)
  replace h_9 : (TC q_8) ∧ (cFr [] [(25, 6), (25, 7)] q_5 q_8) := h_9
  obtain ⟨i_10, i_11⟩ := h_9
  have hFq_8 : cFr [26, 27, 28, 29, 30, 31] [(24, 0), (24, 1), (24, 2), (24, 3), (24, 4), (24, 5), (24, 6), (24, 7), (24, 8), (24, 9), (24, 10), (25, 6), (25, 7)] q q_8 := hFq_5.t i_11 (by decide) (by decide)
  refine dOk_L (fun q_12 eq_12 => ?_)
  have hTq_12 : TC q_12 := by rw [eq_12]; exact st_24_6 i_10 (show (0 : Int) ≤ (0 : Int) by omega) (show (0 : Int) ≤ (400 : Int) by omega)
  have hFq_12 : cFr [26, 27, 28, 29, 30, 31] [(24, 0), (24, 1), (24, 2), (24, 3), (24, 4), (24, 5), (24, 6), (24, 7), (24, 8), (24, 9), (24, 10), (25, 6), (25, 7)] q q_12 := by rw [eq_12]; exact hFq_8.f (by decide)
  refine dOk_L (fun q_13 eq_13 => ?_)
  have hTq_13 : TC q_13 := by rw [eq_13]; exact st_24_8 hTq_12 (show (0 : Int) ≤ (0 : Int) by omega) (show (0 : Int) ≤ (50 : Int) by omega)
  have hFq_13 : cFr [26, 27, 28, 29, 30, 31] [(24, 0), (24, 1), (24, 2), (24, 3), (24, 4), (24, 5), (24, 6), (24, 7), (24, 8), (24, 9), (24, 10), (25, 6), (25, 7)] q q_13 := by rw [eq_13]; exact hFq_12.f (by decide)
  refine dOk_L (fun q_14 eq_14 => ?_)
  have hTq_14 : TC q_14 := by rw [eq_14]; exact st_24_9 hTq_13 (show (0 : Int) ≤ (0 : Int) by omega) (show (0 : Int) ≤ (8 : Int) by omega)
  have hFq_14 : cFr [26, 27, 28, 29, 30, 31] [(24, 0), (24, 1), (24, 2), (24, 3), (24, 4), (24, 5), (24, 6), (24, 7), (24, 8), (24, 9), (24, 10), (25, 6), (25, 7)] q q_14 := by rw [eq_14]; exact hFq_13.f (by decide)
  refine dOk_L (fun q_15 eq_15 => ?_)
  have hTq_15 : TC q_15 := by rw [eq_15]; exact sa_24_10 hTq_14
  have hFq_15 : cFr [26, 27, 28, 29, 30, 31] [(24, 0), (24, 1), (24, 2), (24, 3), (24, 4), (24, 5), (24, 6), (24, 7), (24, 8), (24, 9), (24, 10), (25, 6), (25, 7)] q q_15 := by rw [eq_15]; exact hFq_14.f (by decide)
  have f_16 : 0 ≤ Int32.toInt (q_15.1 24 0) ∧ Int32.toInt (q_15.1 24 0) ≤ 1 := rg_24_0 hTq_15
  have f_17 : 0 ≤ Int32.toInt (q_14.1 24 0) ∧ Int32.toInt (q_14.1 24 0) ≤ 1 := rg_24_0 hTq_14
  have f_18 : 0 ≤ Int32.toInt (q_13.1 24 0) ∧ Int32.toInt (q_13.1 24 0) ≤ 1 := rg_24_0 hTq_13
  have f_19 : 0 ≤ Int32.toInt (q_12.1 24 0) ∧ Int32.toInt (q_12.1 24 0) ≤ 1 := rg_24_0 hTq_12
  have f_20 : 0 ≤ Int32.toInt (q_8.1 24 0) ∧ Int32.toInt (q_8.1 24 0) ≤ 1 := rg_24_0 i_10
  have f_21 : 0 ≤ Int32.toInt (q_5.1 24 0) ∧ Int32.toInt (q_5.1 24 0) ≤ 1 := rg_24_0 hTq_5
  have f_22 : 0 ≤ Int32.toInt (q_4.1 24 0) ∧ Int32.toInt (q_4.1 24 0) ≤ 1 := rg_24_0 hTq_4
  have f_23 : 0 ≤ Int32.toInt (q_2.1 24 0) ∧ Int32.toInt (q_2.1 24 0) ≤ 1 := rg_24_0 hTq_2
  have f_24 : 0 ≤ Int32.toInt (q_1.1 24 0) ∧ Int32.toInt (q_1.1 24 0) ≤ 1 := rg_24_0 hTq_1
  have w_25 : Int32.toInt (q_1.1 24 0) = (1 : Int) := by rw [eq_1, cui_e]; decide
  have w_26 : Int32.toInt (q_2.1 24 0) = Int32.toInt (q_1.1 24 0) := by rw [eq_2, cui_n (by decide)]
  have w_27 : Int32.toInt (q_4.1 24 0) = Int32.toInt (q_2.1 24 0) := by rw [eq_4, cui_n (by decide)]
  have w_28 : Int32.toInt (q_5.1 24 0) = Int32.toInt (q_4.1 24 0) := by rw [eq_5, cui_n (by decide)]
  have w_29 : Int32.toInt (q_8.1 24 0) = Int32.toInt (q_5.1 24 0) := by rw [i_11.1 24 0 (by decide) (by decide)]
  have w_30 : Int32.toInt (q_12.1 24 0) = Int32.toInt (q_8.1 24 0) := by rw [eq_12, cui_n (by decide)]
  have w_31 : Int32.toInt (q_13.1 24 0) = Int32.toInt (q_12.1 24 0) := by rw [eq_13, cui_n (by decide)]
  have w_32 : Int32.toInt (q_14.1 24 0) = Int32.toInt (q_13.1 24 0) := by rw [eq_14, cui_n (by decide)]
  have w_33 : Int32.toInt (q_15.1 24 0) = Int32.toInt (q_14.1 24 0) := by rw [eq_15, cui_n (by decide)]
  refine dOk_V (ok_X4_step_s24 q_15 hTq_15 (show ¬ Int32.toInt (q_15.1 24 0) = 0 by omega)) (fun q_34 h_35 => ?_)
  replace h_35 : (TC q_34) ∧ (cFr [] [(24, 4), (24, 5), (24, 6), (24, 7)] q_15 q_34) := h_35
  obtain ⟨i_36, i_37⟩ := h_35
  have hFq_34 : cFr [26, 27, 28, 29, 30, 31] [(24, 0), (24, 1), (24, 2), (24, 3), (24, 4), (24, 5), (24, 6), (24, 7), (24, 8), (24, 9), (24, 10), (25, 6), (25, 7)] q q_34 := hFq_15.t i_37 (by decide) (by decide)
  unfold zX4_read_s24_s46_s25_60
  refine dFix_ok (fun (a : dK × Int32) => (TC a.1) ∧ (cFr [26, 27, 28, 29, 30, 31] [(24, 4), (24, 5), (24, 6), (24, 7), (24, 8), (24, 9), (24, 10), (25, 6), (25, 7)] q_34 a.1) ∧ (0 ≤ Int32.toInt a.2) ∧ (Int32.toInt a.2 ≤ 13) ∧ (¬ Int32.toInt (a.1.1 24 0) = 0) ∧ (¬ Int32.toInt (a.1.1 24 3) = 0)) (fun (a : dK × Int32) => (13 - Int32.toInt a.2).toNat) ?_ _ ?_ _ (dF_gt ?_)
  · intro a ha k_39 hk_38
    obtain ⟨q_40, x5_41⟩ := a
    replace ha : (TC q_40) ∧ (cFr [26, 27, 28, 29, 30, 31] [(24, 4), (24, 5), (24, 6), (24, 7), (24, 8), (24, 9), (24, 10), (25, 6), (25, 7)] q_34 q_40) ∧ (0 ≤ Int32.toInt x5_41) ∧ (Int32.toInt x5_41 ≤ 13) ∧ (¬ Int32.toInt (q_40.1 24 0) = 0) ∧ (¬ Int32.toInt (q_40.1 24 3) = 0) := ha
    obtain ⟨a_42, a_43, a_44, a_45, a_46, a_47⟩ := ha
    show dOk (zX4_read_s24_s46_s25_60b  (fun q x5 => k_39 (q, x5)) q_40 x5_41) _
    unfold zX4_read_s24_s46_s25_60b
    have hFq_40 : cFr [26, 27, 28, 29, 30, 31] [(24, 0), (24, 1), (24, 2), (24, 3), (24, 4), (24, 5), (24, 6), (24, 7), (24, 8), (24, 9), (24, 10), (25, 6), (25, 7)] q q_40 := hFq_34.t a_43 (by decide) (by decide)
    have f_48 : 0 ≤ Int32.toInt (q_40.1 24 0) ∧ Int32.toInt (q_40.1 24 0) ≤ 1 := rg_24_0 a_42
    have f_49 : 0 ≤ Int32.toInt (q_34.1 24 0) ∧ Int32.toInt (q_34.1 24 0) ≤ 1 := rg_24_0 i_36
    have w_50 : Int32.toInt (q_34.1 24 0) = Int32.toInt (q_15.1 24 0) := by rw [i_37.1 24 0 (by decide) (by decide)]
    have w_51 : Int32.toInt (q_40.1 24 0) = Int32.toInt (q_34.1 24 0) := by rw [a_43.1 24 0 (by decide) (by decide)]
    have f_52 : 0 ≤ Int32.toInt (q_40.1 24 3) ∧ Int32.toInt (q_40.1 24 3) ≤ 1 := rg_24_3 a_42
    have f_53 : 0 ≤ Int32.toInt (q_34.1 24 3) ∧ Int32.toInt (q_34.1 24 3) ≤ 1 := rg_24_3 i_36
    have f_54 : 0 ≤ Int32.toInt (q_15.1 24 3) ∧ Int32.toInt (q_15.1 24 3) ≤ 1 := rg_24_3 hTq_15
    have f_55 : 0 ≤ Int32.toInt (q_14.1 24 3) ∧ Int32.toInt (q_14.1 24 3) ≤ 1 := rg_24_3 hTq_14
    have f_56 : 0 ≤ Int32.toInt (q_13.1 24 3) ∧ Int32.toInt (q_13.1 24 3) ≤ 1 := rg_24_3 hTq_13
    have f_57 : 0 ≤ Int32.toInt (q_12.1 24 3) ∧ Int32.toInt (q_12.1 24 3) ≤ 1 := rg_24_3 hTq_12
    have f_58 : 0 ≤ Int32.toInt (q_8.1 24 3) ∧ Int32.toInt (q_8.1 24 3) ≤ 1 := rg_24_3 i_10
    have w_59 : Int32.toInt (q_8.1 24 3) = Int32.toInt (q_5.1 24 3) := by rw [i_11.1 24 3 (by decide) (by decide)]
    have w_60 : Int32.toInt (q_12.1 24 3) = Int32.toInt (q_8.1 24 3) := by rw [eq_12, cui_n (by decide)]
    have w_61 : Int32.toInt (q_13.1 24 3) = Int32.toInt (q_12.1 24 3) := by rw [eq_13, cui_n (by decide)]
    have w_62 : Int32.toInt (q_14.1 24 3) = Int32.toInt (q_13.1 24 3) := by rw [eq_14, cui_n (by decide)]
    have w_63 : Int32.toInt (q_15.1 24 3) = Int32.toInt (q_14.1 24 3) := by rw [eq_15, cui_n (by decide)]
    have w_64 : Int32.toInt (q_34.1 24 3) = Int32.toInt (q_15.1 24 3) := by rw [i_37.1 24 3 (by decide) (by decide)]
    have w_65 : Int32.toInt (q_40.1 24 3) = Int32.toInt (q_34.1 24 3) := by rw [a_43.1 24 3 (by decide) (by decide)]
    refine dOk_lt (A := 12) (B := Int32.toInt x5_41) (by decide) rfl (fun c_66 => ?_) (fun c_67 => ?_)
    · unfold zX4_read_s24_s46_s25_122
      exact dOk_some (show (TC q_40) ∧ (cFr [26, 27, 28, 29, 30, 31] [(24, 0), (24, 1), (24, 2), (24, 3), (24, 4), (24, 5), (24, 6), (24, 7), (24, 8), (24, 9), (24, 10), (25, 6), (25, 7)] q q_40) from ⟨a_42, hFq_40⟩)
    · refine dOk_eq (A := Int32.toInt (q_40.1 24 10)) (B := (-1)) rfl (by decide) (fun c_68z c_68 => ?_) (fun c_69z c_69 => ?_)
      · refine dOk_eq (A := Int32.toInt x5_41) (B := 12) rfl (by decide) (fun c_71z c_71 => ?_) (fun c_72z c_72 => ?_)
        · refine dOk_V (ok_X4_fail_s24 q_40 a_42) (fun q_74 h_75 => ?_)
          replace h_75 : (TC q_74) ∧ (cFr [] [(24, 10)] q_40 q_74) := h_75
          obtain ⟨i_76, i_77⟩ := h_75
          have hFq_74 : cFr [26, 27, 28, 29, 30, 31] [(24, 0), (24, 1), (24, 2), (24, 3), (24, 4), (24, 5), (24, 6), (24, 7), (24, 8), (24, 9), (24, 10), (25, 6), (25, 7)] q q_74 := hFq_40.t i_77 (by decide) (by decide)
          unfold zX4_read_s24_s46_s25_93
          refine dOk_eq (A := Int32.toInt (q_74.1 24 10)) (B := (-1)) rfl (by decide) (fun c_78z c_78 => ?_) (fun c_79z c_79 => ?_)
          · have w_81 : Int32.toInt (q_74.1 24 4) = Int32.toInt (q_40.1 24 4) := by rw [i_77.1 24 4 (by decide) (by decide)]
            refine dOk_eq (A := Int32.toInt (q_74.1 24 4)) (B := 0) rfl (by decide) (fun c_82z c_82 => ?_) (fun c_83z c_83 => ?_)
            · exact dOk_some (show (TC q_74) ∧ (cFr [26, 27, 28, 29, 30, 31] [(24, 0), (24, 1), (24, 2), (24, 3), (24, 4), (24, 5), (24, 6), (24, 7), (24, 8), (24, 9), (24, 10), (25, 6), (25, 7)] q q_74) from ⟨i_76, hFq_74⟩)
            · unfold zX4_read_s24_s46_s25_110
              have f_85 : 0 ≤ Int32.toInt (q_74.1 24 0) ∧ Int32.toInt (q_74.1 24 0) ≤ 1 := rg_24_0 i_76
              have w_86 : Int32.toInt (q_74.1 24 0) = Int32.toInt (q_40.1 24 0) := by rw [i_77.1 24 0 (by decide) (by decide)]
              refine dOk_V (ok_X4_expectSign_s24 q_74 59 i_76 (show ¬ Int32.toInt (q_74.1 24 0) = 0 by omega)) (fun q_87 h_88 => ?_)
              replace h_88 : (TC q_87) ∧ (cFr [] [(24, 4), (24, 5), (24, 6), (24, 7), (24, 10)] q_74 q_87) := h_88
              obtain ⟨i_89, i_90⟩ := h_88
              have hFq_87 : cFr [26, 27, 28, 29, 30, 31] [(24, 0), (24, 1), (24, 2), (24, 3), (24, 4), (24, 5), (24, 6), (24, 7), (24, 8), (24, 9), (24, 10), (25, 6), (25, 7)] q q_87 := hFq_74.t i_90 (by decide) (by decide)
              try have t_91 : Int32.toInt (x5_41 + 1) = Int32.toInt x5_41 + 1 := ti_add rfl (by decide) (by omega) (by omega)
              have f_92 : 0 ≤ Int32.toInt (q_87.1 24 0) ∧ Int32.toInt (q_87.1 24 0) ≤ 1 := rg_24_0 i_89
              have w_93 : Int32.toInt (q_87.1 24 0) = Int32.toInt (q_74.1 24 0) := by rw [i_90.1 24 0 (by decide) (by decide)]
              have f_94 : 0 ≤ Int32.toInt (q_87.1 24 3) ∧ Int32.toInt (q_87.1 24 3) ≤ 1 := rg_24_3 i_89
              have f_95 : 0 ≤ Int32.toInt (q_74.1 24 3) ∧ Int32.toInt (q_74.1 24 3) ≤ 1 := rg_24_3 i_76
              have w_96 : Int32.toInt (q_74.1 24 3) = Int32.toInt (q_40.1 24 3) := by rw [i_77.1 24 3 (by decide) (by decide)]
              have w_97 : Int32.toInt (q_87.1 24 3) = Int32.toInt (q_74.1 24 3) := by rw [i_90.1 24 3 (by decide) (by decide)]
              exact hk_38 (q_87, (x5_41 + 1)) (show (TC q_87) ∧ (cFr [26, 27, 28, 29, 30, 31] [(24, 4), (24, 5), (24, 6), (24, 7), (24, 8), (24, 9), (24, 10), (25, 6), (25, 7)] q_34 q_87) ∧ (0 ≤ Int32.toInt (x5_41 + 1)) ∧ (Int32.toInt (x5_41 + 1) ≤ 13) ∧ (¬ Int32.toInt (q_87.1 24 0) = 0) ∧ (¬ Int32.toInt (q_87.1 24 3) = 0) from ⟨i_89, ((((((cFr.rf : cFr [26, 27, 28, 29, 30, 31] [(24, 4), (24, 5), (24, 6), (24, 7), (24, 8), (24, 9), (24, 10), (25, 6), (25, 7)] q_34 q_34).t a_43 (by decide) (by decide)) : cFr [26, 27, 28, 29, 30, 31] [(24, 4), (24, 5), (24, 6), (24, 7), (24, 8), (24, 9), (24, 10), (25, 6), (25, 7)] q_34 q_40).t i_77 (by decide) (by decide)) : cFr [26, 27, 28, 29, 30, 31] [(24, 4), (24, 5), (24, 6), (24, 7), (24, 8), (24, 9), (24, 10), (25, 6), (25, 7)] q_34 q_74).t i_90 (by decide) (by decide)), by omega, by omega, by omega, by omega⟩) (show (13 - Int32.toInt (x5_41 + 1)).toNat < (13 - Int32.toInt x5_41).toNat by omega)
          · unfold zX4_read_s24_s46_s25_110
            have f_98 : 0 ≤ Int32.toInt (q_74.1 24 0) ∧ Int32.toInt (q_74.1 24 0) ≤ 1 := rg_24_0 i_76
            have w_99 : Int32.toInt (q_74.1 24 0) = Int32.toInt (q_40.1 24 0) := by rw [i_77.1 24 0 (by decide) (by decide)]
            refine dOk_V (ok_X4_expectSign_s24 q_74 59 i_76 (show ¬ Int32.toInt (q_74.1 24 0) = 0 by omega)) (fun q_100 h_101 => ?_)
            replace h_101 : (TC q_100) ∧ (cFr [] [(24, 4), (24, 5), (24, 6), (24, 7), (24, 10)] q_74 q_100) := h_101
            obtain ⟨i_102, i_103⟩ := h_101
            have hFq_100 : cFr [26, 27, 28, 29, 30, 31] [(24, 0), (24, 1), (24, 2), (24, 3), (24, 4), (24, 5), (24, 6), (24, 7), (24, 8), (24, 9), (24, 10), (25, 6), (25, 7)] q q_100 := hFq_74.t i_103 (by decide) (by decide)
            try have t_104 : Int32.toInt (x5_41 + 1) = Int32.toInt x5_41 + 1 := ti_add rfl (by decide) (by omega) (by omega)
            have f_105 : 0 ≤ Int32.toInt (q_100.1 24 0) ∧ Int32.toInt (q_100.1 24 0) ≤ 1 := rg_24_0 i_102
            have w_106 : Int32.toInt (q_100.1 24 0) = Int32.toInt (q_74.1 24 0) := by rw [i_103.1 24 0 (by decide) (by decide)]
            have f_107 : 0 ≤ Int32.toInt (q_100.1 24 3) ∧ Int32.toInt (q_100.1 24 3) ≤ 1 := rg_24_3 i_102
            have f_108 : 0 ≤ Int32.toInt (q_74.1 24 3) ∧ Int32.toInt (q_74.1 24 3) ≤ 1 := rg_24_3 i_76
            have w_109 : Int32.toInt (q_74.1 24 3) = Int32.toInt (q_40.1 24 3) := by rw [i_77.1 24 3 (by decide) (by decide)]
            have w_110 : Int32.toInt (q_100.1 24 3) = Int32.toInt (q_74.1 24 3) := by rw [i_103.1 24 3 (by decide) (by decide)]
            exact hk_38 (q_100, (x5_41 + 1)) (show (TC q_100) ∧ (cFr [26, 27, 28, 29, 30, 31] [(24, 4), (24, 5), (24, 6), (24, 7), (24, 8), (24, 9), (24, 10), (25, 6), (25, 7)] q_34 q_100) ∧ (0 ≤ Int32.toInt (x5_41 + 1)) ∧ (Int32.toInt (x5_41 + 1) ≤ 13) ∧ (¬ Int32.toInt (q_100.1 24 0) = 0) ∧ (¬ Int32.toInt (q_100.1 24 3) = 0) from ⟨i_102, ((((((cFr.rf : cFr [26, 27, 28, 29, 30, 31] [(24, 4), (24, 5), (24, 6), (24, 7), (24, 8), (24, 9), (24, 10), (25, 6), (25, 7)] q_34 q_34).t a_43 (by decide) (by decide)) : cFr [26, 27, 28, 29, 30, 31] [(24, 4), (24, 5), (24, 6), (24, 7), (24, 8), (24, 9), (24, 10), (25, 6), (25, 7)] q_34 q_40).t i_77 (by decide) (by decide)) : cFr [26, 27, 28, 29, 30, 31] [(24, 4), (24, 5), (24, 6), (24, 7), (24, 8), (24, 9), (24, 10), (25, 6), (25, 7)] q_34 q_74).t i_103 (by decide) (by decide)), by omega, by omega, by omega, by omega⟩) (show (13 - Int32.toInt (x5_41 + 1)).toNat < (13 - Int32.toInt x5_41).toNat by omega)
        · refine dOk_V (ok_X4_readClause_s24 q_40 a_42 (show ¬ Int32.toInt (q_40.1 24 0) = 0 by omega) (show ¬ Int32.toInt (q_40.1 24 3) = 0 by omega)) (fun q_111 h_112 => ?_)
          replace h_112 : (TC q_111) ∧ (cFr [26, 27, 28, 29, 30, 31] [(24, 4), (24, 5), (24, 6), (24, 7), (24, 8), (24, 9), (24, 10), (25, 6), (25, 7)] q_40 q_111) := h_112
          obtain ⟨i_113, i_114⟩ := h_112
          have hFq_111 : cFr [26, 27, 28, 29, 30, 31] [(24, 0), (24, 1), (24, 2), (24, 3), (24, 4), (24, 5), (24, 6), (24, 7), (24, 8), (24, 9), (24, 10), (25, 6), (25, 7)] q q_111 := hFq_40.t i_114 (by decide) (by decide)
          unfold zX4_read_s24_s46_s25_93
          refine dOk_eq (A := Int32.toInt (q_111.1 24 10)) (B := (-1)) rfl (by decide) (fun c_115z c_115 => ?_) (fun c_116z c_116 => ?_)
          · refine dOk_eq (A := Int32.toInt (q_111.1 24 4)) (B := 0) rfl (by decide) (fun c_118z c_118 => ?_) (fun c_119z c_119 => ?_)
            · exact dOk_some (show (TC q_111) ∧ (cFr [26, 27, 28, 29, 30, 31] [(24, 0), (24, 1), (24, 2), (24, 3), (24, 4), (24, 5), (24, 6), (24, 7), (24, 8), (24, 9), (24, 10), (25, 6), (25, 7)] q q_111) from ⟨i_113, hFq_111⟩)
            · unfold zX4_read_s24_s46_s25_110
              have f_121 : 0 ≤ Int32.toInt (q_111.1 24 0) ∧ Int32.toInt (q_111.1 24 0) ≤ 1 := rg_24_0 i_113
              have w_122 : Int32.toInt (q_111.1 24 0) = Int32.toInt (q_40.1 24 0) := by rw [i_114.1 24 0 (by decide) (by decide)]
              refine dOk_V (ok_X4_expectSign_s24 q_111 59 i_113 (show ¬ Int32.toInt (q_111.1 24 0) = 0 by omega)) (fun q_123 h_124 => ?_)
              replace h_124 : (TC q_123) ∧ (cFr [] [(24, 4), (24, 5), (24, 6), (24, 7), (24, 10)] q_111 q_123) := h_124
              obtain ⟨i_125, i_126⟩ := h_124
              have hFq_123 : cFr [26, 27, 28, 29, 30, 31] [(24, 0), (24, 1), (24, 2), (24, 3), (24, 4), (24, 5), (24, 6), (24, 7), (24, 8), (24, 9), (24, 10), (25, 6), (25, 7)] q q_123 := hFq_111.t i_126 (by decide) (by decide)
              try have t_127 : Int32.toInt (x5_41 + 1) = Int32.toInt x5_41 + 1 := ti_add rfl (by decide) (by omega) (by omega)
              have f_128 : 0 ≤ Int32.toInt (q_123.1 24 0) ∧ Int32.toInt (q_123.1 24 0) ≤ 1 := rg_24_0 i_125
              have w_129 : Int32.toInt (q_123.1 24 0) = Int32.toInt (q_111.1 24 0) := by rw [i_126.1 24 0 (by decide) (by decide)]
              have f_130 : 0 ≤ Int32.toInt (q_123.1 24 3) ∧ Int32.toInt (q_123.1 24 3) ≤ 1 := rg_24_3 i_125
              have f_131 : 0 ≤ Int32.toInt (q_111.1 24 3) ∧ Int32.toInt (q_111.1 24 3) ≤ 1 := rg_24_3 i_113
              have w_132 : Int32.toInt (q_111.1 24 3) = Int32.toInt (q_40.1 24 3) := by rw [i_114.1 24 3 (by decide) (by decide)]
              have w_133 : Int32.toInt (q_123.1 24 3) = Int32.toInt (q_111.1 24 3) := by rw [i_126.1 24 3 (by decide) (by decide)]
              exact hk_38 (q_123, (x5_41 + 1)) (show (TC q_123) ∧ (cFr [26, 27, 28, 29, 30, 31] [(24, 4), (24, 5), (24, 6), (24, 7), (24, 8), (24, 9), (24, 10), (25, 6), (25, 7)] q_34 q_123) ∧ (0 ≤ Int32.toInt (x5_41 + 1)) ∧ (Int32.toInt (x5_41 + 1) ≤ 13) ∧ (¬ Int32.toInt (q_123.1 24 0) = 0) ∧ (¬ Int32.toInt (q_123.1 24 3) = 0) from ⟨i_125, ((((((cFr.rf : cFr [26, 27, 28, 29, 30, 31] [(24, 4), (24, 5), (24, 6), (24, 7), (24, 8), (24, 9), (24, 10), (25, 6), (25, 7)] q_34 q_34).t a_43 (by decide) (by decide)) : cFr [26, 27, 28, 29, 30, 31] [(24, 4), (24, 5), (24, 6), (24, 7), (24, 8), (24, 9), (24, 10), (25, 6), (25, 7)] q_34 q_40).t i_114 (by decide) (by decide)) : cFr [26, 27, 28, 29, 30, 31] [(24, 4), (24, 5), (24, 6), (24, 7), (24, 8), (24, 9), (24, 10), (25, 6), (25, 7)] q_34 q_111).t i_126 (by decide) (by decide)), by omega, by omega, by omega, by omega⟩) (show (13 - Int32.toInt (x5_41 + 1)).toNat < (13 - Int32.toInt x5_41).toNat by omega)
          · unfold zX4_read_s24_s46_s25_110
            have f_134 : 0 ≤ Int32.toInt (q_111.1 24 0) ∧ Int32.toInt (q_111.1 24 0) ≤ 1 := rg_24_0 i_113
            have w_135 : Int32.toInt (q_111.1 24 0) = Int32.toInt (q_40.1 24 0) := by rw [i_114.1 24 0 (by decide) (by decide)]
            refine dOk_V (ok_X4_expectSign_s24 q_111 59 i_113 (show ¬ Int32.toInt (q_111.1 24 0) = 0 by omega)) (fun q_136 h_137 => ?_)
            replace h_137 : (TC q_136) ∧ (cFr [] [(24, 4), (24, 5), (24, 6), (24, 7), (24, 10)] q_111 q_136) := h_137
            obtain ⟨i_138, i_139⟩ := h_137
            have hFq_136 : cFr [26, 27, 28, 29, 30, 31] [(24, 0), (24, 1), (24, 2), (24, 3), (24, 4), (24, 5), (24, 6), (24, 7), (24, 8), (24, 9), (24, 10), (25, 6), (25, 7)] q q_136 := hFq_111.t i_139 (by decide) (by decide)
            try have t_140 : Int32.toInt (x5_41 + 1) = Int32.toInt x5_41 + 1 := ti_add rfl (by decide) (by omega) (by omega)
            have f_141 : 0 ≤ Int32.toInt (q_136.1 24 0) ∧ Int32.toInt (q_136.1 24 0) ≤ 1 := rg_24_0 i_138
            have w_142 : Int32.toInt (q_136.1 24 0) = Int32.toInt (q_111.1 24 0) := by rw [i_139.1 24 0 (by decide) (by decide)]
            have f_143 : 0 ≤ Int32.toInt (q_136.1 24 3) ∧ Int32.toInt (q_136.1 24 3) ≤ 1 := rg_24_3 i_138
            have f_144 : 0 ≤ Int32.toInt (q_111.1 24 3) ∧ Int32.toInt (q_111.1 24 3) ≤ 1 := rg_24_3 i_113
            have w_145 : Int32.toInt (q_111.1 24 3) = Int32.toInt (q_40.1 24 3) := by rw [i_114.1 24 3 (by decide) (by decide)]
            have w_146 : Int32.toInt (q_136.1 24 3) = Int32.toInt (q_111.1 24 3) := by rw [i_139.1 24 3 (by decide) (by decide)]
            exact hk_38 (q_136, (x5_41 + 1)) (show (TC q_136) ∧ (cFr [26, 27, 28, 29, 30, 31] [(24, 4), (24, 5), (24, 6), (24, 7), (24, 8), (24, 9), (24, 10), (25, 6), (25, 7)] q_34 q_136) ∧ (0 ≤ Int32.toInt (x5_41 + 1)) ∧ (Int32.toInt (x5_41 + 1) ≤ 13) ∧ (¬ Int32.toInt (q_136.1 24 0) = 0) ∧ (¬ Int32.toInt (q_136.1 24 3) = 0) from ⟨i_138, ((((((cFr.rf : cFr [26, 27, 28, 29, 30, 31] [(24, 4), (24, 5), (24, 6), (24, 7), (24, 8), (24, 9), (24, 10), (25, 6), (25, 7)] q_34 q_34).t a_43 (by decide) (by decide)) : cFr [26, 27, 28, 29, 30, 31] [(24, 4), (24, 5), (24, 6), (24, 7), (24, 8), (24, 9), (24, 10), (25, 6), (25, 7)] q_34 q_40).t i_114 (by decide) (by decide)) : cFr [26, 27, 28, 29, 30, 31] [(24, 4), (24, 5), (24, 6), (24, 7), (24, 8), (24, 9), (24, 10), (25, 6), (25, 7)] q_34 q_111).t i_139 (by decide) (by decide)), by omega, by omega, by omega, by omega⟩) (show (13 - Int32.toInt (x5_41 + 1)).toNat < (13 - Int32.toInt x5_41).toNat by omega)
      · unfold zX4_read_s24_s46_s25_122
        exact dOk_some (show (TC q_40) ∧ (cFr [26, 27, 28, 29, 30, 31] [(24, 0), (24, 1), (24, 2), (24, 3), (24, 4), (24, 5), (24, 6), (24, 7), (24, 8), (24, 9), (24, 10), (25, 6), (25, 7)] q q_40) from ⟨a_42, hFq_40⟩)
  · have f_147 : 0 ≤ Int32.toInt (q_34.1 24 0) ∧ Int32.toInt (q_34.1 24 0) ≤ 1 := rg_24_0 i_36
    have w_148 : Int32.toInt (q_34.1 24 0) = Int32.toInt (q_15.1 24 0) := by rw [i_37.1 24 0 (by decide) (by decide)]
    have f_149 : 0 ≤ Int32.toInt (q_34.1 24 3) ∧ Int32.toInt (q_34.1 24 3) ≤ 1 := rg_24_3 i_36
    have f_150 : 0 ≤ Int32.toInt (q_15.1 24 3) ∧ Int32.toInt (q_15.1 24 3) ≤ 1 := rg_24_3 hTq_15
    have f_151 : 0 ≤ Int32.toInt (q_14.1 24 3) ∧ Int32.toInt (q_14.1 24 3) ≤ 1 := rg_24_3 hTq_14
    have f_152 : 0 ≤ Int32.toInt (q_13.1 24 3) ∧ Int32.toInt (q_13.1 24 3) ≤ 1 := rg_24_3 hTq_13
    have f_153 : 0 ≤ Int32.toInt (q_12.1 24 3) ∧ Int32.toInt (q_12.1 24 3) ≤ 1 := rg_24_3 hTq_12
    have f_154 : 0 ≤ Int32.toInt (q_8.1 24 3) ∧ Int32.toInt (q_8.1 24 3) ≤ 1 := rg_24_3 i_10
    have w_155 : Int32.toInt (q_8.1 24 3) = Int32.toInt (q_5.1 24 3) := by rw [i_11.1 24 3 (by decide) (by decide)]
    have w_156 : Int32.toInt (q_12.1 24 3) = Int32.toInt (q_8.1 24 3) := by rw [eq_12, cui_n (by decide)]
    have w_157 : Int32.toInt (q_13.1 24 3) = Int32.toInt (q_12.1 24 3) := by rw [eq_13, cui_n (by decide)]
    have w_158 : Int32.toInt (q_14.1 24 3) = Int32.toInt (q_13.1 24 3) := by rw [eq_14, cui_n (by decide)]
    have w_159 : Int32.toInt (q_15.1 24 3) = Int32.toInt (q_14.1 24 3) := by rw [eq_15, cui_n (by decide)]
    have w_160 : Int32.toInt (q_34.1 24 3) = Int32.toInt (q_15.1 24 3) := by rw [i_37.1 24 3 (by decide) (by decide)]
    exact (show (TC q_34) ∧ (cFr [26, 27, 28, 29, 30, 31] [(24, 4), (24, 5), (24, 6), (24, 7), (24, 8), (24, 9), (24, 10), (25, 6), (25, 7)] q_34 q_34) ∧ (0 ≤ (0 : Int)) ∧ ((0 : Int) ≤ 13) ∧ (¬ Int32.toInt (q_34.1 24 0) = 0) ∧ (¬ Int32.toInt (q_34.1 24 3) = 0) from ⟨i_36, cFr.rf, by omega, by omega, by omega, by omega⟩)
  · show (13 - (0 : Int)).toNat < 1000000000000
    omega

set_option maxHeartbeats 4000000 in
set_option maxRecDepth 100000 in
theorem ok_X5_setWords_s22_s2 (q : dK) (hT : TC q) : dOk (zX5_setWords_s22_s2 q) (fun (o : dK) => (TC o) ∧ (cFr [23] [] q o)) := by
  unfold zX5_setWords_s22_s2
  refine dOk_L (fun q_1 eq_1 => ?_)
  have hTq_1 : TC q_1 := by rw [eq_1]; exact sa_23 hT
  have hFq_1 : cFr [23] [] q q_1 := by rw [eq_1]; exact (cFr.rf (q := q)).i (by decide)
  refine dOk_L (fun q_2 eq_2 => ?_)
  have hTq_2 : TC q_2 := by rw [eq_2]; exact sa_23 hTq_1
  have hFq_2 : cFr [23] [] q q_2 := by rw [eq_2]; exact hFq_1.i (by decide)
  refine dOk_L (fun q_3 eq_3 => ?_)
  have hTq_3 : TC q_3 := by rw [eq_3]; exact sa_23 hTq_2
  have hFq_3 : cFr [23] [] q q_3 := by rw [eq_3]; exact hFq_2.i (by decide)
  refine dOk_L (fun q_4 eq_4 => ?_)
  have hTq_4 : TC q_4 := by rw [eq_4]; exact sa_23 hTq_3
  have hFq_4 : cFr [23] [] q q_4 := by rw [eq_4]; exact hFq_3.i (by decide)
  refine dOk_B (ok_X8_gapCount_s2 q_4 hTq_4) (fun r_5 q_6 h_7 => ?_)
  replace h_7 : (q_6 = q_4) := h_7
  have i_8 := h_7
  subst q_6
  refine dOk_L (fun q_9 eq_9 => ?_)
  have hTq_9 : TC q_9 := by rw [eq_9]; exact sa_23 hTq_4
  have hFq_9 : cFr [23] [] q q_9 := by rw [eq_9]; exact hFq_4.i (by decide)
  unfold zX5_setWords_s22_s2_52
  refine dFix_ok (fun (a : dK × Int32) => (TC a.1) ∧ (cFr [23] [] q_9 a.1) ∧ (0 ≤ Int32.toInt a.2) ∧ (Int32.toInt a.2 ≤ 6)) (fun (a : dK × Int32) => (6 - Int32.toInt a.2).toNat) ?_ _ ?_ _ (dF_gt ?_)
  · intro a ha k_11 hk_10
    obtain ⟨q_12, x2_13⟩ := a
    replace ha : (TC q_12) ∧ (cFr [23] [] q_9 q_12) ∧ (0 ≤ Int32.toInt x2_13) ∧ (Int32.toInt x2_13 ≤ 6) := ha
    obtain ⟨a_14, a_15, a_16, a_17⟩ := ha
    show dOk (zX5_setWords_s22_s2_52b  (fun q x2 => k_11 (q, x2)) q_12 x2_13) _
    unfold zX5_setWords_s22_s2_52b
    have hFq_12 : cFr [23] [] q q_12 := hFq_9.t a_15 (by decide) (by decide)
    refine dOk_le (A := 6) (B := Int32.toInt x2_13) (by decide) rfl (fun c_18 => ?_) (fun c_19 => ?_)
    · exact dOk_some (show (TC q_12) ∧ (cFr [23] [] q q_12) from ⟨a_14, hFq_12⟩)
    · refine dOk_B (ok_X8_tell_s2 q_12 x2_13 0 a_14) (fun r_20 q_21 h_22 => ?_)
      replace h_22 : (q_21 = q_12) ∧ (-1 ≤ Int32.toInt r_20 ∧ Int32.toInt r_20 ≤ 7) := h_22
      obtain ⟨i_23, i_24⟩ := h_22
      subst q_21
      try have t_25 : Int32.toInt (5 + x2_13) = 5 + Int32.toInt x2_13 := ti_add (by decide) rfl (by omega) (by omega)
      refine dOk_G (dg_ok (show 0 ≤ Int32.toInt (5 + x2_13) by omega) (show Int32.toInt (5 + x2_13) < ((17 : Nat) : Int) by omega)) ?_
      have n_26 : ((Int32.toNatClampNeg (5 + x2_13) : Nat) : Int) = Int32.toInt (5 + x2_13) := cl_eq (by omega)
      refine dOk_L (fun q_27 eq_27 => ?_)
      have hTq_27 : TC q_27 := by rw [eq_27]; exact sa_23 a_14
      have hFq_27 : cFr [23] [] q q_27 := by rw [eq_27]; exact hFq_12.i (by decide)
      refine dOk_B (ok_X8_tell_s2 q_27 x2_13 1 hTq_27) (fun r_28 q_29 h_30 => ?_)
      replace h_30 : (q_29 = q_27) ∧ (-1 ≤ Int32.toInt r_28 ∧ Int32.toInt r_28 ≤ 7) := h_30
      obtain ⟨i_31, i_32⟩ := h_30
      subst q_29
      try have t_33 : Int32.toInt (11 + x2_13) = 11 + Int32.toInt x2_13 := ti_add (by decide) rfl (by omega) (by omega)
      refine dOk_G (dg_ok (show 0 ≤ Int32.toInt (11 + x2_13) by omega) (show Int32.toInt (11 + x2_13) < ((17 : Nat) : Int) by omega)) ?_
      have n_34 : ((Int32.toNatClampNeg (11 + x2_13) : Nat) : Int) = Int32.toInt (11 + x2_13) := cl_eq (by omega)
      refine dOk_L (fun q_35 eq_35 => ?_)
      have hTq_35 : TC q_35 := by rw [eq_35]; exact sa_23 hTq_27
      have hFq_35 : cFr [23] [] q q_35 := by rw [eq_35]; exact hFq_27.i (by decide)
      try have t_36 : Int32.toInt (x2_13 + 1) = Int32.toInt x2_13 + 1 := ti_add rfl (by decide) (by omega) (by omega)
      exact hk_10 (q_35, (x2_13 + 1)) (show (TC q_35) ∧ (cFr [23] [] q_9 q_35) ∧ (0 ≤ Int32.toInt (x2_13 + 1)) ∧ (Int32.toInt (x2_13 + 1) ≤ 6) from ⟨hTq_35, (by rw [eq_35]; exact ((by rw [eq_27]; exact (((cFr.rf : cFr [23] [] q_9 q_9).t a_15 (by decide) (by decide)) : cFr [23] [] q_9 q_12).i (by decide)) : cFr [23] [] q_9 q_27).i (by decide)), by omega, by omega⟩) (show (6 - Int32.toInt (x2_13 + 1)).toNat < (6 - Int32.toInt x2_13).toNat by omega)
  · exact (show (TC q_9) ∧ (cFr [23] [] q_9 q_9) ∧ (0 ≤ (0 : Int)) ∧ ((0 : Int) ≤ 6) from ⟨hTq_9, cFr.rf, by omega, by omega⟩)
  · show (6 - (0 : Int)).toNat < 1000000000000
    omega
end
section
set_option maxHeartbeats 4000000 in
set_option maxRecDepth 100000 in
theorem ok_X5_run_s22_s25_s2_s20_s10 (q : dK) (hT : TC q) : dOk (zX5_run_s22_s25_s2_s20_s10 q) (fun (o : Int32 × dK) => (TC o.2) ∧ (cFr [3, 4, 12, 14, 19, 21, 23] [(2, 2), (2, 3), (2, 4), (10, 2), (10, 5), (18, 1), (22, 2), (22, 3)] q o.2)) := by
  unfold zX5_run_s22_s25_s2_s20_s10
  refine dOk_B (ok_X8_pack_s2 q hT) (fun r_1 q_2 h_3 => ?_)
  replace h_3 : (q_2 = q) ∧ (0 ≤ Int64.toInt r_1) := h_3
  obtain ⟨i_4, i_5⟩ := h_3
  subst q_2
  refine dOk_V (ok_X0_mark_s10 q hT) (fun q_6 h_7 => ?_)
  replace h_7 : (TC q_6) ∧ (cFr [14] [(10, 5)] q q_6) := h_7
  obtain ⟨i_8, i_9⟩ := h_7
  have hFq_6 : cFr [3, 4, 12, 14, 19, 21, 23] [(2, 2), (2, 3), (2, 4), (10, 2), (10, 5), (18, 1), (22, 2), (22, 3)] q q_6 := (cFr.rf (q := q)).t i_9 (by decide) (by decide)
  refine dOk_L (fun q_10 eq_10 => ?_)
  have hTq_10 : TC q_10 := by rw [eq_10]; exact sa_22_2 i_8
  have hFq_10 : cFr [3, 4, 12, 14, 19, 21, 23] [(2, 2), (2, 3), (2, 4), (10, 2), (10, 5), (18, 1), (22, 2), (22, 3)] q q_10 := by rw [eq_10]; exact hFq_6.f (by decide)
  refine dOk_L (fun q_11 eq_11 => ?_)
  have hTq_11 : TC q_11 := by rw [eq_11]; exact sa_22_3 hTq_10
  have hFq_11 : cFr [3, 4, 12, 14, 19, 21, 23] [(2, 2), (2, 3), (2, 4), (10, 2), (10, 5), (18, 1), (22, 2), (22, 3)] q q_11 := by rw [eq_11]; exact hFq_10.f (by decide)
  unfold zX5_run_s22_s25_s2_s20_s10_24
  refine dFix_ok (fun (a : dK × Int64 × Int32) => (TC a.1) ∧ (cFr [3, 4, 12, 19, 21, 23] [(2, 3), (2, 4), (10, 2), (18, 1), (22, 2), (22, 3)] q_11 a.1) ∧ (a.2.1 = (r_1)) ∧ (0 ≤ Int32.toInt a.2.2) ∧ (Int32.toInt a.2.2 ≤ 12)) (fun (a : dK × Int64 × Int32) => (12 - Int32.toInt a.2.2).toNat) ?_ _ ?_ _ (dF_gt ?_)
  · intro a ha k_13 hk_12
    obtain ⟨q_14, x5_15, x7_16⟩ := a
    replace ha : (TC q_14) ∧ (cFr [3, 4, 12, 19, 21, 23] [(2, 3), (2, 4), (10, 2), (18, 1), (22, 2), (22, 3)] q_11 q_14) ∧ (x5_15 = (r_1)) ∧ (0 ≤ Int32.toInt x7_16) ∧ (Int32.toInt x7_16 ≤ 12) := ha
    obtain ⟨a_17, a_18, a_19, a_20, a_21⟩ := ha
    show dOk (zX5_run_s22_s25_s2_s20_s10_24b  (fun q x5 x7 => k_13 (q, x5, x7)) q_14 x5_15 x7_16) _
    unfold zX5_run_s22_s25_s2_s20_s10_24b
    have hFq_14 : cFr [3, 4, 12, 14, 19, 21, 23] [(2, 2), (2, 3), (2, 4), (10, 2), (10, 5), (18, 1), (22, 2), (22, 3)] q q_14 := hFq_11.t a_18 (by decide) (by decide)
    subst x5_15
    have f_22 : 0 ≤ Int32.toInt (q_14.1 25 6) ∧ Int32.toInt (q_14.1 25 6) ≤ 12 := rg_25_6 a_17
    have f_23 : 0 ≤ Int32.toInt (q_11.1 25 6) ∧ Int32.toInt (q_11.1 25 6) ≤ 12 := rg_25_6 hTq_11
    have f_24 : 0 ≤ Int32.toInt (q_10.1 25 6) ∧ Int32.toInt (q_10.1 25 6) ≤ 12 := rg_25_6 hTq_10
    have f_25 : 0 ≤ Int32.toInt (q_6.1 25 6) ∧ Int32.toInt (q_6.1 25 6) ≤ 12 := rg_25_6 i_8
    have f_26 : 0 ≤ Int32.toInt (q.1 25 6) ∧ Int32.toInt (q.1 25 6) ≤ 12 := rg_25_6 hT
    have w_27 : Int32.toInt (q_6.1 25 6) = Int32.toInt (q.1 25 6) := by rw [i_9.1 25 6 (by decide) (by decide)]
    have w_28 : Int32.toInt (q_10.1 25 6) = Int32.toInt (q_6.1 25 6) := by rw [eq_10, cui_o (by decide)]
    have w_29 : Int32.toInt (q_11.1 25 6) = Int32.toInt (q_10.1 25 6) := by rw [eq_11, cui_o (by decide)]
    have w_30 : Int32.toInt (q_14.1 25 6) = Int32.toInt (q_11.1 25 6) := by rw [a_18.1 25 6 (by decide) (by decide)]
    refine dOk_le (A := Int32.toInt (q_14.1 25 6)) (B := Int32.toInt x7_16) rfl rfl (fun c_31 => ?_) (fun c_32 => ?_)
    · exact dOk_some (show (TC q_14) ∧ (cFr [3, 4, 12, 14, 19, 21, 23] [(2, 2), (2, 3), (2, 4), (10, 2), (10, 5), (18, 1), (22, 2), (22, 3)] q q_14) from ⟨a_17, hFq_14⟩)
    · unfold zX5_run_s22_s25_s2_s20_s10_36
      refine dFix_ok (fun (a : dK × Int64 × Int32 × Int32) => (TC a.1) ∧ (cFr [3, 4, 12, 19, 21, 23] [(2, 3), (2, 4), (10, 2), (18, 1), (22, 2), (22, 3)] q_14 a.1) ∧ (a.2.1 = ((r_1))) ∧ (a.2.2.1 = x7_16) ∧ (0 ≤ Int32.toInt a.2.2.2)) (fun (a : dK × Int64 × Int32 × Int32) => (Int32.toInt (q_14.1 27 (Int32.toNatClampNeg a.2.2.1)) - Int32.toInt a.2.2.2).toNat) ?_ _ ?_ _ (dF_gt ?_)
      · intro a ha k_34 hk_33
        obtain ⟨q_35, x5_36, x7_37, x8_38⟩ := a
        replace ha : (TC q_35) ∧ (cFr [3, 4, 12, 19, 21, 23] [(2, 3), (2, 4), (10, 2), (18, 1), (22, 2), (22, 3)] q_14 q_35) ∧ (x5_36 = ((r_1))) ∧ (x7_37 = x7_16) ∧ (0 ≤ Int32.toInt x8_38) := ha
        obtain ⟨a_39, a_40, a_41, a_42, a_43⟩ := ha
        show dOk (zX5_run_s22_s25_s2_s20_s10_36b _ (fun q x5 x7 x8 => k_34 (q, x5, x7, x8)) q_35 x5_36 x7_37 x8_38) _
        unfold zX5_run_s22_s25_s2_s20_s10_36b
        have hFq_35 : cFr [3, 4, 12, 14, 19, 21, 23] [(2, 2), (2, 3), (2, 4), (10, 2), (10, 5), (18, 1), (22, 2), (22, 3)] q q_35 := hFq_14.t a_40 (by decide) (by decide)
        subst x5_36
        subst x7_37
        have hb9 : Int32.toInt (q_35.1 27 (Int32.toNatClampNeg x7_16)) = Int32.toInt (q_14.1 27 (Int32.toNatClampNeg x7_16)) := by rw [a_40.row 27 (by decide) (by decide)]
        refine dOk_G (dg_ok (show 0 ≤ Int32.toInt x7_16 by omega) (show Int32.toInt x7_16 < ((12 : Nat) : Int) by omega)) ?_
        have n_44 : ((Int32.toNatClampNeg x7_16 : Nat) : Int) = Int32.toInt x7_16 := cl_eq (by omega)
        refine dOk_L (fun v_45 ev_45 => ?_)
        have w_46 : Int32.toInt v_45 = Int32.toInt (q_35.1 27 (Int32.toNatClampNeg x7_16)) := by rw [ev_45]
        have f_47 := ti_rg v_45
        refine dOk_le (A := Int32.toInt v_45) (B := Int32.toInt x8_38) rfl rfl (fun c_48 => ?_) (fun c_49 => ?_)
        · try have t_50 : Int32.toInt (x7_16 + 1) = Int32.toInt x7_16 + 1 := ti_add rfl (by decide) (by omega) (by omega)
          exact hk_12 (q_35, (((r_1))), (x7_16 + 1)) (show (TC q_35) ∧ (cFr [3, 4, 12, 19, 21, 23] [(2, 3), (2, 4), (10, 2), (18, 1), (22, 2), (22, 3)] q_11 q_35) ∧ ((((r_1))) = (r_1)) ∧ (0 ≤ Int32.toInt (x7_16 + 1)) ∧ (Int32.toInt (x7_16 + 1) ≤ 12) from ⟨a_39, ((((cFr.rf : cFr [3, 4, 12, 19, 21, 23] [(2, 3), (2, 4), (10, 2), (18, 1), (22, 2), (22, 3)] q_11 q_11).t a_18 (by decide) (by decide)) : cFr [3, 4, 12, 19, 21, 23] [(2, 3), (2, 4), (10, 2), (18, 1), (22, 2), (22, 3)] q_11 q_14).t a_40 (by decide) (by decide)), rfl, by omega, by omega⟩) (show (12 - Int32.toInt (x7_16 + 1)).toNat < (12 - Int32.toInt x7_16).toNat by omega)
        · refine dOk_V (ok_X5_setWords_s22_s2 q_35 a_39) (fun q_51 h_52 => ?_)
          replace h_52 : (TC q_51) ∧ (cFr [23] [] q_35 q_51) := h_52
          obtain ⟨i_53, i_54⟩ := h_52
          have hFq_51 : cFr [3, 4, 12, 14, 19, 21, 23] [(2, 2), (2, 3), (2, 4), (10, 2), (10, 5), (18, 1), (22, 2), (22, 3)] q q_51 := hFq_35.t i_54 (by decide) (by decide)
          refine dOk_G (dg_ok (show 0 ≤ Int32.toInt x7_16 by omega) (show Int32.toInt x7_16 < ((12 : Nat) : Int) by omega)) ?_
          refine dOk_L (fun v_55 ev_55 => ?_)
          have f_56 : 0 ≤ Int32.toInt v_55 ∧ Int32.toInt v_55 ≤ 400 := by rw [ev_55]; exact rg_29 i_53 _
          refine dOk_G (dg_ok (show 0 ≤ Int32.toInt x7_16 by omega) (show Int32.toInt x7_16 < ((12 : Nat) : Int) by omega)) ?_
          refine dOk_L (fun v_57 ev_57 => ?_)
          have f_58 : 0 ≤ Int32.toInt v_57 ∧ Int32.toInt v_57 ≤ 400 := by rw [ev_57]; exact rg_30 i_53 _
          refine dOk_B (ok_X2_valueOf_s18_s25_s23 q_51 v_55 v_57 i_53 (show 0 ≤ Int32.toInt v_55 by omega)) (fun r_59 q_60 h_61 => ?_)
          replace h_61 : (TC q_60) ∧ (cFr [19] [(18, 1)] q_51 q_60) := h_61
          obtain ⟨i_62, i_63⟩ := h_61
          have hFq_60 : cFr [3, 4, 12, 14, 19, 21, 23] [(2, 2), (2, 3), (2, 4), (10, 2), (10, 5), (18, 1), (22, 2), (22, 3)] q q_60 := hFq_51.t i_63 (by decide) (by decide)
          refine dOk_eq (A := Int32.toInt r_59) (B := 1) rfl (by decide) (fun c_64z c_64 => ?_) (fun c_65z c_65 => ?_)
          · refine dOk_B (ok_X8_pack_s2 q_60 i_62) (fun r_67 q_68 h_69 => ?_)
            replace h_69 : (q_68 = q_60) ∧ (0 ≤ Int64.toInt r_67) := h_69
            obtain ⟨i_70, i_71⟩ := h_69
            subst q_68
            refine dOk_G (dg_ok (show 0 ≤ Int32.toInt x7_16 by omega) (show Int32.toInt x7_16 < ((12 : Nat) : Int) by omega)) ?_
            refine dOk_L (fun v_72 ev_72 => ?_)
            refine dOk_G (dg_ok (show 0 ≤ Int32.toInt x7_16 by omega) (show Int32.toInt x7_16 < ((12 : Nat) : Int) by omega)) ?_
            refine dOk_L (fun v_73 ev_73 => ?_)
            have f_74 : 0 ≤ Int32.toInt v_73 ∧ Int32.toInt v_73 ≤ 400 := by rw [ev_73]; exact rg_28 i_62 _
            refine dOk_G (dg_ok (show 0 ≤ Int32.toInt x7_16 by omega) (show Int32.toInt x7_16 < ((12 : Nat) : Int) by omega)) ?_
            refine dOk_L (fun v_75 ev_75 => ?_)
            have f_76 : 0 ≤ Int32.toInt v_75 ∧ Int32.toInt v_75 ≤ 400 := by rw [ev_75]; exact rg_29 i_62 _
            refine dOk_B (ok_X2_valueOf_s18_s25_s23 q_60 v_73 v_75 i_62 (show 0 ≤ Int32.toInt v_73 by omega)) (fun r_77 q_78 h_79 => ?_)
            replace h_79 : (TC q_78) ∧ (cFr [19] [(18, 1)] q_60 q_78) := h_79
            obtain ⟨i_80, i_81⟩ := h_79
            have hFq_78 : cFr [3, 4, 12, 14, 19, 21, 23] [(2, 2), (2, 3), (2, 4), (10, 2), (10, 5), (18, 1), (22, 2), (22, 3)] q q_78 := hFq_60.t i_81 (by decide) (by decide)
            have f_82 : 0 ≤ Int32.toInt (q_78.1 18 1) ∧ Int32.toInt (q_78.1 18 1) ≤ 1 := rg_18_1 i_80
            refine dOk_eq (A := Int32.toInt (q_78.1 18 1)) (B := 0) rfl (by decide) (fun c_83z c_83 => ?_) (fun c_84z c_84 => ?_)
            · refine dOk_B (ok_X8_act_s2_s20 q_78 v_72 r_77 i_80) (fun r_86 q_87 h_88 => ?_)
              replace h_88 : (TC q_87) ∧ (cFr [3, 4, 19, 21] [(2, 3), (2, 4), (18, 1)] q_78 q_87) ∧ (-3 ≤ Int32.toInt r_86 ∧ Int32.toInt r_86 ≤ 99) := h_88
              obtain ⟨i_89, i_90, i_91⟩ := h_88
              have hFq_87 : cFr [3, 4, 12, 14, 19, 21, 23] [(2, 2), (2, 3), (2, 4), (10, 2), (10, 5), (18, 1), (22, 2), (22, 3)] q q_87 := hFq_78.t i_90 (by decide) (by decide)
              unfold zX5_run_s22_s25_s2_s20_s10_150
              refine dOk_le (A := 0) (B := Int32.toInt r_86) (by decide) rfl (fun c_92 => ?_) (fun c_93 => ?_)
              · refine dOk_V (ok_X0_keep_s10 q_87 v_72 ((r_67)) i_89 (show 0 ≤ Int64.toInt ((r_67)) by omega)) (fun q_94 h_95 => ?_)
                replace h_95 : (TC q_94) ∧ (cFr [12] [(10, 2)] q_87 q_94) := h_95
                obtain ⟨i_96, i_97⟩ := h_95
                have hFq_94 : cFr [3, 4, 12, 14, 19, 21, 23] [(2, 2), (2, 3), (2, 4), (10, 2), (10, 5), (18, 1), (22, 2), (22, 3)] q q_94 := hFq_87.t i_97 (by decide) (by decide)
                refine dOk_L (fun q_98 eq_98 => ?_)
                have w_99 : Int32.toInt (q_51.1 22 2) = Int32.toInt (q_35.1 22 2) := by rw [i_54.1 22 2 (by decide) (by decide)]
                have w_100 : Int32.toInt (q_60.1 22 2) = Int32.toInt (q_51.1 22 2) := by rw [i_63.1 22 2 (by decide) (by decide)]
                have w_101 : Int32.toInt (q_78.1 22 2) = Int32.toInt (q_60.1 22 2) := by rw [i_81.1 22 2 (by decide) (by decide)]
                have w_102 : Int32.toInt (q_87.1 22 2) = Int32.toInt (q_78.1 22 2) := by rw [i_90.1 22 2 (by decide) (by decide)]
                have w_103 : Int32.toInt (q_94.1 22 2) = Int32.toInt (q_87.1 22 2) := by rw [i_97.1 22 2 (by decide) (by decide)]
                try have t_104 : Int32.toInt (q_94.1 22 2 + 1) = Int32.toInt (q_94.1 22 2) + 1 := ti_add rfl (by decide) (by omega) (by omega)
                have hTq_98 : TC q_98 := by rw [eq_98]; exact sa_22_2 i_96
                have hFq_98 : cFr [3, 4, 12, 14, 19, 21, 23] [(2, 2), (2, 3), (2, 4), (10, 2), (10, 5), (18, 1), (22, 2), (22, 3)] q q_98 := by rw [eq_98]; exact hFq_94.f (by decide)
                refine dOk_eq (A := Int32.toInt v_72) (B := 0) rfl (by decide) (fun c_105z c_105 => ?_) (fun c_106z c_106 => ?_)
                · unfold zX5_run_s22_s25_s2_s20_s10_205
                  refine dOk_L (fun q_108 eq_108 => ?_)
                  have hTq_108 : TC q_108 := by rw [eq_108]; exact sa_22_3 hTq_98
                  have hFq_108 : cFr [3, 4, 12, 14, 19, 21, 23] [(2, 2), (2, 3), (2, 4), (10, 2), (10, 5), (18, 1), (22, 2), (22, 3)] q q_108 := by rw [eq_108]; exact hFq_98.f (by decide)
                  unfold zX5_run_s22_s25_s2_s20_s10_208
                  try have t_109 : Int32.toInt (x8_38 + 1) = Int32.toInt x8_38 + 1 := ti_add rfl (by decide) (by omega) (by omega)
                  exact hk_33 (q_108, ((((((r_1)))))), x7_16, (x8_38 + 1)) (show (TC q_108) ∧ (cFr [3, 4, 12, 19, 21, 23] [(2, 3), (2, 4), (10, 2), (18, 1), (22, 2), (22, 3)] q_14 q_108) ∧ (((((((r_1)))))) = ((r_1))) ∧ (x7_16 = x7_16) ∧ (0 ≤ Int32.toInt (x8_38 + 1)) from ⟨hTq_108, (by rw [eq_108]; exact ((by rw [eq_98]; exact (((((((((((((cFr.rf : cFr [3, 4, 12, 19, 21, 23] [(2, 3), (2, 4), (10, 2), (18, 1), (22, 2), (22, 3)] q_14 q_14).t a_40 (by decide) (by decide)) : cFr [3, 4, 12, 19, 21, 23] [(2, 3), (2, 4), (10, 2), (18, 1), (22, 2), (22, 3)] q_14 q_35).t i_54 (by decide) (by decide)) : cFr [3, 4, 12, 19, 21, 23] [(2, 3), (2, 4), (10, 2), (18, 1), (22, 2), (22, 3)] q_14 q_51).t i_63 (by decide) (by decide)) : cFr [3, 4, 12, 19, 21, 23] [(2, 3), (2, 4), (10, 2), (18, 1), (22, 2), (22, 3)] q_14 q_60).t i_81 (by decide) (by decide)) : cFr [3, 4, 12, 19, 21, 23] [(2, 3), (2, 4), (10, 2), (18, 1), (22, 2), (22, 3)] q_14 q_78).t i_90 (by decide) (by decide)) : cFr [3, 4, 12, 19, 21, 23] [(2, 3), (2, 4), (10, 2), (18, 1), (22, 2), (22, 3)] q_14 q_87).t i_97 (by decide) (by decide)) : cFr [3, 4, 12, 19, 21, 23] [(2, 3), (2, 4), (10, 2), (18, 1), (22, 2), (22, 3)] q_14 q_94).f (by decide)) : cFr [3, 4, 12, 19, 21, 23] [(2, 3), (2, 4), (10, 2), (18, 1), (22, 2), (22, 3)] q_14 q_98).f (by decide)), rfl, rfl, by omega⟩) (show (Int32.toInt (q_14.1 27 (Int32.toNatClampNeg x7_16)) - Int32.toInt (x8_38 + 1)).toNat < (Int32.toInt (q_14.1 27 (Int32.toNatClampNeg x7_16)) - Int32.toInt x8_38).toNat by omega)
                · unfold zX5_run_s22_s25_s2_s20_s10_205
                  refine dOk_L (fun q_110 eq_110 => ?_)
                  have w_111 : Int32.toInt (q_51.1 22 3) = Int32.toInt (q_35.1 22 3) := by rw [i_54.1 22 3 (by decide) (by decide)]
                  have w_112 : Int32.toInt (q_60.1 22 3) = Int32.toInt (q_51.1 22 3) := by rw [i_63.1 22 3 (by decide) (by decide)]
                  have w_113 : Int32.toInt (q_78.1 22 3) = Int32.toInt (q_60.1 22 3) := by rw [i_81.1 22 3 (by decide) (by decide)]
                  have w_114 : Int32.toInt (q_87.1 22 3) = Int32.toInt (q_78.1 22 3) := by rw [i_90.1 22 3 (by decide) (by decide)]
                  have w_115 : Int32.toInt (q_94.1 22 3) = Int32.toInt (q_87.1 22 3) := by rw [i_97.1 22 3 (by decide) (by decide)]
                  have w_116 : Int32.toInt (q_98.1 22 3) = Int32.toInt (q_94.1 22 3) := by rw [eq_98, cui_n (by decide)]
                  have hTq_110 : TC q_110 := by rw [eq_110]; exact sa_22_3 hTq_98
                  have hFq_110 : cFr [3, 4, 12, 14, 19, 21, 23] [(2, 2), (2, 3), (2, 4), (10, 2), (10, 5), (18, 1), (22, 2), (22, 3)] q q_110 := by rw [eq_110]; exact hFq_98.f (by decide)
                  unfold zX5_run_s22_s25_s2_s20_s10_208
                  try have t_117 : Int32.toInt (x8_38 + 1) = Int32.toInt x8_38 + 1 := ti_add rfl (by decide) (by omega) (by omega)
                  exact hk_33 (q_110, ((((((r_1)))))), x7_16, (x8_38 + 1)) (show (TC q_110) ∧ (cFr [3, 4, 12, 19, 21, 23] [(2, 3), (2, 4), (10, 2), (18, 1), (22, 2), (22, 3)] q_14 q_110) ∧ (((((((r_1)))))) = ((r_1))) ∧ (x7_16 = x7_16) ∧ (0 ≤ Int32.toInt (x8_38 + 1)) from ⟨hTq_110, (by rw [eq_110]; exact ((by rw [eq_98]; exact (((((((((((((cFr.rf : cFr [3, 4, 12, 19, 21, 23] [(2, 3), (2, 4), (10, 2), (18, 1), (22, 2), (22, 3)] q_14 q_14).t a_40 (by decide) (by decide)) : cFr [3, 4, 12, 19, 21, 23] [(2, 3), (2, 4), (10, 2), (18, 1), (22, 2), (22, 3)] q_14 q_35).t i_54 (by decide) (by decide)) : cFr [3, 4, 12, 19, 21, 23] [(2, 3), (2, 4), (10, 2), (18, 1), (22, 2), (22, 3)] q_14 q_51).t i_63 (by decide) (by decide)) : cFr [3, 4, 12, 19, 21, 23] [(2, 3), (2, 4), (10, 2), (18, 1), (22, 2), (22, 3)] q_14 q_60).t i_81 (by decide) (by decide)) : cFr [3, 4, 12, 19, 21, 23] [(2, 3), (2, 4), (10, 2), (18, 1), (22, 2), (22, 3)] q_14 q_78).t i_90 (by decide) (by decide)) : cFr [3, 4, 12, 19, 21, 23] [(2, 3), (2, 4), (10, 2), (18, 1), (22, 2), (22, 3)] q_14 q_87).t i_97 (by decide) (by decide)) : cFr [3, 4, 12, 19, 21, 23] [(2, 3), (2, 4), (10, 2), (18, 1), (22, 2), (22, 3)] q_14 q_94).f (by decide)) : cFr [3, 4, 12, 19, 21, 23] [(2, 3), (2, 4), (10, 2), (18, 1), (22, 2), (22, 3)] q_14 q_98).f (by decide)), rfl, rfl, by omega⟩) (show (Int32.toInt (q_14.1 27 (Int32.toNatClampNeg x7_16)) - Int32.toInt (x8_38 + 1)).toNat < (Int32.toInt (q_14.1 27 (Int32.toNatClampNeg x7_16)) - Int32.toInt x8_38).toNat by omega)
              · refine dOk_V (ok_X8_unpack_s2 q_87 ((((r_1)))) i_89 (show 0 ≤ Int64.toInt ((((r_1)))) by omega)) (fun q_118 h_119 => ?_)
                replace h_119 : (TC q_118) ∧ (cFr [3, 4] [(2, 2), (2, 3), (2, 4)] q_87 q_118) := h_119
                obtain ⟨i_120, i_121⟩ := h_119
                have hFq_118 : cFr [3, 4, 12, 14, 19, 21, 23] [(2, 2), (2, 3), (2, 4), (10, 2), (10, 5), (18, 1), (22, 2), (22, 3)] q q_118 := hFq_87.t i_121 (by decide) (by decide)
                refine dOk_V (ok_X0_backToMark_s10 q_118 i_120) (fun q_122 h_123 => ?_)
                replace h_123 : (TC q_122) ∧ (cFr [12] [(10, 2)] q_118 q_122) := h_123
                obtain ⟨i_124, i_125⟩ := h_123
                have hFq_122 : cFr [3, 4, 12, 14, 19, 21, 23] [(2, 2), (2, 3), (2, 4), (10, 2), (10, 5), (18, 1), (22, 2), (22, 3)] q q_122 := hFq_118.t i_125 (by decide) (by decide)
                exact dOk_some (show (TC q_122) ∧ (cFr [3, 4, 12, 14, 19, 21, 23] [(2, 2), (2, 3), (2, 4), (10, 2), (10, 5), (18, 1), (22, 2), (22, 3)] q q_122) from ⟨i_124, hFq_122⟩)
            · unfold zX5_run_s22_s25_s2_s20_s10_150
              refine dOk_le (A := 0) (B := (-3)) (by decide) (by decide) (fun c_126 => ?_) (fun c_127 => ?_)
              · refine dOk_V (ok_X0_keep_s10 q_78 v_72 ((r_67)) i_80 (show 0 ≤ Int64.toInt ((r_67)) by omega)) (fun q_128 h_129 => ?_)
                replace h_129 : (TC q_128) ∧ (cFr [12] [(10, 2)] q_78 q_128) := h_129
                obtain ⟨i_130, i_131⟩ := h_129
                have hFq_128 : cFr [3, 4, 12, 14, 19, 21, 23] [(2, 2), (2, 3), (2, 4), (10, 2), (10, 5), (18, 1), (22, 2), (22, 3)] q q_128 := hFq_78.t i_131 (by decide) (by decide)
                refine dOk_L (fun q_132 eq_132 => ?_)
                have w_133 : Int32.toInt (q_51.1 22 2) = Int32.toInt (q_35.1 22 2) := by rw [i_54.1 22 2 (by decide) (by decide)]
                have w_134 : Int32.toInt (q_60.1 22 2) = Int32.toInt (q_51.1 22 2) := by rw [i_63.1 22 2 (by decide) (by decide)]
                have w_135 : Int32.toInt (q_78.1 22 2) = Int32.toInt (q_60.1 22 2) := by rw [i_81.1 22 2 (by decide) (by decide)]
                have w_136 : Int32.toInt (q_128.1 22 2) = Int32.toInt (q_78.1 22 2) := by rw [i_131.1 22 2 (by decide) (by decide)]
                try have t_137 : Int32.toInt (q_128.1 22 2 + 1) = Int32.toInt (q_128.1 22 2) + 1 := ti_add rfl (by decide) (by omega) (by omega)
                have hTq_132 : TC q_132 := by rw [eq_132]; exact sa_22_2 i_130
                have hFq_132 : cFr [3, 4, 12, 14, 19, 21, 23] [(2, 2), (2, 3), (2, 4), (10, 2), (10, 5), (18, 1), (22, 2), (22, 3)] q q_132 := by rw [eq_132]; exact hFq_128.f (by decide)
                refine dOk_eq (A := Int32.toInt v_72) (B := 0) rfl (by decide) (fun c_138z c_138 => ?_) (fun c_139z c_139 => ?_)
                · unfold zX5_run_s22_s25_s2_s20_s10_205
                  refine dOk_L (fun q_141 eq_141 => ?_)
                  have hTq_141 : TC q_141 := by rw [eq_141]; exact sa_22_3 hTq_132
                  have hFq_141 : cFr [3, 4, 12, 14, 19, 21, 23] [(2, 2), (2, 3), (2, 4), (10, 2), (10, 5), (18, 1), (22, 2), (22, 3)] q q_141 := by rw [eq_141]; exact hFq_132.f (by decide)
                  unfold zX5_run_s22_s25_s2_s20_s10_208
                  try have t_142 : Int32.toInt (x8_38 + 1) = Int32.toInt x8_38 + 1 := ti_add rfl (by decide) (by omega) (by omega)
                  exact hk_33 (q_141, ((((((r_1)))))), x7_16, (x8_38 + 1)) (show (TC q_141) ∧ (cFr [3, 4, 12, 19, 21, 23] [(2, 3), (2, 4), (10, 2), (18, 1), (22, 2), (22, 3)] q_14 q_141) ∧ (((((((r_1)))))) = ((r_1))) ∧ (x7_16 = x7_16) ∧ (0 ≤ Int32.toInt (x8_38 + 1)) from ⟨hTq_141, (by rw [eq_141]; exact ((by rw [eq_132]; exact (((((((((((cFr.rf : cFr [3, 4, 12, 19, 21, 23] [(2, 3), (2, 4), (10, 2), (18, 1), (22, 2), (22, 3)] q_14 q_14).t a_40 (by decide) (by decide)) : cFr [3, 4, 12, 19, 21, 23] [(2, 3), (2, 4), (10, 2), (18, 1), (22, 2), (22, 3)] q_14 q_35).t i_54 (by decide) (by decide)) : cFr [3, 4, 12, 19, 21, 23] [(2, 3), (2, 4), (10, 2), (18, 1), (22, 2), (22, 3)] q_14 q_51).t i_63 (by decide) (by decide)) : cFr [3, 4, 12, 19, 21, 23] [(2, 3), (2, 4), (10, 2), (18, 1), (22, 2), (22, 3)] q_14 q_60).t i_81 (by decide) (by decide)) : cFr [3, 4, 12, 19, 21, 23] [(2, 3), (2, 4), (10, 2), (18, 1), (22, 2), (22, 3)] q_14 q_78).t i_131 (by decide) (by decide)) : cFr [3, 4, 12, 19, 21, 23] [(2, 3), (2, 4), (10, 2), (18, 1), (22, 2), (22, 3)] q_14 q_128).f (by decide)) : cFr [3, 4, 12, 19, 21, 23] [(2, 3), (2, 4), (10, 2), (18, 1), (22, 2), (22, 3)] q_14 q_132).f (by decide)), rfl, rfl, by omega⟩) (show (Int32.toInt (q_14.1 27 (Int32.toNatClampNeg x7_16)) - Int32.toInt (x8_38 + 1)).toNat < (Int32.toInt (q_14.1 27 (Int32.toNatClampNeg x7_16)) - Int32.toInt x8_38).toNat by omega)
                · unfold zX5_run_s22_s25_s2_s20_s10_205
                  refine dOk_L (fun q_143 eq_143 => ?_)
                  have w_144 : Int32.toInt (q_51.1 22 3) = Int32.toInt (q_35.1 22 3) := by rw [i_54.1 22 3 (by decide) (by decide)]
                  have w_145 : Int32.toInt (q_60.1 22 3) = Int32.toInt (q_51.1 22 3) := by rw [i_63.1 22 3 (by decide) (by decide)]
                  have w_146 : Int32.toInt (q_78.1 22 3) = Int32.toInt (q_60.1 22 3) := by rw [i_81.1 22 3 (by decide) (by decide)]
                  have w_147 : Int32.toInt (q_128.1 22 3) = Int32.toInt (q_78.1 22 3) := by rw [i_131.1 22 3 (by decide) (by decide)]
                  have w_148 : Int32.toInt (q_132.1 22 3) = Int32.toInt (q_128.1 22 3) := by rw [eq_132, cui_n (by decide)]
                  have hTq_143 : TC q_143 := by rw [eq_143]; exact sa_22_3 hTq_132
                  have hFq_143 : cFr [3, 4, 12, 14, 19, 21, 23] [(2, 2), (2, 3), (2, 4), (10, 2), (10, 5), (18, 1), (22, 2), (22, 3)] q q_143 := by rw [eq_143]; exact hFq_132.f (by decide)
                  unfold zX5_run_s22_s25_s2_s20_s10_208
                  try have t_149 : Int32.toInt (x8_38 + 1) = Int32.toInt x8_38 + 1 := ti_add rfl (by decide) (by omega) (by omega)
                  exact hk_33 (q_143, ((((((r_1)))))), x7_16, (x8_38 + 1)) (show (TC q_143) ∧ (cFr [3, 4, 12, 19, 21, 23] [(2, 3), (2, 4), (10, 2), (18, 1), (22, 2), (22, 3)] q_14 q_143) ∧ (((((((r_1)))))) = ((r_1))) ∧ (x7_16 = x7_16) ∧ (0 ≤ Int32.toInt (x8_38 + 1)) from ⟨hTq_143, (by rw [eq_143]; exact ((by rw [eq_132]; exact (((((((((((cFr.rf : cFr [3, 4, 12, 19, 21, 23] [(2, 3), (2, 4), (10, 2), (18, 1), (22, 2), (22, 3)] q_14 q_14).t a_40 (by decide) (by decide)) : cFr [3, 4, 12, 19, 21, 23] [(2, 3), (2, 4), (10, 2), (18, 1), (22, 2), (22, 3)] q_14 q_35).t i_54 (by decide) (by decide)) : cFr [3, 4, 12, 19, 21, 23] [(2, 3), (2, 4), (10, 2), (18, 1), (22, 2), (22, 3)] q_14 q_51).t i_63 (by decide) (by decide)) : cFr [3, 4, 12, 19, 21, 23] [(2, 3), (2, 4), (10, 2), (18, 1), (22, 2), (22, 3)] q_14 q_60).t i_81 (by decide) (by decide)) : cFr [3, 4, 12, 19, 21, 23] [(2, 3), (2, 4), (10, 2), (18, 1), (22, 2), (22, 3)] q_14 q_78).t i_131 (by decide) (by decide)) : cFr [3, 4, 12, 19, 21, 23] [(2, 3), (2, 4), (10, 2), (18, 1), (22, 2), (22, 3)] q_14 q_128).f (by decide)) : cFr [3, 4, 12, 19, 21, 23] [(2, 3), (2, 4), (10, 2), (18, 1), (22, 2), (22, 3)] q_14 q_132).f (by decide)), rfl, rfl, by omega⟩) (show (Int32.toInt (q_14.1 27 (Int32.toNatClampNeg x7_16)) - Int32.toInt (x8_38 + 1)).toNat < (Int32.toInt (q_14.1 27 (Int32.toNatClampNeg x7_16)) - Int32.toInt x8_38).toNat by omega)
              · refine dOk_V (ok_X8_unpack_s2 q_78 ((((r_1)))) i_80 (show 0 ≤ Int64.toInt ((((r_1)))) by omega)) (fun q_150 h_151 => ?_)
                replace h_151 : (TC q_150) ∧ (cFr [3, 4] [(2, 2), (2, 3), (2, 4)] q_78 q_150) := h_151
                obtain ⟨i_152, i_153⟩ := h_151
                have hFq_150 : cFr [3, 4, 12, 14, 19, 21, 23] [(2, 2), (2, 3), (2, 4), (10, 2), (10, 5), (18, 1), (22, 2), (22, 3)] q q_150 := hFq_78.t i_153 (by decide) (by decide)
                refine dOk_V (ok_X0_backToMark_s10 q_150 i_152) (fun q_154 h_155 => ?_)
                replace h_155 : (TC q_154) ∧ (cFr [12] [(10, 2)] q_150 q_154) := h_155
                obtain ⟨i_156, i_157⟩ := h_155
                have hFq_154 : cFr [3, 4, 12, 14, 19, 21, 23] [(2, 2), (2, 3), (2, 4), (10, 2), (10, 5), (18, 1), (22, 2), (22, 3)] q q_154 := hFq_150.t i_157 (by decide) (by decide)
                exact dOk_some (show (TC q_154) ∧ (cFr [3, 4, 12, 14, 19, 21, 23] [(2, 2), (2, 3), (2, 4), (10, 2), (10, 5), (18, 1), (22, 2), (22, 3)] q q_154) from ⟨i_156, hFq_154⟩)
          · unfold zX5_run_s22_s25_s2_s20_s10_208
            try have t_158 : Int32.toInt (x8_38 + 1) = Int32.toInt x8_38 + 1 := ti_add rfl (by decide) (by omega) (by omega)
            exact hk_33 (q_60, ((((r_1)))), x7_16, (x8_38 + 1)) (show (TC q_60) ∧ (cFr [3, 4, 12, 19, 21, 23] [(2, 3), (2, 4), (10, 2), (18, 1), (22, 2), (22, 3)] q_14 q_60) ∧ (((((r_1)))) = ((r_1))) ∧ (x7_16 = x7_16) ∧ (0 ≤ Int32.toInt (x8_38 + 1)) from ⟨i_62, ((((((cFr.rf : cFr [3, 4, 12, 19, 21, 23] [(2, 3), (2, 4), (10, 2), (18, 1), (22, 2), (22, 3)] q_14 q_14).t a_40 (by decide) (by decide)) : cFr [3, 4, 12, 19, 21, 23] [(2, 3), (2, 4), (10, 2), (18, 1), (22, 2), (22, 3)] q_14 q_35).t i_54 (by decide) (by decide)) : cFr [3, 4, 12, 19, 21, 23] [(2, 3), (2, 4), (10, 2), (18, 1), (22, 2), (22, 3)] q_14 q_51).t i_63 (by decide) (by decide)), rfl, rfl, by omega⟩) (show (Int32.toInt (q_14.1 27 (Int32.toNatClampNeg x7_16)) - Int32.toInt (x8_38 + 1)).toNat < (Int32.toInt (q_14.1 27 (Int32.toNatClampNeg x7_16)) - Int32.toInt x8_38).toNat by omega)
      · exact (show (TC q_14) ∧ (cFr [3, 4, 12, 19, 21, 23] [(2, 3), (2, 4), (10, 2), (18, 1), (22, 2), (22, 3)] q_14 q_14) ∧ (((r_1)) = ((r_1))) ∧ (x7_16 = x7_16) ∧ (0 ≤ (0 : Int)) from ⟨a_17, cFr.rf, rfl, rfl, by omega⟩)
      · have hm9 := ti_rg (q_14.1 27 (Int32.toNatClampNeg x7_16))
        show (Int32.toInt (q_14.1 27 (Int32.toNatClampNeg x7_16)) - (0 : Int)).toNat < 1000000000000
        omega
  · exact (show (TC q_11) ∧ (cFr [3, 4, 12, 19, 21, 23] [(2, 3), (2, 4), (10, 2), (18, 1), (22, 2), (22, 3)] q_11 q_11) ∧ ((r_1) = (r_1)) ∧ (0 ≤ (0 : Int)) ∧ ((0 : Int) ≤ 12) from ⟨hTq_11, cFr.rf, rfl, by omega, by omega⟩)
  · show (12 - (0 : Int)).toNat < 1000000000000
    omega

set_option maxHeartbeats 4000000 in
set_option maxRecDepth 100000 in
theorem ok_X9_orders_s0 (q : dK) (hT : TC q) : dOk (zX9_orders_s0 q) (fun (o : Int32 × dK) => (TC o.2) ∧ (cFr [3, 4, 12, 14, 19, 21, 23, 26, 27, 28, 29, 30, 31, 48] [(0, 12), (0, 13), (0, 15), (0, 18), (2, 2), (2, 3), (2, 4), (10, 2), (10, 5), (18, 1), (20, 2), (22, 2), (22, 3), (24, 0), (24, 1), (24, 2), (24, 3), (24, 4), (24, 5), (24, 6), (24, 7), (24, 8), (24, 9), (24, 10), (25, 6), (25, 7)] q o.2) ∧ (Int32.toInt (o.2.1 0 12) = 0)) := by
  unfold zX9_orders_s0
  refine dOk_L (fun q_1 eq_1 => ?_)
  have hTq_1 : TC q_1 := by rw [eq_1]; exact st_0_12 hT (show (0 : Int) ≤ (0 : Int) by omega) (show (0 : Int) ≤ (400 : Int) by omega)
  have hFq_1 : cFr [3, 4, 12, 14, 19, 21, 23, 26, 27, 28, 29, 30, 31, 48] [(0, 12), (0, 13), (0, 15), (0, 18), (2, 2), (2, 3), (2, 4), (10, 2), (10, 5), (18, 1), (20, 2), (22, 2), (22, 3), (24, 0), (24, 1), (24, 2), (24, 3), (24, 4), (24, 5), (24, 6), (24, 7), (24, 8), (24, 9), (24, 10), (25, 6), (25, 7)] q q_1 := by rw [eq_1]; exact (cFr.rf (q := q)).f (by decide)
  refine dOk_L (fun q_2 eq_2 => ?_)
  have hTq_2 : TC q_2 := by rw [eq_2]; exact sa_0_15 hTq_1
  have hFq_2 : cFr [3, 4, 12, 14, 19, 21, 23, 26, 27, 28, 29, 30, 31, 48] [(0, 12), (0, 13), (0, 15), (0, 18), (2, 2), (2, 3), (2, 4), (10, 2), (10, 5), (18, 1), (20, 2), (22, 2), (22, 3), (24, 0), (24, 1), (24, 2), (24, 3), (24, 4), (24, 5), (24, 6), (24, 7), (24, 8), (24, 9), (24, 10), (25, 6), (25, 7)] q q_2 := by rw [eq_2]; exact hFq_1.f (by decide)
  have f_3 : 0 ≤ Int32.toInt (q.1 0 12) ∧ Int32.toInt (q.1 0 12) ≤ 400 := rg_0_12 hT
  refine dOk_B (ok_X4_read_s24_s46_s25 q_2 (q.1 0 12) 1 hTq_2 (show 0 ≤ Int32.toInt (q.1 0 12) by omega) (show (1 : Int) = 0 ∨ (1 : Int) = 1 by omega)) (fun r_4 q_5 h_6 => ?_)
  replace h_6 : (TC q_5) ∧ (cFr [26, 27, 28, 29, 30, 31] [(24, 0), (24, 1), (24, 2), (24, 3), (24, 4), (24, 5), (24, 6), (24, 7), (24, 8), (24, 9), (24, 10), (25, 6), (25, 7)] q_2 q_5) := h_6
  obtain ⟨i_7, i_8⟩ := h_6
  have hFq_5 : cFr [3, 4, 12, 14, 19, 21, 23, 26, 27, 28, 29, 30, 31, 48] [(0, 12), (0, 13), (0, 15), (0, 18), (2, 2), (2, 3), (2, 4), (10, 2), (10, 5), (18, 1), (20, 2), (22, 2), (22, 3), (24, 0), (24, 1), (24, 2), (24, 3), (24, 4), (24, 5), (24, 6), (24, 7), (24, 8), (24, 9), (24, 10), (25, 6), (25, 7)] q q_5 := hFq_2.t i_8 (by decide) (by decide)
  refine dOk_L (fun q_9 eq_9 => ?_)
  have hTq_9 : TC q_9 := by rw [eq_9]; exact sa_0_13 i_7
  have hFq_9 : cFr [3, 4, 12, 14, 19, 21, 23, 26, 27, 28, 29, 30, 31, 48] [(0, 12), (0, 13), (0, 15), (0, 18), (2, 2), (2, 3), (2, 4), (10, 2), (10, 5), (18, 1), (20, 2), (22, 2), (22, 3), (24, 0), (24, 1), (24, 2), (24, 3), (24, 4), (24, 5), (24, 6), (24, 7), (24, 8), (24, 9), (24, 10), (25, 6), (25, 7)] q q_9 := by rw [eq_9]; exact hFq_5.f (by decide)
  have w_10 : Int32.toInt (q_9.1 0 13) = Int32.toInt r_4 := by rw [eq_9, cui_e]
  refine dOk_eq (A := Int32.toInt (q_9.1 0 13)) (B := (-1)) rfl (by decide) (fun c_11z c_11 => ?_) (fun c_12z c_12 => ?_)
  · refine dOk_V (ok_X9_seated_s0 q_9 hTq_9) (fun q_14 h_15 => ?_)
    replace h_15 : (TC q_14) ∧ (cFr [21] [(20, 2)] q_9 q_14) := h_15
    obtain ⟨i_16, i_17⟩ := h_15
    have hFq_14 : cFr [3, 4, 12, 14, 19, 21, 23, 26, 27, 28, 29, 30, 31, 48] [(0, 12), (0, 13), (0, 15), (0, 18), (2, 2), (2, 3), (2, 4), (10, 2), (10, 5), (18, 1), (20, 2), (22, 2), (22, 3), (24, 0), (24, 1), (24, 2), (24, 3), (24, 4), (24, 5), (24, 6), (24, 7), (24, 8), (24, 9), (24, 10), (25, 6), (25, 7)] q q_14 := hFq_9.t i_17 (by decide) (by decide)
    refine dOk_B (ok_X5_run_s22_s25_s2_s20_s10 q_14 i_16) (fun r_18 q_19 h_20 => ?_)
    replace h_20 : (TC q_19) ∧ (cFr [3, 4, 12, 14, 19, 21, 23] [(2, 2), (2, 3), (2, 4), (10, 2), (10, 5), (18, 1), (22, 2), (22, 3)] q_14 q_19) := h_20
    obtain ⟨i_21, i_22⟩ := h_20
    have hFq_19 : cFr [3, 4, 12, 14, 19, 21, 23, 26, 27, 28, 29, 30, 31, 48] [(0, 12), (0, 13), (0, 15), (0, 18), (2, 2), (2, 3), (2, 4), (10, 2), (10, 5), (18, 1), (20, 2), (22, 2), (22, 3), (24, 0), (24, 1), (24, 2), (24, 3), (24, 4), (24, 5), (24, 6), (24, 7), (24, 8), (24, 9), (24, 10), (25, 6), (25, 7)] q q_19 := hFq_14.t i_22 (by decide) (by decide)
    refine dOk_L (fun q_23 eq_23 => ?_)
    have hTq_23 : TC q_23 := by rw [eq_23]; exact sa_0_15 i_21
    have hFq_23 : cFr [3, 4, 12, 14, 19, 21, 23, 26, 27, 28, 29, 30, 31, 48] [(0, 12), (0, 13), (0, 15), (0, 18), (2, 2), (2, 3), (2, 4), (10, 2), (10, 5), (18, 1), (20, 2), (22, 2), (22, 3), (24, 0), (24, 1), (24, 2), (24, 3), (24, 4), (24, 5), (24, 6), (24, 7), (24, 8), (24, 9), (24, 10), (25, 6), (25, 7)] q q_23 := by rw [eq_23]; exact hFq_19.f (by decide)
    have w_24 : Int32.toInt (q_23.1 0 15) = Int32.toInt r_18 := by rw [eq_23, cui_e]
    refine dOk_eq (A := Int32.toInt (q_23.1 0 15)) (B := (-1)) rfl (by decide) (fun c_25z c_25 => ?_) (fun c_26z c_26 => ?_)
    · have w_28 : Int32.toInt (q_23.1 22 2) = Int32.toInt (q_19.1 22 2) := by rw [eq_23, cui_o (by decide)]
      refine dOk_B (ok_X9_accept_s0 q_23 (q_23.1 22 2) hTq_23) (fun r_29 q_30 h_31 => ?_)
      replace h_31 : (TC q_30) ∧ (cFr [] [(0, 18)] q_23 q_30) ∧ (Int32.toInt r_29 = Int32.toInt (q_23.1 22 2)) := h_31
      obtain ⟨i_32, i_33, i_34⟩ := h_31
      have hFq_30 : cFr [3, 4, 12, 14, 19, 21, 23, 26, 27, 28, 29, 30, 31, 48] [(0, 12), (0, 13), (0, 15), (0, 18), (2, 2), (2, 3), (2, 4), (10, 2), (10, 5), (18, 1), (20, 2), (22, 2), (22, 3), (24, 0), (24, 1), (24, 2), (24, 3), (24, 4), (24, 5), (24, 6), (24, 7), (24, 8), (24, 9), (24, 10), (25, 6), (25, 7)] q q_30 := hFq_23.t i_33 (by decide) (by decide)
      unfold zX9_orders_s0_109
      have f_35 : 0 ≤ Int32.toInt (q_30.1 0 12) ∧ Int32.toInt (q_30.1 0 12) ≤ 400 := rg_0_12 i_32
      have f_36 : 0 ≤ Int32.toInt (q_23.1 0 12) ∧ Int32.toInt (q_23.1 0 12) ≤ 400 := rg_0_12 hTq_23
      have f_37 : 0 ≤ Int32.toInt (q_19.1 0 12) ∧ Int32.toInt (q_19.1 0 12) ≤ 400 := rg_0_12 i_21
      have f_38 : 0 ≤ Int32.toInt (q_14.1 0 12) ∧ Int32.toInt (q_14.1 0 12) ≤ 400 := rg_0_12 i_16
      have f_39 : 0 ≤ Int32.toInt (q_9.1 0 12) ∧ Int32.toInt (q_9.1 0 12) ≤ 400 := rg_0_12 hTq_9
      have f_40 : 0 ≤ Int32.toInt (q_5.1 0 12) ∧ Int32.toInt (q_5.1 0 12) ≤ 400 := rg_0_12 i_7
      have f_41 : 0 ≤ Int32.toInt (q_2.1 0 12) ∧ Int32.toInt (q_2.1 0 12) ≤ 400 := rg_0_12 hTq_2
      have f_42 : 0 ≤ Int32.toInt (q_1.1 0 12) ∧ Int32.toInt (q_1.1 0 12) ≤ 400 := rg_0_12 hTq_1
      have w_43 : Int32.toInt (q_1.1 0 12) = (0 : Int) := by rw [eq_1, cui_e]; decide
      have w_44 : Int32.toInt (q_2.1 0 12) = Int32.toInt (q_1.1 0 12) := by rw [eq_2, cui_n (by decide)]
      have w_45 : Int32.toInt (q_5.1 0 12) = Int32.toInt (q_2.1 0 12) := by rw [i_8.1 0 12 (by decide) (by decide)]
      have w_46 : Int32.toInt (q_9.1 0 12) = Int32.toInt (q_5.1 0 12) := by rw [eq_9, cui_n (by decide)]
      have w_47 : Int32.toInt (q_14.1 0 12) = Int32.toInt (q_9.1 0 12) := by rw [i_17.1 0 12 (by decide) (by decide)]
      have w_48 : Int32.toInt (q_19.1 0 12) = Int32.toInt (q_14.1 0 12) := by rw [i_22.1 0 12 (by decide) (by decide)]
      have w_49 : Int32.toInt (q_23.1 0 12) = Int32.toInt (q_19.1 0 12) := by rw [eq_23, cui_n (by decide)]
      have w_50 : Int32.toInt (q_30.1 0 12) = Int32.toInt (q_23.1 0 12) := by rw [i_33.1 0 12 (by decide) (by decide)]
      exact dOk_some (show (TC q_30) ∧ (cFr [3, 4, 12, 14, 19, 21, 23, 26, 27, 28, 29, 30, 31, 48] [(0, 12), (0, 13), (0, 15), (0, 18), (2, 2), (2, 3), (2, 4), (10, 2), (10, 5), (18, 1), (20, 2), (22, 2), (22, 3), (24, 0), (24, 1), (24, 2), (24, 3), (24, 4), (24, 5), (24, 6), (24, 7), (24, 8), (24, 9), (24, 10), (25, 6), (25, 7)] q q_30) ∧ (Int32.toInt (q_30.1 0 12) = 0) from ⟨i_32, hFq_30, by omega⟩)
    · refine dOk_B (ok_X9_refuse_s0 q_23 (-3) hTq_23) (fun r_51 q_52 h_53 => ?_)
      replace h_53 : (TC q_52) ∧ (cFr [48] [(0, 18)] q_23 q_52) ∧ (Int32.toInt r_51 = (-3 : Int)) := h_53
      obtain ⟨i_54, i_55, i_56⟩ := h_53
      have hFq_52 : cFr [3, 4, 12, 14, 19, 21, 23, 26, 27, 28, 29, 30, 31, 48] [(0, 12), (0, 13), (0, 15), (0, 18), (2, 2), (2, 3), (2, 4), (10, 2), (10, 5), (18, 1), (20, 2), (22, 2), (22, 3), (24, 0), (24, 1), (24, 2), (24, 3), (24, 4), (24, 5), (24, 6), (24, 7), (24, 8), (24, 9), (24, 10), (25, 6), (25, 7)] q q_52 := hFq_23.t i_55 (by decide) (by decide)
      unfold zX9_orders_s0_109
      have f_57 : 0 ≤ Int32.toInt (q_52.1 0 12) ∧ Int32.toInt (q_52.1 0 12) ≤ 400 := rg_0_12 i_54
      have f_58 : 0 ≤ Int32.toInt (q_23.1 0 12) ∧ Int32.toInt (q_23.1 0 12) ≤ 400 := rg_0_12 hTq_23
      have f_59 : 0 ≤ Int32.toInt (q_19.1 0 12) ∧ Int32.toInt (q_19.1 0 12) ≤ 400 := rg_0_12 i_21
      have f_60 : 0 ≤ Int32.toInt (q_14.1 0 12) ∧ Int32.toInt (q_14.1 0 12) ≤ 400 := rg_0_12 i_16
      have f_61 : 0 ≤ Int32.toInt (q_9.1 0 12) ∧ Int32.toInt (q_9.1 0 12) ≤ 400 := rg_0_12 hTq_9
      have f_62 : 0 ≤ Int32.toInt (q_5.1 0 12) ∧ Int32.toInt (q_5.1 0 12) ≤ 400 := rg_0_12 i_7
      have f_63 : 0 ≤ Int32.toInt (q_2.1 0 12) ∧ Int32.toInt (q_2.1 0 12) ≤ 400 := rg_0_12 hTq_2
      have f_64 : 0 ≤ Int32.toInt (q_1.1 0 12) ∧ Int32.toInt (q_1.1 0 12) ≤ 400 := rg_0_12 hTq_1
      have w_65 : Int32.toInt (q_1.1 0 12) = (0 : Int) := by rw [eq_1, cui_e]; decide
      have w_66 : Int32.toInt (q_2.1 0 12) = Int32.toInt (q_1.1 0 12) := by rw [eq_2, cui_n (by decide)]
      have w_67 : Int32.toInt (q_5.1 0 12) = Int32.toInt (q_2.1 0 12) := by rw [i_8.1 0 12 (by decide) (by decide)]
      have w_68 : Int32.toInt (q_9.1 0 12) = Int32.toInt (q_5.1 0 12) := by rw [eq_9, cui_n (by decide)]
      have w_69 : Int32.toInt (q_14.1 0 12) = Int32.toInt (q_9.1 0 12) := by rw [i_17.1 0 12 (by decide) (by decide)]
      have w_70 : Int32.toInt (q_19.1 0 12) = Int32.toInt (q_14.1 0 12) := by rw [i_22.1 0 12 (by decide) (by decide)]
      have w_71 : Int32.toInt (q_23.1 0 12) = Int32.toInt (q_19.1 0 12) := by rw [eq_23, cui_n (by decide)]
      have w_72 : Int32.toInt (q_52.1 0 12) = Int32.toInt (q_23.1 0 12) := by rw [i_55.1 0 12 (by decide) (by decide)]
      exact dOk_some (show (TC q_52) ∧ (cFr [3, 4, 12, 14, 19, 21, 23, 26, 27, 28, 29, 30, 31, 48] [(0, 12), (0, 13), (0, 15), (0, 18), (2, 2), (2, 3), (2, 4), (10, 2), (10, 5), (18, 1), (20, 2), (22, 2), (22, 3), (24, 0), (24, 1), (24, 2), (24, 3), (24, 4), (24, 5), (24, 6), (24, 7), (24, 8), (24, 9), (24, 10), (25, 6), (25, 7)] q q_52) ∧ (Int32.toInt (q_52.1 0 12) = 0) from ⟨i_54, hFq_52, by omega⟩)
  · refine dOk_B (ok_X9_refuse_s0 q_9 (-6) hTq_9) (fun r_73 q_74 h_75 => ?_)
    replace h_75 : (TC q_74) ∧ (cFr [48] [(0, 18)] q_9 q_74) ∧ (Int32.toInt r_73 = (-6 : Int)) := h_75
    obtain ⟨i_76, i_77, i_78⟩ := h_75
    have hFq_74 : cFr [3, 4, 12, 14, 19, 21, 23, 26, 27, 28, 29, 30, 31, 48] [(0, 12), (0, 13), (0, 15), (0, 18), (2, 2), (2, 3), (2, 4), (10, 2), (10, 5), (18, 1), (20, 2), (22, 2), (22, 3), (24, 0), (24, 1), (24, 2), (24, 3), (24, 4), (24, 5), (24, 6), (24, 7), (24, 8), (24, 9), (24, 10), (25, 6), (25, 7)] q q_74 := hFq_9.t i_77 (by decide) (by decide)
    have f_79 : 0 ≤ Int32.toInt (q_74.1 0 12) ∧ Int32.toInt (q_74.1 0 12) ≤ 400 := rg_0_12 i_76
    have f_80 : 0 ≤ Int32.toInt (q_9.1 0 12) ∧ Int32.toInt (q_9.1 0 12) ≤ 400 := rg_0_12 hTq_9
    have f_81 : 0 ≤ Int32.toInt (q_5.1 0 12) ∧ Int32.toInt (q_5.1 0 12) ≤ 400 := rg_0_12 i_7
    have f_82 : 0 ≤ Int32.toInt (q_2.1 0 12) ∧ Int32.toInt (q_2.1 0 12) ≤ 400 := rg_0_12 hTq_2
    have f_83 : 0 ≤ Int32.toInt (q_1.1 0 12) ∧ Int32.toInt (q_1.1 0 12) ≤ 400 := rg_0_12 hTq_1
    have w_84 : Int32.toInt (q_1.1 0 12) = (0 : Int) := by rw [eq_1, cui_e]; decide
    have w_85 : Int32.toInt (q_2.1 0 12) = Int32.toInt (q_1.1 0 12) := by rw [eq_2, cui_n (by decide)]
    have w_86 : Int32.toInt (q_5.1 0 12) = Int32.toInt (q_2.1 0 12) := by rw [i_8.1 0 12 (by decide) (by decide)]
    have w_87 : Int32.toInt (q_9.1 0 12) = Int32.toInt (q_5.1 0 12) := by rw [eq_9, cui_n (by decide)]
    have w_88 : Int32.toInt (q_74.1 0 12) = Int32.toInt (q_9.1 0 12) := by rw [i_77.1 0 12 (by decide) (by decide)]
    exact dOk_some (show (TC q_74) ∧ (cFr [3, 4, 12, 14, 19, 21, 23, 26, 27, 28, 29, 30, 31, 48] [(0, 12), (0, 13), (0, 15), (0, 18), (2, 2), (2, 3), (2, 4), (10, 2), (10, 5), (18, 1), (20, 2), (22, 2), (22, 3), (24, 0), (24, 1), (24, 2), (24, 3), (24, 4), (24, 5), (24, 6), (24, 7), (24, 8), (24, 9), (24, 10), (25, 6), (25, 7)] q q_74) ∧ (Int32.toInt (q_74.1 0 12) = 0) from ⟨i_76, hFq_74, by omega⟩)
end
