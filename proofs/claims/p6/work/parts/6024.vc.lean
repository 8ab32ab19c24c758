set_option maxHeartbeats 4000000 in
set_option maxRecDepth 100000 in
theorem ok_X9_years_s0 (q : dK) (p1 : Int32) (p2 : Int32) (hT : TC q) : dOk (zX9_years_s0 q p1 p2) (fun (o : Int32 × dK) => (TC o.2) ∧ (cFr [16, 17, 19, 21, 48] [(0, 18), (15, 2), (15, 3), (15, 4), (18, 1), (20, 2)] q o.2)) := by
  unfold zX9_years_s0
  refine dOk_lt (A := Int32.toInt p1) (B := 0) rfl (by decide) (fun c_1 => ?_) (fun c_2 => ?_)
  · unfold zX9_years_s0_22
    refine dOk_B (ok_X9_refuse_s0 q (-1) hT) (fun r_3 q_4 h_5 => ?_)
    replace h_5 : (TC q_4) ∧ (cFr [48] [(0, 18)] q q_4) ∧ (Int32.toInt r_3 = (-1 : Int)) := h_5
    obtain ⟨i_6, i_7, i_8⟩ := h_5
    have hFq_4 : cFr [16, 17, 19, 21, 48] [(0, 18), (15, 2), (15, 3), (15, 4), (18, 1), (20, 2)] q q_4 := (cFr.rf (q := q)).t i_7 (by decide) (by decide)
    exact dOk_some (show (TC q_4) ∧ (cFr [16, 17, 19, 21, 48] [(0, 18), (15, 2), (15, 3), (15, 4), (18, 1), (20, 2)] q q_4) from ⟨i_6, hFq_4⟩)
  · refine dOk_lt (A := 1000000) (B := Int32.toInt p1) (by decide) rfl (fun c_9 => ?_) (fun c_10 => ?_)
    · unfold zX9_years_s0_22
      refine dOk_B (ok_X9_refuse_s0 q (-1) hT) (fun r_11 q_12 h_13 => ?_)
      replace h_13 : (TC q_12) ∧ (cFr [48] [(0, 18)] q q_12) ∧ (Int32.toInt r_11 = (-1 : Int)) := h_13
      obtain ⟨i_14, i_15, i_16⟩ := h_13
      have hFq_12 : cFr [16, 17, 19, 21, 48] [(0, 18), (15, 2), (15, 3), (15, 4), (18, 1), (20, 2)] q q_12 := (cFr.rf (q := q)).t i_15 (by decide) (by decide)
      exact dOk_some (show (TC q_12) ∧ (cFr [16, 17, 19, 21, 48] [(0, 18), (15, 2), (15, 3), (15, 4), (18, 1), (20, 2)] q q_12) from ⟨i_14, hFq_12⟩)
    · refine dOk_lt (A := Int32.toInt p2) (B := 1) rfl (by decide) (fun c_17 => ?_) (fun c_18 => ?_)
      · unfold zX9_years_s0_22
        refine dOk_B (ok_X9_refuse_s0 q (-1) hT) (fun r_19 q_20 h_21 => ?_)
        replace h_21 : (TC q_20) ∧ (cFr [48] [(0, 18)] q q_20) ∧ (Int32.toInt r_19 = (-1 : Int)) := h_21
        obtain ⟨i_22, i_23, i_24⟩ := h_21
        have hFq_20 : cFr [16, 17, 19, 21, 48] [(0, 18), (15, 2), (15, 3), (15, 4), (18, 1), (20, 2)] q q_20 := (cFr.rf (q := q)).t i_23 (by decide) (by decide)
        exact dOk_some (show (TC q_20) ∧ (cFr [16, 17, 19, 21, 48] [(0, 18), (15, 2), (15, 3), (15, 4), (18, 1), (20, 2)] q q_20) from ⟨i_22, hFq_20⟩)
      · refine dOk_le (A := Int32.toInt p2) (B := 60) rfl (by decide) (fun c_25 => ?_) (fun c_26 => ?_)
        · have f_27 : 0 ≤ Int32.toInt (q.1 2 2) ∧ Int32.toInt (q.1 2 2) ≤ 6 := rg_2_2 hT
          refine dOk_eq (A := Int32.toInt (q.1 2 2)) (B := 0) rfl (by decide) (fun c_28z c_28 => ?_) (fun c_29z c_29 => ?_)
          · refine dOk_B (ok_X9_refuse_s0 q (-3) hT) (fun r_31 q_32 h_33 => ?_)
            replace h_33 : (TC q_32) ∧ (cFr [48] [(0, 18)] q q_32) ∧ (Int32.toInt r_31 = (-3 : Int)) := h_33
            obtain ⟨i_34, i_35, i_36⟩ := h_33
            have hFq_32 : cFr [16, 17, 19, 21, 48] [(0, 18), (15, 2), (15, 3), (15, 4), (18, 1), (20, 2)] q q_32 := (cFr.rf (q := q)).t i_35 (by decide) (by decide)
            exact dOk_some (show (TC q_32) ∧ (cFr [16, 17, 19, 21, 48] [(0, 18), (15, 2), (15, 3), (15, 4), (18, 1), (20, 2)] q q_32) from ⟨i_34, hFq_32⟩)
          · refine dOk_B (ok_X8_pack_s2 q hT) (fun r_37 q_38 h_39 => ?_)
            replace h_39 : (q_38 = q) ∧ (0 ≤ Int64.toInt r_37) := h_39
            obtain ⟨i_40, i_41⟩ := h_39
            subst q_38
            refine dOk_V (ok_X8_unpack_s15 q (r_37) hT (show 0 ≤ Int64.toInt (r_37) by omega)) (fun q_42 h_43 => ?_)
            replace h_43 : (TC q_42) ∧ (cFr [16, 17] [(15, 2), (15, 3), (15, 4)] q q_42) := h_43
            obtain ⟨i_44, i_45⟩ := h_43
            have hFq_42 : cFr [16, 17, 19, 21, 48] [(0, 18), (15, 2), (15, 3), (15, 4), (18, 1), (20, 2)] q q_42 := (cFr.rf (q := q)).t i_45 (by decide) (by decide)
            refine dOk_V (ok_X9_seated_s0 q_42 i_44) (fun q_46 h_47 => ?_)
            replace h_47 : (TC q_46) ∧ (cFr [21] [(20, 2)] q_42 q_46) := h_47
            obtain ⟨i_48, i_49⟩ := h_47
            have hFq_46 : cFr [16, 17, 19, 21, 48] [(0, 18), (15, 2), (15, 3), (15, 4), (18, 1), (20, 2)] q q_46 := hFq_42.t i_49 (by decide) (by decide)
            unfold zX9_years_s0_75
            refine dFix_ok (fun (a : dK × Int32 × Int32 × Int32) => (TC a.1) ∧ (cFr [16, 17, 19, 21] [(15, 3), (15, 4), (18, 1)] q_46 a.1) ∧ (a.2.1 = p2) ∧ (0 ≤ Int32.toInt a.2.2.2) ∧ (Int32.toInt a.2.2.2 ≤ 60) ∧ (0 ≤ Int32.toInt a.2.2.1 ∧ Int32.toInt a.2.2.1 ≤ 1000002)) (fun (a : dK × Int32 × Int32 × Int32) => (60 - Int32.toInt a.2.2.2).toNat) ?_ _ ?_ _ (dF_gt ?_)
            · intro a ha k_51 hk_50
              obtain ⟨q_52, x2_53, x3_54, x4_55⟩ := a
              replace ha : (TC q_52) ∧ (cFr [16, 17, 19, 21] [(15, 3), (15, 4), (18, 1)] q_46 q_52) ∧ (x2_53 = p2) ∧ (0 ≤ Int32.toInt x4_55) ∧ (Int32.toInt x4_55 ≤ 60) ∧ (0 ≤ Int32.toInt x3_54 ∧ Int32.toInt x3_54 ≤ 1000002) := ha
              obtain ⟨a_56, a_57, a_58, a_59, a_60, a_61⟩ := ha
              show dOk (zX9_years_s0_75b  (fun q x2 x3 x4 => k_51 (q, x2, x3, x4)) q_52 x2_53 x3_54 x4_55) _
              unfold zX9_years_s0_75b
              have hFq_52 : cFr [16, 17, 19, 21, 48] [(0, 18), (15, 2), (15, 3), (15, 4), (18, 1), (20, 2)] q q_52 := hFq_46.t a_57 (by decide) (by decide)
              subst x2_53
              refine dOk_le (A := Int32.toInt p2) (B := Int32.toInt x4_55) rfl rfl (fun c_62 => ?_) (fun c_63 => ?_)
              · unfold zX9_years_s0_172
                have f_64 : 0 ≤ Int32.toInt (q_52.1 15 3) ∧ Int32.toInt (q_52.1 15 3) ≤ 16383 := rg_15_3 a_56
                have f_65 : 0 ≤ Int32.toInt (q_52.1 2 3) ∧ Int32.toInt (q_52.1 2 3) ≤ 16383 := rg_2_3 a_56
                have f_66 : 0 ≤ Int32.toInt (q_46.1 2 3) ∧ Int32.toInt (q_46.1 2 3) ≤ 16383 := rg_2_3 i_48
                have f_67 : 0 ≤ Int32.toInt (q_42.1 2 3) ∧ Int32.toInt (q_42.1 2 3) ≤ 16383 := rg_2_3 i_44
                have f_68 : 0 ≤ Int32.toInt (q.1 2 3) ∧ Int32.toInt (q.1 2 3) ≤ 16383 := rg_2_3 hT
                have w_69 : Int32.toInt (q_42.1 2 3) = Int32.toInt (q.1 2 3) := by rw [i_45.1 2 3 (by decide) (by decide)]
                have w_70 : Int32.toInt (q_46.1 2 3) = Int32.toInt (q_42.1 2 3) := by rw [i_49.1 2 3 (by decide) (by decide)]
                have w_71 : Int32.toInt (q_52.1 2 3) = Int32.toInt (q_46.1 2 3) := by rw [a_57.1 2 3 (by decide) (by decide)]
                try have t_72 : Int32.toInt (q_52.1 15 3 - q_52.1 2 3) = Int32.toInt (q_52.1 15 3) - Int32.toInt (q_52.1 2 3) := ti_sub rfl rfl (by omega) (by omega)
                refine dOk_B (ok_X9_accept_s0 q_52 (q_52.1 15 3 - q_52.1 2 3) a_56) (fun r_73 q_74 h_75 => ?_)
                replace h_75 : (TC q_74) ∧ (cFr [] [(0, 18)] q_52 q_74) ∧ (Int32.toInt r_73 = Int32.toInt (q_52.1 15 3 - q_52.1 2 3)) := h_75
                obtain ⟨i_76, i_77, i_78⟩ := h_75
                have hFq_74 : cFr [16, 17, 19, 21, 48] [(0, 18), (15, 2), (15, 3), (15, 4), (18, 1), (20, 2)] q q_74 := hFq_52.t i_77 (by decide) (by decide)
                exact dOk_some (show (TC q_74) ∧ (cFr [16, 17, 19, 21, 48] [(0, 18), (15, 2), (15, 3), (15, 4), (18, 1), (20, 2)] q q_74) from ⟨i_76, hFq_74⟩)
              · have f_79 : 0 ≤ Int32.toInt (q_52.1 15 4) ∧ Int32.toInt (q_52.1 15 4) ≤ 1023 := rg_15_4 a_56
                refine dOk_le (A := 999) (B := Int32.toInt (q_52.1 15 4)) (by decide) rfl (fun c_80 => ?_) (fun c_81 => ?_)
                · unfold zX9_years_s0_172
                  have f_82 : 0 ≤ Int32.toInt (q_52.1 15 3) ∧ Int32.toInt (q_52.1 15 3) ≤ 16383 := rg_15_3 a_56
                  have f_83 : 0 ≤ Int32.toInt (q_52.1 2 3) ∧ Int32.toInt (q_52.1 2 3) ≤ 16383 := rg_2_3 a_56
                  have f_84 : 0 ≤ Int32.toInt (q_46.1 2 3) ∧ Int32.toInt (q_46.1 2 3) ≤ 16383 := rg_2_3 i_48
                  have f_85 : 0 ≤ Int32.toInt (q_42.1 2 3) ∧ Int32.toInt (q_42.1 2 3) ≤ 16383 := rg_2_3 i_44
                  have f_86 : 0 ≤ Int32.toInt (q.1 2 3) ∧ Int32.toInt (q.1 2 3) ≤ 16383 := rg_2_3 hT
                  have w_87 : Int32.toInt (q_42.1 2 3) = Int32.toInt (q.1 2 3) := by rw [i_45.1 2 3 (by decide) (by decide)]
                  have w_88 : Int32.toInt (q_46.1 2 3) = Int32.toInt (q_42.1 2 3) := by rw [i_49.1 2 3 (by decide) (by decide)]
                  have w_89 : Int32.toInt (q_52.1 2 3) = Int32.toInt (q_46.1 2 3) := by rw [a_57.1 2 3 (by decide) (by decide)]
                  try have t_90 : Int32.toInt (q_52.1 15 3 - q_52.1 2 3) = Int32.toInt (q_52.1 15 3) - Int32.toInt (q_52.1 2 3) := ti_sub rfl rfl (by omega) (by omega)
                  refine dOk_B (ok_X9_accept_s0 q_52 (q_52.1 15 3 - q_52.1 2 3) a_56) (fun r_91 q_92 h_93 => ?_)
                  replace h_93 : (TC q_92) ∧ (cFr [] [(0, 18)] q_52 q_92) ∧ (Int32.toInt r_91 = Int32.toInt (q_52.1 15 3 - q_52.1 2 3)) := h_93
                  obtain ⟨i_94, i_95, i_96⟩ := h_93
                  have hFq_92 : cFr [16, 17, 19, 21, 48] [(0, 18), (15, 2), (15, 3), (15, 4), (18, 1), (20, 2)] q q_92 := hFq_52.t i_95 (by decide) (by decide)
                  exact dOk_some (show (TC q_92) ∧ (cFr [16, 17, 19, 21, 48] [(0, 18), (15, 2), (15, 3), (15, 4), (18, 1), (20, 2)] q q_92) from ⟨i_94, hFq_92⟩)
                · refine dOk_V (ok_X9_nextDraw x3_54 (show 0 ≤ Int32.toInt x3_54 by omega) (show Int32.toInt x3_54 ≤ 1000002 by omega)) (fun r_97 h_98 => ?_)
                  replace h_98 : (0 ≤ Int32.toInt r_97 ∧ Int32.toInt r_97 ≤ 1000002) := h_98
                  have i_99 := h_98
                  refine dOk_V (ok_X9_nextDraw r_97 (show 0 ≤ Int32.toInt r_97 by omega) (show Int32.toInt r_97 ≤ 1000002 by omega)) (fun r_100 h_101 => ?_)
                  replace h_101 : (0 ≤ Int32.toInt r_100 ∧ Int32.toInt r_100 ≤ 1000002) := h_101
                  have i_102 := h_101
                  try have t_103 : Int32.toInt (r_100 - r_100 / 3 * 3) = Int32.toInt r_100 % 3 := ti_rem rfl (by decide) (by omega) (by omega)
                  refine dOk_eq (A := Int32.toInt (r_100 - r_100 / 3 * 3)) (B := 2) rfl (by decide) (fun c_104z c_104 => ?_) (fun c_105z c_105 => ?_)
                  · try have t_107 : Int32.toInt (r_97 - r_97 / 6 * 6) = Int32.toInt r_97 % 6 := ti_rem rfl (by decide) (by omega) (by omega)
                    refine dOk_B (ok_X8_act_s15_s20 q_52 1 (r_97 - r_97 / 6 * 6) a_56) (fun r_108 q_109 h_110 => ?_)
                    replace h_110 : (TC q_109) ∧ (cFr [16, 17, 19, 21] [(15, 3), (15, 4), (18, 1)] q_52 q_109) ∧ (-3 ≤ Int32.toInt r_108 ∧ Int32.toInt r_108 ≤ 99) := h_110
                    obtain ⟨i_111, i_112, i_113⟩ := h_110
                    have hFq_109 : cFr [16, 17, 19, 21, 48] [(0, 18), (15, 2), (15, 3), (15, 4), (18, 1), (20, 2)] q q_109 := hFq_52.t i_112 (by decide) (by decide)
                    unfold zX9_years_s0_152
                    refine dOk_B (ok_X8_act_s15_s20 q_109 3 0 i_111) (fun r_114 q_115 h_116 => ?_)
                    replace h_116 : (TC q_115) ∧ (cFr [16, 17, 19, 21] [(15, 3), (15, 4), (18, 1)] q_109 q_115) ∧ (-3 ≤ Int32.toInt r_114 ∧ Int32.toInt r_114 ≤ 99) := h_116
                    obtain ⟨i_117, i_118, i_119⟩ := h_116
                    have hFq_115 : cFr [16, 17, 19, 21, 48] [(0, 18), (15, 2), (15, 3), (15, 4), (18, 1), (20, 2)] q q_115 := hFq_109.t i_118 (by decide) (by decide)
                    try have t_120 : Int32.toInt (x4_55 + 1) = Int32.toInt x4_55 + 1 := ti_add rfl (by decide) (by omega) (by omega)
                    exact hk_50 (q_115, p2, r_100, (x4_55 + 1)) (show (TC q_115) ∧ (cFr [16, 17, 19, 21] [(15, 3), (15, 4), (18, 1)] q_46 q_115) ∧ (p2 = p2) ∧ (0 ≤ Int32.toInt (x4_55 + 1)) ∧ (Int32.toInt (x4_55 + 1) ≤ 60) ∧ (0 ≤ Int32.toInt r_100 ∧ Int32.toInt r_100 ≤ 1000002) from ⟨i_117, ((((((cFr.rf : cFr [16, 17, 19, 21] [(15, 3), (15, 4), (18, 1)] q_46 q_46).t a_57 (by decide) (by decide)) : cFr [16, 17, 19, 21] [(15, 3), (15, 4), (18, 1)] q_46 q_52).t i_112 (by decide) (by decide)) : cFr [16, 17, 19, 21] [(15, 3), (15, 4), (18, 1)] q_46 q_109).t i_118 (by decide) (by decide)), rfl, by omega, by omega, by omega⟩) (show (60 - Int32.toInt (x4_55 + 1)).toNat < (60 - Int32.toInt x4_55).toNat by omega)
                  · try have t_121 : Int32.toInt (r_97 - r_97 / 6 * 6) = Int32.toInt r_97 % 6 := ti_rem rfl (by decide) (by omega) (by omega)
                    try have t_122 : Int32.toInt (r_97 - r_97 / 6 * 6 + 1) = Int32.toInt (r_97 - r_97 / 6 * 6) + 1 := ti_add rfl (by decide) (by omega) (by omega)
                    refine dOk_B (ok_X8_act_s15_s20 q_52 0 (r_97 - r_97 / 6 * 6 + 1) a_56) (fun r_123 q_124 h_125 => ?_)
                    replace h_125 : (TC q_124) ∧ (cFr [16, 17, 19, 21] [(15, 3), (15, 4), (18, 1)] q_52 q_124) ∧ (-3 ≤ Int32.toInt r_123 ∧ Int32.toInt r_123 ≤ 99) := h_125
                    obtain ⟨i_126, i_127, i_128⟩ := h_125
                    have hFq_124 : cFr [16, 17, 19, 21, 48] [(0, 18), (15, 2), (15, 3), (15, 4), (18, 1), (20, 2)] q q_124 := hFq_52.t i_127 (by decide) (by decide)
                    unfold zX9_years_s0_152
                    refine dOk_B (ok_X8_act_s15_s20 q_124 3 0 i_126) (fun r_129 q_130 h_131 => ?_)
                    replace h_131 : (TC q_130) ∧ (cFr [16, 17, 19, 21] [(15, 3), (15, 4), (18, 1)] q_124 q_130) ∧ (-3 ≤ Int32.toInt r_129 ∧ Int32.toInt r_129 ≤ 99) := h_131
                    obtain ⟨i_132, i_133, i_134⟩ := h_131
                    have hFq_130 : cFr [16, 17, 19, 21, 48] [(0, 18), (15, 2), (15, 3), (15, 4), (18, 1), (20, 2)] q q_130 := hFq_124.t i_133 (by decide) (by decide)
                    try have t_135 : Int32.toInt (x4_55 + 1) = Int32.toInt x4_55 + 1 := ti_add rfl (by decide) (by omega) (by omega)
                    exact hk_50 (q_130, p2, r_100, (x4_55 + 1)) (show (TC q_130) ∧ (cFr [16, 17, 19, 21] [(15, 3), (15, 4), (18, 1)] q_46 q_130) ∧ (p2 = p2) ∧ (0 ≤ Int32.toInt (x4_55 + 1)) ∧ (Int32.toInt (x4_55 + 1) ≤ 60) ∧ (0 ≤ Int32.toInt r_100 ∧ Int32.toInt r_100 ≤ 1000002) from ⟨i_132, ((((((cFr.rf : cFr [16, 17, 19, 21] [(15, 3), (15, 4), (18, 1)] q_46 q_46).t a_57 (by decide) (by decide)) : cFr [16, 17, 19, 21] [(15, 3), (15, 4), (18, 1)] q_46 q_52).t i_127 (by decide) (by decide)) : cFr [16, 17, 19, 21] [(15, 3), (15, 4), (18, 1)] q_46 q_124).t i_133 (by decide) (by decide)), rfl, by omega, by omega, by omega⟩) (show (60 - Int32.toInt (x4_55 + 1)).toNat < (60 - Int32.toInt x4_55).toNat by omega)
            · exact (show (TC q_46) ∧ (cFr [16, 17, 19, 21] [(15, 3), (15, 4), (18, 1)] q_46 q_46) ∧ (p2 = p2) ∧ (0 ≤ (0 : Int)) ∧ ((0 : Int) ≤ 60) ∧ (0 ≤ Int32.toInt p1 ∧ Int32.toInt p1 ≤ 1000002) from ⟨i_48, cFr.rf, rfl, by omega, by omega, by omega⟩)
            · show (60 - (0 : Int)).toNat < 1000000000000
              omega
        · unfold zX9_years_s0_22
          refine dOk_B (ok_X9_refuse_s0 q (-1) hT) (fun r_136 q_137 h_138 => ?_)
          replace h_138 : (TC q_137) ∧ (cFr [48] [(0, 18)] q q_137) ∧ (Int32.toInt r_136 = (-1 : Int)) := h_138
          obtain ⟨i_139, i_140, i_141⟩ := h_138
          have hFq_137 : cFr [16, 17, 19, 21, 48] [(0, 18), (15, 2), (15, 3), (15, 4), (18, 1), (20, 2)] q q_137 := (cFr.rf (q := q)).t i_140 (by decide) (by decide)
          exact dOk_some (show (TC q_137) ∧ (cFr [16, 17, 19, 21, 48] [(0, 18), (15, 2), (15, 3), (15, 4), (18, 1), (20, 2)] q q_137) from ⟨i_139, hFq_137⟩)

set_option maxHeartbeats 4000000 in
set_option maxRecDepth 100000 in
theorem ok_X4_fail_s24 (q : dK) (hT : TC q) : dOk (zX4_fail_s24 q) (fun (o : dK) => (TC o) ∧ (cFr [] [(24, 10)] q o)) := by
  unfold zX4_fail_s24
  refine dOk_eq (A := Int32.toInt (q.1 24 10)) (B := (-1)) rfl (by decide) (fun c_1z c_1 => ?_) (fun c_2z c_2 => ?_)
  · refine dOk_L (fun q_4 eq_4 => ?_)
    have f_5 : 0 ≤ Int32.toInt (q.1 24 5) ∧ Int32.toInt (q.1 24 5) ≤ 400 := rg_24_5 hT
    have hTq_4 : TC q_4 := by rw [eq_4]; exact sa_24_10 hT
    have hFq_4 : cFr [] [(24, 10)] q q_4 := by rw [eq_4]; exact (cFr.rf (q := q)).f (by decide)
    unfold zX4_fail_s24_16
    exact dOk_some (show (TC q_4) ∧ (cFr [] [(24, 10)] q q_4) from ⟨hTq_4, hFq_4⟩)
  · unfold zX4_fail_s24_16
    exact dOk_some (show (TC q) ∧ (cFr [] [(24, 10)] q q) from ⟨hT, (cFr.rf (q := q))⟩)

set_option maxHeartbeats 4000000 in
set_option maxRecDepth 100000 in
theorem ok_X4_isSign_s24 (q : dK) (p1 : Int32) (hT : TC q) (hp0 : ¬ Int32.toInt (q.1 24 0) = 0) : dOk (zX4_isSign_s24 q p1) (fun (o : Int32 × dK) => (o.2 = q) ∧ ((Int32.toInt o.1 = 0 ∨ Int32.toInt o.1 = 1))) := by
  unfold zX4_isSign_s24
  refine dOk_eq (A := Int32.toInt (q.1 24 4)) (B := 3) rfl (by decide) (fun c_1z c_1 => ?_) (fun c_2z c_2 => ?_)
  · have f_4 : 0 ≤ Int32.toInt (q.1 24 1) ∧ Int32.toInt (q.1 24 1) ≤ 400 := rg_24_1 hT
    have f_5 : 0 ≤ Int32.toInt (q.1 24 5) ∧ Int32.toInt (q.1 24 5) ≤ 400 := rg_24_5 hT
    refine dOk_le (A := Int32.toInt (q.1 24 1)) (B := Int32.toInt (q.1 24 5)) rfl rfl (fun c_6 => ?_) (fun c_7 => ?_)
    · unfold zX4_isSign_s24_36
      unfold zX4_isSign_s24_37
      refine dOk_G (dbl_ok (show (0 : Int) = 0 ∨ (0 : Int) = 1 by omega)) ?_
      exact dOk_some (show (q = q) ∧ (((0 : Int) = 0 ∨ (0 : Int) = 1)) from ⟨rfl, by omega⟩)
    · have f_8 : 0 ≤ Int32.toInt (q.1 24 0) ∧ Int32.toInt (q.1 24 0) ≤ 1 := rg_24_0 hT
      refine dOk_G (dnz_ok (show ¬ Int32.toInt (q.1 24 0) = 0 by omega)) ?_
      refine dOk_G (dg_ok (show 0 ≤ Int32.toInt (q.1 24 5) by omega) (show Int32.toInt (q.1 24 5) < ((400 : Nat) : Int) by omega)) ?_
      have n_9 : ((Int32.toNatClampNeg (q.1 24 5) : Nat) : Int) = Int32.toInt (q.1 24 5) := cl_eq (by omega)
      refine dOk_L (fun v_10 ev_10 => ?_)
      refine dOk_eq (A := Int32.toInt v_10) (B := Int32.toInt p1) rfl rfl (fun c_11z c_11 => ?_) (fun c_12z c_12 => ?_)
      · unfold zX4_isSign_s24_37
        refine dOk_G (dbl_ok (show (1 : Int) = 0 ∨ (1 : Int) = 1 by omega)) ?_
        exact dOk_some (show (q = q) ∧ (((1 : Int) = 0 ∨ (1 : Int) = 1)) from ⟨rfl, by omega⟩)
      · unfold zX4_isSign_s24_36
        unfold zX4_isSign_s24_37
        refine dOk_G (dbl_ok (show (0 : Int) = 0 ∨ (0 : Int) = 1 by omega)) ?_
        exact dOk_some (show (q = q) ∧ (((0 : Int) = 0 ∨ (0 : Int) = 1)) from ⟨rfl, by omega⟩)
  · unfold zX4_isSign_s24_36
    unfold zX4_isSign_s24_37
    refine dOk_G (dbl_ok (show (0 : Int) = 0 ∨ (0 : Int) = 1 by omega)) ?_
    exact dOk_some (show (q = q) ∧ (((0 : Int) = 0 ∨ (0 : Int) = 1)) from ⟨rfl, by omega⟩)

set_option maxHeartbeats 4000000 in
set_option maxRecDepth 100000 in
theorem ok_X4_expectSign_s24 (q : dK) (p1 : Int32) (hT : TC q) (hp0 : ¬ Int32.toInt (q.1 24 0) = 0) : dOk (zX4_expectSign_s24 q p1) (fun (o : dK) => (TC o) ∧ (cFr [] [(24, 4), (24, 5), (24, 6), (24, 7), (24, 10)] q o)) := by
  unfold zX4_expectSign_s24
  have f_1 : 0 ≤ Int32.toInt (q.1 24 0) ∧ Int32.toInt (q.1 24 0) ≤ 1 := rg_24_0 hT
  refine dOk_B (ok_X4_isSign_s24 q p1 hT (show ¬ Int32.toInt (q.1 24 0) = 0 by omega)) (fun r_2 q_3 h_4 => ?_)
  replace h_4 : (q_3 = q) ∧ ((Int32.toInt r_2 = 0 ∨ Int32.toInt r_2 = 1)) := h_4
  obtain ⟨i_5, i_6⟩ := h_4
  subst q_3
  refine dOk_eq (A := Int32.toInt r_2) (B := 0) rfl (by decide) (fun c_7z c_7 => ?_) (fun c_8z c_8 => ?_)
  · refine dOk_V (ok_X4_fail_s24 q hT) (fun q_10 h_11 => ?_)
    replace h_11 : (TC q_10) ∧ (cFr [] [(24, 10)] q q_10) := h_11
    obtain ⟨i_12, i_13⟩ := h_11
    have hFq_10 : cFr [] [(24, 4), (24, 5), (24, 6), (24, 7), (24, 10)] q q_10 := (cFr.rf (q := q)).t i_13 (by decide) (by decide)
    unfold zX4_expectSign_s24_19
    exact dOk_some (show (TC q_10) ∧ (cFr [] [(24, 4), (24, 5), (24, 6), (24, 7), (24, 10)] q q_10) from ⟨i_12, hFq_10⟩)
  · refine dOk_V (ok_X4_step_s24 q hT (show ¬ Int32.toInt (q.1 24 0) = 0 by omega)) (fun q_14 h_15 => ?_)
    replace h_15 : (TC q_14) ∧ (cFr [] [(24, 4), (24, 5), (24, 6), (24, 7)] q q_14) := h_15
    obtain ⟨i_16, i_17⟩ := h_15
    have hFq_14 : cFr [] [(24, 4), (24, 5), (24, 6), (24, 7), (24, 10)] q q_14 := (cFr.rf (q := q)).t i_17 (by decide) (by decide)
    unfold zX4_expectSign_s24_19
    exact dOk_some (show (TC q_14) ∧ (cFr [] [(24, 4), (24, 5), (24, 6), (24, 7), (24, 10)] q q_14) from ⟨i_16, hFq_14⟩)

set_option maxHeartbeats 4000000 in
set_option maxRecDepth 100000 in
theorem ok_X4_openBracket_s24 (q : dK) (hT : TC q) (hp0 : ¬ Int32.toInt (q.1 24 0) = 0) : dOk (zX4_openBracket_s24 q) (fun (o : Int32 × dK) => (TC o.2) ∧ (cFr [] [(24, 4), (24, 5), (24, 6), (24, 7), (24, 9), (24, 10)] q o.2) ∧ ((Int32.toInt o.1 = 1 ∧ Int32.toInt (o.2.1 24 9) = Int32.toInt (q.1 24 9) + 1 ∧ Int32.toInt (q.1 24 9) ≤ 7) ∨ (Int32.toInt o.1 = 0 ∧ Int32.toInt (o.2.1 24 9) = Int32.toInt (q.1 24 9)))) := by
  unfold zX4_openBracket_s24
  have f_1 : 0 ≤ Int32.toInt (q.1 24 9) ∧ Int32.toInt (q.1 24 9) ≤ 8 := rg_24_9 hT
  refine dOk_lt (A := Int32.toInt (q.1 24 9)) (B := 8) rfl (by decide) (fun c_2 => ?_) (fun c_3 => ?_)
  · refine dOk_L (fun q_4 eq_4 => ?_)
    try have t_5 : Int32.toInt (q.1 24 9 + 1) = Int32.toInt (q.1 24 9) + 1 := ti_add rfl (by decide) (by omega) (by omega)
    have hTq_4 : TC q_4 := by rw [eq_4]; exact st_24_9 hT (show (0 : Int) ≤ Int32.toInt (q.1 24 9 + 1) by omega) (show Int32.toInt (q.1 24 9 + 1) ≤ (8 : Int) by omega)
    have hFq_4 : cFr [] [(24, 4), (24, 5), (24, 6), (24, 7), (24, 9), (24, 10)] q q_4 := by rw [eq_4]; exact (cFr.rf (q := q)).f (by decide)
    have f_6 : 0 ≤ Int32.toInt (q_4.1 24 0) ∧ Int32.toInt (q_4.1 24 0) ≤ 1 := rg_24_0 hTq_4
    have f_7 : 0 ≤ Int32.toInt (q.1 24 0) ∧ Int32.toInt (q.1 24 0) ≤ 1 := rg_24_0 hT
    have w_8 : Int32.toInt (q_4.1 24 0) = Int32.toInt (q.1 24 0) := by rw [eq_4, cui_n (by decide)]
    refine dOk_V (ok_X4_step_s24 q_4 hTq_4 (show ¬ Int32.toInt (q_4.1 24 0) = 0 by omega)) (fun q_9 h_10 => ?_)
    replace h_10 : (TC q_9) ∧ (cFr [] [(24, 4), (24, 5), (24, 6), (24, 7)] q_4 q_9) := h_10
    obtain ⟨i_11, i_12⟩ := h_10
    have hFq_9 : cFr [] [(24, 4), (24, 5), (24, 6), (24, 7), (24, 9), (24, 10)] q q_9 := hFq_4.t i_12 (by decide) (by decide)
    have f_13 : 0 ≤ Int32.toInt (q_9.1 24 9) ∧ Int32.toInt (q_9.1 24 9) ≤ 8 := rg_24_9 i_11
    have f_14 : 0 ≤ Int32.toInt (q_4.1 24 9) ∧ Int32.toInt (q_4.1 24 9) ≤ 8 := rg_24_9 hTq_4
    have w_15 : Int32.toInt (q_4.1 24 9) = Int32.toInt (q.1 24 9 + 1) := by rw [eq_4, cui_e]
    have w_16 : Int32.toInt (q_9.1 24 9) = Int32.toInt (q_4.1 24 9) := by rw [i_12.1 24 9 (by decide) (by decide)]
    exact dOk_some (show (TC q_9) ∧ (cFr [] [(24, 4), (24, 5), (24, 6), (24, 7), (24, 9), (24, 10)] q q_9) ∧ (((1 : Int) = 1 ∧ Int32.toInt (q_9.1 24 9) = Int32.toInt (q.1 24 9) + 1 ∧ Int32.toInt (q.1 24 9) ≤ 7) ∨ ((1 : Int) = 0 ∧ Int32.toInt (q_9.1 24 9) = Int32.toInt (q.1 24 9))) from ⟨i_11, hFq_9, by omega⟩)
  · refine dOk_V (ok_X4_fail_s24 q hT) (fun q_17 h_18 => ?_)
    replace h_18 : (TC q_17) ∧ (cFr [] [(24, 10)] q q_17) := h_18
    obtain ⟨i_19, i_20⟩ := h_18
    have hFq_17 : cFr [] [(24, 4), (24, 5), (24, 6), (24, 7), (24, 9), (24, 10)] q q_17 := (cFr.rf (q := q)).t i_20 (by decide) (by decide)
    have f_21 : 0 ≤ Int32.toInt (q_17.1 24 9) ∧ Int32.toInt (q_17.1 24 9) ≤ 8 := rg_24_9 i_19
    have w_22 : Int32.toInt (q_17.1 24 9) = Int32.toInt (q.1 24 9) := by rw [i_20.1 24 9 (by decide) (by decide)]
    exact dOk_some (show (TC q_17) ∧ (cFr [] [(24, 4), (24, 5), (24, 6), (24, 7), (24, 9), (24, 10)] q q_17) ∧ (((0 : Int) = 1 ∧ Int32.toInt (q_17.1 24 9) = Int32.toInt (q.1 24 9) + 1 ∧ Int32.toInt (q.1 24 9) ≤ 7) ∨ ((0 : Int) = 0 ∧ Int32.toInt (q_17.1 24 9) = Int32.toInt (q.1 24 9))) from ⟨i_19, hFq_17, by omega⟩)

set_option maxHeartbeats 4000000 in
set_option maxRecDepth 100000 in
theorem ok_X4_isSame_s24_t0 (q : dK) (p2 : Int32) (p3 : Int32) (hT : TC q) (hp0 : ¬ Int32.toInt (q.1 24 0) = 0) (hp1 : 0 ≤ Int32.toInt p2) (hp2 : Int32.toInt p2 ≤ Int32.toInt p3) (hp3 : Int32.toInt p3 ≤ 21) : dOk (zX4_isSame_s24_t0 q p2 p3) (fun (o : Int32 × dK) => (o.2 = q) ∧ ((Int32.toInt o.1 = 0 ∨ Int32.toInt o.1 = 1))) := by
  unfold zX4_isSame_s24_t0
  try have t_1 : Int32.toInt (p3 - p2) = Int32.toInt p3 - Int32.toInt p2 := ti_sub rfl rfl (by omega) (by omega)
  have f_2 : 0 ≤ Int32.toInt (q.1 24 6) ∧ Int32.toInt (q.1 24 6) ≤ 400 := rg_24_6 hT
  have f_3 : 0 ≤ Int32.toInt (q.1 24 5) ∧ Int32.toInt (q.1 24 5) ≤ 400 := rg_24_5 hT
  try have t_4 : Int32.toInt (q.1 24 6 - q.1 24 5) = Int32.toInt (q.1 24 6) - Int32.toInt (q.1 24 5) := ti_sub rfl rfl (by omega) (by omega)
  refine dOk_eq (A := Int32.toInt (p3 - p2)) (B := Int32.toInt (q.1 24 6 - q.1 24 5)) rfl rfl (fun c_5z c_5 => ?_) (fun c_6z c_6 => ?_)
  · unfold zX4_isSame_s24_t0_20
    refine dFix_ok (fun (a : dK × Int32 × Int32 × Int32) => (a.1 = q) ∧ (a.2.1 = p2) ∧ (a.2.2.1 = p3) ∧ (Int32.toInt a.2.1 ≤ Int32.toInt a.2.2.2) ∧ (Int32.toInt a.2.2.2 ≤ 21)) (fun (a : dK × Int32 × Int32 × Int32) => (21 - Int32.toInt a.2.2.2).toNat) ?_ _ ?_ _ (dF_gt ?_)
    · intro a ha k_9 hk_8
      obtain ⟨q_10, x2_11, x3_12, x4_13⟩ := a
      replace ha : (q_10 = q) ∧ (x2_11 = p2) ∧ (x3_12 = p3) ∧ (Int32.toInt x2_11 ≤ Int32.toInt x4_13) ∧ (Int32.toInt x4_13 ≤ 21) := ha
      obtain ⟨a_14, a_15, a_16, a_17, a_18⟩ := ha
      show dOk (zX4_isSame_s24_t0_20b  (fun q x2 x3 x4 => k_9 (q, x2, x3, x4)) q_10 x2_11 x3_12 x4_13) _
      unfold zX4_isSame_s24_t0_20b
      subst q_10
      subst x2_11
      subst x3_12
      refine dOk_le (A := Int32.toInt p3) (B := Int32.toInt x4_13) rfl rfl (fun c_19 => ?_) (fun c_20 => ?_)
      · exact dOk_some (show (q = q) ∧ (((1 : Int) = 0 ∨ (1 : Int) = 1)) from ⟨rfl, by omega⟩)
      · refine dOk_G (dg_ok (show 0 ≤ Int32.toInt x4_13 by omega) (show Int32.toInt x4_13 < ((21 : Nat) : Int) by omega)) ?_
        have n_21 : ((Int32.toNatClampNeg x4_13 : Nat) : Int) = Int32.toInt x4_13 := cl_eq (by omega)
        refine dOk_L (fun v_22 ev_22 => ?_)
        have w_23 : Int32.toInt v_22 = Int32.toInt (chV 0 x4_13) := by rw [ev_22]
        have f_24 : 0 ≤ Int32.toInt (q.1 24 0) ∧ Int32.toInt (q.1 24 0) ≤ 1 := rg_24_0 hT
        refine dOk_G (dnz_ok (show ¬ Int32.toInt (q.1 24 0) = 0 by omega)) ?_
        try have t_25 : Int32.toInt (q.1 24 5 + x4_13) = Int32.toInt (q.1 24 5) + Int32.toInt x4_13 := ti_add rfl rfl (by omega) (by omega)
        try have t_26 : Int32.toInt (q.1 24 5 + x4_13 - p2) = Int32.toInt (q.1 24 5 + x4_13) - Int32.toInt p2 := ti_sub rfl rfl (by omega) (by omega)
        refine dOk_G (dg_ok (show 0 ≤ Int32.toInt (q.1 24 5 + x4_13 - p2) by omega) (show Int32.toInt (q.1 24 5 + x4_13 - p2) < ((400 : Nat) : Int) by omega)) ?_
        have n_27 : ((Int32.toNatClampNeg (q.1 24 5 + x4_13 - p2) : Nat) : Int) = Int32.toInt (q.1 24 5 + x4_13 - p2) := cl_eq (by omega)
        refine dOk_L (fun v_28 ev_28 => ?_)
        refine dOk_eq (A := Int32.toInt v_22) (B := Int32.toInt v_28) rfl rfl (fun c_29z c_29 => ?_) (fun c_30z c_30 => ?_)
        · try have t_32 : Int32.toInt (x4_13 + 1) = Int32.toInt x4_13 + 1 := ti_add rfl (by decide) (by omega) (by omega)
          exact hk_8 (q, p2, p3, (x4_13 + 1)) (show (q = q) ∧ (p2 = p2) ∧ (p3 = p3) ∧ (Int32.toInt p2 ≤ Int32.toInt (x4_13 + 1)) ∧ (Int32.toInt (x4_13 + 1) ≤ 21) from ⟨rfl, rfl, rfl, by omega, by omega⟩) (show (21 - Int32.toInt (x4_13 + 1)).toNat < (21 - Int32.toInt x4_13).toNat by omega)
        · exact dOk_some (show (q = q) ∧ (((0 : Int) = 0 ∨ (0 : Int) = 1)) from ⟨rfl, by omega⟩)
    · exact (show (q = q) ∧ (p2 = p2) ∧ (p3 = p3) ∧ (Int32.toInt p2 ≤ Int32.toInt p2) ∧ (Int32.toInt p2 ≤ 21) from ⟨rfl, rfl, rfl, by omega, by omega⟩)
    · show (21 - Int32.toInt p2).toNat < 1000000000000
      omega
  · exact dOk_some (show (q = q) ∧ (((0 : Int) = 0 ∨ (0 : Int) = 1)) from ⟨rfl, by omega⟩)

set_option maxHeartbeats 4000000 in
set_option maxRecDepth 100000 in
theorem ok_X4_wordIn_s24_t0 (q : dK) (hT : TC q) (hp0 : ¬ Int32.toInt (q.1 24 0) = 0) : dOk (zX4_wordIn_s24_t0 q) (fun (o : Int32 × dK) => (o.2 = q) ∧ (-1 ≤ Int32.toInt o.1 ∧ Int32.toInt o.1 ≤ 21)) := by
  unfold zX4_wordIn_s24_t0
  unfold zX4_wordIn_s24_t0_7
  refine dFix_ok (fun (a : dK × Int32 × Int32 × Int32) => (a.1 = q) ∧ (0 ≤ Int32.toInt a.2.2.2) ∧ (Int32.toInt a.2.2.2 ≤ 21) ∧ (0 ≤ Int32.toInt a.2.2.1) ∧ (Int32.toInt a.2.2.1 ≤ Int32.toInt a.2.2.2) ∧ (0 ≤ Int32.toInt a.2.1) ∧ (Int32.toInt a.2.1 ≤ Int32.toInt a.2.2.2)) (fun (a : dK × Int32 × Int32 × Int32) => (21 - Int32.toInt a.2.2.2).toNat) ?_ _ ?_ _ (dF_gt ?_)
  · intro a ha k_2 hk_1
    obtain ⟨q_3, x2_4, x3_5, x4_6⟩ := a
    replace ha : (q_3 = q) ∧ (0 ≤ Int32.toInt x4_6) ∧ (Int32.toInt x4_6 ≤ 21) ∧ (0 ≤ Int32.toInt x3_5) ∧ (Int32.toInt x3_5 ≤ Int32.toInt x4_6) ∧ (0 ≤ Int32.toInt x2_4) ∧ (Int32.toInt x2_4 ≤ Int32.toInt x4_6) := ha
    obtain ⟨a_7, a_8, a_9, a_10, a_11, a_12, a_13⟩ := ha
    show dOk (zX4_wordIn_s24_t0_7b  (fun q x2 x3 x4 => k_2 (q, x2, x3, x4)) q_3 x2_4 x3_5 x4_6) _
    unfold zX4_wordIn_s24_t0_7b
    subst q_3
    refine dOk_le (A := 21) (B := Int32.toInt x4_6) (by decide) rfl (fun c_14 => ?_) (fun c_15 => ?_)
    · unfold zX4_wordIn_s24_t0_62
      exact dOk_some (show (q = q) ∧ (-1 ≤ (-1 : Int) ∧ (-1 : Int) ≤ 21) from ⟨rfl, by omega⟩)
    · refine dOk_eq (A := Int32.toInt (q.1 24 4)) (B := 1) rfl (by decide) (fun c_16z c_16 => ?_) (fun c_17z c_17 => ?_)
      · refine dOk_G (dg_ok (show 0 ≤ Int32.toInt x4_6 by omega) (show Int32.toInt x4_6 < ((21 : Nat) : Int) by omega)) ?_
        have n_19 : ((Int32.toNatClampNeg x4_6 : Nat) : Int) = Int32.toInt x4_6 := cl_eq (by omega)
        refine dOk_L (fun v_20 ev_20 => ?_)
        have w_21 : Int32.toInt v_20 = Int32.toInt (chV 0 x4_6) := by rw [ev_20]
        refine dOk_eq (A := Int32.toInt v_20) (B := 32) rfl (by decide) (fun c_22z c_22 => ?_) (fun c_23z c_23 => ?_)
        · have f_25 : 0 ≤ Int32.toInt (q.1 24 0) ∧ Int32.toInt (q.1 24 0) ≤ 1 := rg_24_0 hT
          refine dOk_B (ok_X4_isSame_s24_t0 q x3_5 x4_6 hT (show ¬ Int32.toInt (q.1 24 0) = 0 by omega) (show 0 ≤ Int32.toInt x3_5 by omega) (show Int32.toInt x3_5 ≤ Int32.toInt x4_6 by omega) (show Int32.toInt x4_6 ≤ 21 by omega)) (fun r_26 q_27 h_28 => ?_)
          replace h_28 : (q_27 = q) ∧ ((Int32.toInt r_26 = 0 ∨ Int32.toInt r_26 = 1)) := h_28
          obtain ⟨i_29, i_30⟩ := h_28
          subst q_27
          refine dOk_eq (A := Int32.toInt r_26) (B := 0) rfl (by decide) (fun c_31z c_31 => ?_) (fun c_32z c_32 => ?_)
          · unfold zX4_wordIn_s24_t0_56
            try have t_34 : Int32.toInt (x2_4 + 1) = Int32.toInt x2_4 + 1 := ti_add rfl (by decide) (by omega) (by omega)
            try have t_35 : Int32.toInt (x4_6 + 1) = Int32.toInt x4_6 + 1 := ti_add rfl (by decide) (by omega) (by omega)
            exact hk_1 (q, (x2_4 + 1), (x4_6 + 1), (x4_6 + 1)) (show (q = q) ∧ (0 ≤ Int32.toInt (x4_6 + 1)) ∧ (Int32.toInt (x4_6 + 1) ≤ 21) ∧ (0 ≤ Int32.toInt (x4_6 + 1)) ∧ (Int32.toInt (x4_6 + 1) ≤ Int32.toInt (x4_6 + 1)) ∧ (0 ≤ Int32.toInt (x2_4 + 1)) ∧ (Int32.toInt (x2_4 + 1) ≤ Int32.toInt (x4_6 + 1)) from ⟨rfl, by omega, by omega, by omega, by omega, by omega, by omega⟩) (show (21 - Int32.toInt (x4_6 + 1)).toNat < (21 - Int32.toInt x4_6).toNat by omega)
          · exact dOk_some (show (q = q) ∧ (-1 ≤ Int32.toInt x2_4 ∧ Int32.toInt x2_4 ≤ 21) from ⟨rfl, by omega⟩)
        · unfold zX4_wordIn_s24_t0_56
          try have t_36 : Int32.toInt (x4_6 + 1) = Int32.toInt x4_6 + 1 := ti_add rfl (by decide) (by omega) (by omega)
          exact hk_1 (q, x2_4, x3_5, (x4_6 + 1)) (show (q = q) ∧ (0 ≤ Int32.toInt (x4_6 + 1)) ∧ (Int32.toInt (x4_6 + 1) ≤ 21) ∧ (0 ≤ Int32.toInt x3_5) ∧ (Int32.toInt x3_5 ≤ Int32.toInt (x4_6 + 1)) ∧ (0 ≤ Int32.toInt x2_4) ∧ (Int32.toInt x2_4 ≤ Int32.toInt (x4_6 + 1)) from ⟨rfl, by omega, by omega, by omega, by omega, by omega, by omega⟩) (show (21 - Int32.toInt (x4_6 + 1)).toNat < (21 - Int32.toInt x4_6).toNat by omega)
      · unfold zX4_wordIn_s24_t0_62
        exact dOk_some (show (q = q) ∧ (-1 ≤ (-1 : Int) ∧ (-1 : Int) ≤ 21) from ⟨rfl, by omega⟩)
  · exact (show (q = q) ∧ (0 ≤ (0 : Int)) ∧ ((0 : Int) ≤ 21) ∧ (0 ≤ (0 : Int)) ∧ ((0 : Int) ≤ (0 : Int)) ∧ (0 ≤ (0 : Int)) ∧ ((0 : Int) ≤ (0 : Int)) from ⟨rfl, by omega, by omega, by omega, by omega, by omega, by omega⟩)
  · show (21 - (0 : Int)).toNat < 1000000000000
    omega

set_option maxHeartbeats 4000000 in
set_option maxRecDepth 100000 in
theorem ok_X4_isSame_s24_t1 (q : dK) (p2 : Int32) (p3 : Int32) (hT : TC q) (hp0 : ¬ Int32.toInt (q.1 24 0) = 0) (hp1 : 0 ≤ Int32.toInt p2) (hp2 : Int32.toInt p2 ≤ Int32.toInt p3) (hp3 : Int32.toInt p3 ≤ 15) : dOk (zX4_isSame_s24_t1 q p2 p3) (fun (o : Int32 × dK) => (o.2 = q) ∧ ((Int32.toInt o.1 = 0 ∨ Int32.toInt o.1 = 1))) := by
  unfold zX4_isSame_s24_t1
  try have t_1 : Int32.toInt (p3 - p2) = Int32.toInt p3 - Int32.toInt p2 := ti_sub rfl rfl (by omega) (by omega)
  have f_2 : 0 ≤ Int32.toInt (q.1 24 6) ∧ Int32.toInt (q.1 24 6) ≤ 400 := rg_24_6 hT
  have f_3 : 0 ≤ Int32.toInt (q.1 24 5) ∧ Int32.toInt (q.1 24 5) ≤ 400 := rg_24_5 hT
  try have t_4 : Int32.toInt (q.1 24 6 - q.1 24 5) = Int32.toInt (q.1 24 6) - Int32.toInt (q.1 24 5) := ti_sub rfl rfl (by omega) (by omega)
  refine dOk_eq (A := Int32.toInt (p3 - p2)) (B := Int32.toInt (q.1 24 6 - q.1 24 5)) rfl rfl (fun c_5z c_5 => ?_) (fun c_6z c_6 => ?_)
  · unfold zX4_isSame_s24_t1_20
    refine dFix_ok (fun (a : dK × Int32 × Int32 × Int32) => (a.1 = q) ∧ (a.2.1 = p2) ∧ (a.2.2.1 = p3) ∧ (Int32.toInt a.2.1 ≤ Int32.toInt a.2.2.2) ∧ (Int32.toInt a.2.2.2 ≤ 15)) (fun (a : dK × Int32 × Int32 × Int32) => (15 - Int32.toInt a.2.2.2).toNat) ?_ _ ?_ _ (dF_gt ?_)
    · intro a ha k_9 hk_8
      obtain ⟨q_10, x2_11, x3_12, x4_13⟩ := a
      replace ha : (q_10 = q) ∧ (x2_11 = p2) ∧ (x3_12 = p3) ∧ (Int32.toInt x2_11 ≤ Int32.toInt x4_13) ∧ (Int32.toInt x4_13 ≤ 15) := ha
      obtain ⟨a_14, a_15, a_16, a_17, a_18⟩ := ha
      show dOk (zX4_isSame_s24_t1_20b  (fun q x2 x3 x4 => k_9 (q, x2, x3, x4)) q_10 x2_11 x3_12 x4_13) _
      unfold zX4_isSame_s24_t1_20b
      subst q_10
      subst x2_11
      subst x3_12
      refine dOk_le (A := Int32.toInt p3) (B := Int32.toInt x4_13) rfl rfl (fun c_19 => ?_) (fun c_20 => ?_)
      · exact dOk_some (show (q = q) ∧ (((1 : Int) = 0 ∨ (1 : Int) = 1)) from ⟨rfl, by omega⟩)
      · refine dOk_G (dg_ok (show 0 ≤ Int32.toInt x4_13 by omega) (show Int32.toInt x4_13 < ((15 : Nat) : Int) by omega)) ?_
        have n_21 : ((Int32.toNatClampNeg x4_13 : Nat) : Int) = Int32.toInt x4_13 := cl_eq (by omega)
        refine dOk_L (fun v_22 ev_22 => ?_)
        have w_23 : Int32.toInt v_22 = Int32.toInt (chV 1 x4_13) := by rw [ev_22]
        have f_24 : 0 ≤ Int32.toInt (q.1 24 0) ∧ Int32.toInt (q.1 24 0) ≤ 1 := rg_24_0 hT
        refine dOk_G (dnz_ok (show ¬ Int32.toInt (q.1 24 0) = 0 by omega)) ?_
        try have t_25 : Int32.toInt (q.1 24 5 + x4_13) = Int32.toInt (q.1 24 5) + Int32.toInt x4_13 := ti_add rfl rfl (by omega) (by omega)
        try have t_26 : Int32.toInt (q.1 24 5 + x4_13 - p2) = Int32.toInt (q.1 24 5 + x4_13) - Int32.toInt p2 := ti_sub rfl rfl (by omega) (by omega)
        refine dOk_G (dg_ok (show 0 ≤ Int32.toInt (q.1 24 5 + x4_13 - p2) by omega) (show Int32.toInt (q.1 24 5 + x4_13 - p2) < ((400 : Nat) : Int) by omega)) ?_
        have n_27 : ((Int32.toNatClampNeg (q.1 24 5 + x4_13 - p2) : Nat) : Int) = Int32.toInt (q.1 24 5 + x4_13 - p2) := cl_eq (by omega)
        refine dOk_L (fun v_28 ev_28 => ?_)
        refine dOk_eq (A := Int32.toInt v_22) (B := Int32.toInt v_28) rfl rfl (fun c_29z c_29 => ?_) (fun c_30z c_30 => ?_)
        · try have t_32 : Int32.toInt (x4_13 + 1) = Int32.toInt x4_13 + 1 := ti_add rfl (by decide) (by omega) (by omega)
          exact hk_8 (q, p2, p3, (x4_13 + 1)) (show (q = q) ∧ (p2 = p2) ∧ (p3 = p3) ∧ (Int32.toInt p2 ≤ Int32.toInt (x4_13 + 1)) ∧ (Int32.toInt (x4_13 + 1) ≤ 15) from ⟨rfl, rfl, rfl, by omega, by omega⟩) (show (15 - Int32.toInt (x4_13 + 1)).toNat < (15 - Int32.toInt x4_13).toNat by omega)
        · exact dOk_some (show (q = q) ∧ (((0 : Int) = 0 ∨ (0 : Int) = 1)) from ⟨rfl, by omega⟩)
    · exact (show (q = q) ∧ (p2 = p2) ∧ (p3 = p3) ∧ (Int32.toInt p2 ≤ Int32.toInt p2) ∧ (Int32.toInt p2 ≤ 15) from ⟨rfl, rfl, rfl, by omega, by omega⟩)
    · show (15 - Int32.toInt p2).toNat < 1000000000000
      omega
  · exact dOk_some (show (q = q) ∧ (((0 : Int) = 0 ∨ (0 : Int) = 1)) from ⟨rfl, by omega⟩)
