set_option maxHeartbeats 4000000 in
set_option maxRecDepth 100000 in
theorem ok_laysPricesL (q : dS) (hT : TS q) : dOk (zX10_laysPricesL q) (fun (o : dS) => (TS o) ∧ (dFr [12, 20] [22, 23, 24, 25] q o)) := by
  unfold zX10_laysPricesL
  unfold zX10_laysPrices_6
  refine dFix_ok (fun (a : dS × Int32) => (TS a.1) ∧ (dFr [12, 20] [22, 23, 24, 25] q a.1) ∧ (1 ≤ Int32.toInt a.2) ∧ (Int32.toInt a.2 ≤ 7)) (fun (a : dS × Int32) => (7 - Int32.toInt a.2).toNat) ?_ _ ?_ _ (dF_gt ?_)
  · intro a ha k_2 hk_1
    obtain ⟨q_3, x1_4⟩ := a
    replace ha : (TS q_3) ∧ (dFr [12, 20] [22, 23, 24, 25] q q_3) ∧ (1 ≤ Int32.toInt x1_4) ∧ (Int32.toInt x1_4 ≤ 7) := ha
    obtain ⟨a_5, a_6, a_7, a_8⟩ := ha
    show dOk (zX10_laysPrices_6b  (fun q x1 => k_2 (q, x1)) q_3 x1_4) _
    unfold zX10_laysPrices_6b
    have hFq_3 : dFr [12, 20] [22, 23, 24, 25] q q_3 := (dFr.rf (q := q)).t a_6 (by decide) (by decide)
    refine dOk_B (ok_size q_3 a_5) (fun r_9 q_10 h_11 => ?_)
    replace h_11 : (q_10 = q_3) ∧ (Int32.toInt r_9 = Int32.toInt (q_3.1 2 29)) ∧ (0 ≤ Int32.toInt r_9 ∧ Int32.toInt r_9 ≤ 6) := h_11
    obtain ⟨i_12, i_13, i_14⟩ := h_11
    subst q_10
    have f_15 : 0 ≤ Int32.toInt (q_3.1 2 29) ∧ Int32.toInt (q_3.1 2 29) ≤ 6 := a_5.1 2 29
    have f_16 : 0 ≤ Int32.toInt (q.1 2 29) ∧ Int32.toInt (q.1 2 29) ≤ 6 := hT.1 2 29
    have w_17 : Int32.toInt (q_3.1 2 29) = Int32.toInt (q.1 2 29) := by rw [a_6.1 2 (by decide) (by decide)]
    refine dOk_lt (A := Int32.toInt r_9) (B := Int32.toInt x1_4) rfl rfl (fun c_18 => ?_) (fun c_19 => ?_)
    · exact dOk_some (show (TS q_3) ∧ (dFr [12, 20] [22, 23, 24, 25] q q_3) from ⟨a_5, hFq_3⟩)
    · unfold zX10_laysPrices_16
      refine dFix_ok (fun (a : dS × Int32 × Int32) => (TS a.1) ∧ (dFr [12, 20] [22, 23, 24, 25] q_3 a.1) ∧ (a.2.1 = x1_4) ∧ (0 ≤ Int32.toInt a.2.2) ∧ (Int32.toInt a.2.2 ≤ 6)) (fun (a : dS × Int32 × Int32) => (6 - Int32.toInt a.2.2).toNat) ?_ _ ?_ _ (dF_gt ?_)
      · intro a ha k_21 hk_20
        obtain ⟨q_22, x1_23, x2_24⟩ := a
        replace ha : (TS q_22) ∧ (dFr [12, 20] [22, 23, 24, 25] q_3 q_22) ∧ (x1_23 = x1_4) ∧ (0 ≤ Int32.toInt x2_24) ∧ (Int32.toInt x2_24 ≤ 6) := ha
        obtain ⟨a_25, a_26, a_27, a_28, a_29⟩ := ha
        show dOk (zX10_laysPrices_16b _ (fun q x1 x2 => k_21 (q, x1, x2)) q_22 x1_23 x2_24) _
        unfold zX10_laysPrices_16b
        have hFq_22 : dFr [12, 20] [22, 23, 24, 25] q q_22 := hFq_3.t a_26 (by decide) (by decide)
        subst x1_23
        refine dOk_B (ok_size q_22 a_25) (fun r_30 q_31 h_32 => ?_)
        replace h_32 : (q_31 = q_22) ∧ (Int32.toInt r_30 = Int32.toInt (q_22.1 2 29)) ∧ (0 ≤ Int32.toInt r_30 ∧ Int32.toInt r_30 ≤ 6) := h_32
        obtain ⟨i_33, i_34, i_35⟩ := h_32
        subst q_31
        have f_36 : 0 ≤ Int32.toInt (q_22.1 2 29) ∧ Int32.toInt (q_22.1 2 29) ≤ 6 := a_25.1 2 29
        have w_37 : Int32.toInt (q_22.1 2 29) = Int32.toInt (q_3.1 2 29) := by rw [a_26.1 2 (by decide) (by decide)]
        refine dOk_le (A := Int32.toInt r_30) (B := Int32.toInt x2_24) rfl rfl (fun c_38 => ?_) (fun c_39 => ?_)
        · try have t_40 : Int32.toInt (x1_4 + 1) = Int32.toInt x1_4 + 1 := ti_add rfl (by decide) (by omega) (by omega)
          exact hk_1 (q_22, (x1_4 + 1)) (show (TS q_22) ∧ (dFr [12, 20] [22, 23, 24, 25] q q_22) ∧ (1 ≤ Int32.toInt (x1_4 + 1)) ∧ (Int32.toInt (x1_4 + 1) ≤ 7) from ⟨a_25, ((((dFr.rf : dFr [12, 20] [22, 23, 24, 25] q q).t a_6 (by decide) (by decide)) : dFr [12, 20] [22, 23, 24, 25] q q_3).t a_26 (by decide) (by decide)), by omega, by omega⟩) (show (7 - Int32.toInt (x1_4 + 1)).toNat < (7 - Int32.toInt x1_4).toNat by omega)
        · unfold zX10_laysPrices_26
          refine dFix_ok (fun (a : dS × Int32 × Int32 × Int32) => (TS a.1) ∧ (dFr [12, 20] [22, 23, 24, 25] q_22 a.1) ∧ (a.2.1 = x1_4) ∧ (a.2.2.1 = x2_24) ∧ (0 ≤ Int32.toInt a.2.2.2) ∧ (Int32.toInt a.2.2.2 ≤ 7)) (fun (a : dS × Int32 × Int32 × Int32) => (7 - Int32.toInt a.2.2.2).toNat) ?_ _ ?_ _ (dF_gt ?_)
          · intro a ha k_42 hk_41
            obtain ⟨q_43, x1_44, x2_45, x3_46⟩ := a
            replace ha : (TS q_43) ∧ (dFr [12, 20] [22, 23, 24, 25] q_22 q_43) ∧ (x1_44 = x1_4) ∧ (x2_45 = x2_24) ∧ (0 ≤ Int32.toInt x3_46) ∧ (Int32.toInt x3_46 ≤ 7) := ha
            obtain ⟨a_47, a_48, a_49, a_50, a_51, a_52⟩ := ha
            show dOk (zX10_laysPrices_26b _ _ (fun q x1 x2 x3 => k_42 (q, x1, x2, x3)) q_43 x1_44 x2_45 x3_46) _
            unfold zX10_laysPrices_26b
            have hFq_43 : dFr [12, 20] [22, 23, 24, 25] q q_43 := hFq_22.t a_48 (by decide) (by decide)
            subst x1_44
            subst x2_45
            refine dOk_B (ok_size q_43 a_47) (fun r_53 q_54 h_55 => ?_)
            replace h_55 : (q_54 = q_43) ∧ (Int32.toInt r_53 = Int32.toInt (q_43.1 2 29)) ∧ (0 ≤ Int32.toInt r_53 ∧ Int32.toInt r_53 ≤ 6) := h_55
            obtain ⟨i_56, i_57, i_58⟩ := h_55
            subst q_54
            have f_59 : 0 ≤ Int32.toInt (q_43.1 2 29) ∧ Int32.toInt (q_43.1 2 29) ≤ 6 := a_47.1 2 29
            have w_60 : Int32.toInt (q_43.1 2 29) = Int32.toInt (q_22.1 2 29) := by rw [a_48.1 2 (by decide) (by decide)]
            refine dOk_lt (A := Int32.toInt r_53) (B := Int32.toInt x3_46) rfl rfl (fun c_61 => ?_) (fun c_62 => ?_)
            · try have t_63 : Int32.toInt (x2_24 + 1) = Int32.toInt x2_24 + 1 := ti_add rfl (by decide) (by omega) (by omega)
              exact hk_20 (q_43, x1_4, (x2_24 + 1)) (show (TS q_43) ∧ (dFr [12, 20] [22, 23, 24, 25] q_3 q_43) ∧ (x1_4 = x1_4) ∧ (0 ≤ Int32.toInt (x2_24 + 1)) ∧ (Int32.toInt (x2_24 + 1) ≤ 6) from ⟨a_47, ((((dFr.rf : dFr [12, 20] [22, 23, 24, 25] q_3 q_3).t a_26 (by decide) (by decide)) : dFr [12, 20] [22, 23, 24, 25] q_3 q_22).t a_48 (by decide) (by decide)), rfl, by omega, by omega⟩) (show (6 - Int32.toInt (x2_24 + 1)).toNat < (6 - Int32.toInt x2_24).toNat by omega)
            · unfold zX10_laysPrices_37
              refine dFix_ok (fun (a : dS × Int32 × Int32 × Int32 × Int32) => (TS a.1) ∧ (dFr [12, 20] [22, 23, 24, 25] q_43 a.1) ∧ (a.2.1 = x1_4) ∧ (a.2.2.1 = x2_24) ∧ (a.2.2.2.1 = x3_46) ∧ (0 ≤ Int32.toInt a.2.2.2.2) ∧ (Int32.toInt a.2.2.2.2 ≤ 2)) (fun (a : dS × Int32 × Int32 × Int32 × Int32) => (2 - Int32.toInt a.2.2.2.2).toNat) ?_ _ ?_ _ (dF_gt ?_)
              · intro a ha k_65 hk_64
                obtain ⟨q_66, x1_67, x2_68, x3_69, x4_70⟩ := a
                replace ha : (TS q_66) ∧ (dFr [12, 20] [22, 23, 24, 25] q_43 q_66) ∧ (x1_67 = x1_4) ∧ (x2_68 = x2_24) ∧ (x3_69 = x3_46) ∧ (0 ≤ Int32.toInt x4_70) ∧ (Int32.toInt x4_70 ≤ 2) := ha
                obtain ⟨a_71, a_72, a_73, a_74, a_75, a_76, a_77⟩ := ha
                show dOk (zX10_laysPrices_37b _ _ _ (fun q x1 x2 x3 x4 => k_65 (q, x1, x2, x3, x4)) q_66 x1_67 x2_68 x3_69 x4_70) _
                unfold zX10_laysPrices_37b
                have hFq_66 : dFr [12, 20] [22, 23, 24, 25] q q_66 := hFq_43.t a_72 (by decide) (by decide)
                subst x1_67
                subst x2_68
                subst x3_69
                refine dOk_le (A := 2) (B := Int32.toInt x4_70) (by decide) rfl (fun c_78 => ?_) (fun c_79 => ?_)
                · try have t_80 : Int32.toInt (x3_46 + 1) = Int32.toInt x3_46 + 1 := ti_add rfl (by decide) (by omega) (by omega)
                  exact hk_41 (q_66, x1_4, x2_24, (x3_46 + 1)) (show (TS q_66) ∧ (dFr [12, 20] [22, 23, 24, 25] q_22 q_66) ∧ (x1_4 = x1_4) ∧ (x2_24 = x2_24) ∧ (0 ≤ Int32.toInt (x3_46 + 1)) ∧ (Int32.toInt (x3_46 + 1) ≤ 7) from ⟨a_71, ((((dFr.rf : dFr [12, 20] [22, 23, 24, 25] q_22 q_22).t a_48 (by decide) (by decide)) : dFr [12, 20] [22, 23, 24, 25] q_22 q_43).t a_72 (by decide) (by decide)), rfl, rfl, by omega, by omega⟩) (show (7 - Int32.toInt (x3_46 + 1)).toNat < (7 - Int32.toInt x3_46).toNat by omega)
                · refine dOk_B (ok_rankOf q_66 x2_24 a_71) (fun r_81 q_82 h_83 => ?_)
                  replace h_83 : (q_82 = q_66) := h_83
                  have i_84 := h_83
                  subst q_82
                  refine dOk_eq (A := Int32.toInt x3_46) (B := 0) rfl (by decide) (fun c_85z c_85 => ?_) (fun c_86z c_86 => ?_)
                  · unfold zX10_laysPrices_65
                    refine dOk_V (ok_setsTurn q_66 x1_4 r_81 (-1) x4_70 a_71) (fun q_88 h_89 => ?_)
                    replace h_89 : (TS q_88) ∧ (dFr [12] [] q_66 q_88) ∧ (Int32.toInt (q_88.1 12 0) = Int32.toInt x1_4) := h_89
                    obtain ⟨i_90, i_91, i_92⟩ := h_89
                    have hFq_88 : dFr [12, 20] [22, 23, 24, 25] q q_88 := hFq_66.t i_91 (by decide) (by decide)
                    refine dOk_V (ok_askedAt x1_4 x2_24 x3_46 x4_70 (show 0 ≤ Int32.toInt x1_4 ∧ Int32.toInt x1_4 ≤ 6 by omega) (show 0 ≤ Int32.toInt x2_24 ∧ Int32.toInt x2_24 ≤ 5 by omega) (show 0 ≤ Int32.toInt x3_46 ∧ Int32.toInt x3_46 ≤ 6 by omega) (show 0 ≤ Int32.toInt x4_70 ∧ Int32.toInt x4_70 ≤ 1 by omega)) (fun r_93 h_94 => ?_)
                    replace h_94 : (Int32.toInt r_93 = ((Int32.toInt x1_4 * 6 + Int32.toInt x2_24) * 7 + Int32.toInt x3_46) * 2 + Int32.toInt x4_70) := h_94
                    have i_95 := h_94
                    refine dOk_B (ok_isNow q_88 2 i_90) (fun r_96 q_97 h_98 => ?_)
                    replace h_98 : (TS q_97) ∧ (dFr [] [22, 23, 24, 25] q_88 q_97) ∧ ((Int32.toInt r_96 = 0 ∨ Int32.toInt r_96 = 1)) := h_98
                    obtain ⟨i_99, i_100, i_101⟩ := h_98
                    have hFq_97 : dFr [12, 20] [22, 23, 24, 25] q q_97 := hFq_88.t i_100 (by decide) (by decide)
                    refine dOk_eq (A := Int32.toInt r_96) (B := 0) rfl (by decide) (fun c_102z c_102 => ?_) (fun c_103z c_103 => ?_)
                    · refine dOk_B (ok_paysNow q_97 i_99) (fun r_105 q_106 h_107 => ?_)
                      replace h_107 : (TS q_106) ∧ (dFr [] [22, 23, 24, 25] q_97 q_106) ∧ ((0 ≤ Int32.toInt (q_97.1 12 0) ∧ Int32.toInt (q_97.1 12 0) ≤ 99) → 0 ≤ Int32.toInt r_105 ∧ Int32.toInt r_105 ≤ 99) := h_107
                      obtain ⟨i_108, i_109, i_110⟩ := h_107
                      have hFq_106 : dFr [12, 20] [22, 23, 24, 25] q q_106 := hFq_97.t i_109 (by decide) (by decide)
                      have w_111 : Int32.toInt (q_97.1 12 0) = Int32.toInt (q_88.1 12 0) := by rw [i_100.1 12 (by decide) (by decide)]
                      unfold zX10_laysPrices_98
                      refine dOk_G (dg_ok (show 0 ≤ Int32.toInt r_93 by omega) (show Int32.toInt r_93 < ((588 : Nat) : Int) by omega)) ?_
                      have n_112 : ((Int32.toNatClampNeg r_93 : Nat) : Int) = Int32.toInt r_93 := cl_eq (by omega)
                      refine dOk_L (fun q_113 eq_113 => ?_)
                      have hTq_113 : TS q_113 := by rw [eq_113]; exact ts_set i_108 (by decide) (show -1 ≤ Int32.toInt r_105 by omega) (show Int32.toInt r_105 ≤ 99 by omega)
                      have hFq_113 : dFr [12, 20] [22, 23, 24, 25] q q_113 := by rw [eq_113]; exact hFq_106.i (by decide) (by decide)
                      try have t_114 : Int32.toInt (x4_70 + 1) = Int32.toInt x4_70 + 1 := ti_add rfl (by decide) (by omega) (by omega)
                      exact hk_64 (q_113, x1_4, x2_24, x3_46, (x4_70 + 1)) (show (TS q_113) ∧ (dFr [12, 20] [22, 23, 24, 25] q_43 q_113) ∧ (x1_4 = x1_4) ∧ (x2_24 = x2_24) ∧ (x3_46 = x3_46) ∧ (0 ≤ Int32.toInt (x4_70 + 1)) ∧ (Int32.toInt (x4_70 + 1) ≤ 2) from ⟨hTq_113, (by rw [eq_113]; exact (((((((((dFr.rf : dFr [12, 20] [22, 23, 24, 25] q_43 q_43).t a_72 (by decide) (by decide)) : dFr [12, 20] [22, 23, 24, 25] q_43 q_66).t i_91 (by decide) (by decide)) : dFr [12, 20] [22, 23, 24, 25] q_43 q_88).t i_100 (by decide) (by decide)) : dFr [12, 20] [22, 23, 24, 25] q_43 q_97).t i_109 (by decide) (by decide)) : dFr [12, 20] [22, 23, 24, 25] q_43 q_106).i (by decide) (by decide)), rfl, rfl, rfl, by omega, by omega⟩) (show (2 - Int32.toInt (x4_70 + 1)).toNat < (2 - Int32.toInt x4_70).toNat by omega)
                    · unfold zX10_laysPrices_98
                      refine dOk_G (dg_ok (show 0 ≤ Int32.toInt r_93 by omega) (show Int32.toInt r_93 < ((588 : Nat) : Int) by omega)) ?_
                      have n_115 : ((Int32.toNatClampNeg r_93 : Nat) : Int) = Int32.toInt r_93 := cl_eq (by omega)
                      refine dOk_L (fun q_116 eq_116 => ?_)
                      have hTq_116 : TS q_116 := by rw [eq_116]; exact ts_set i_99 (by decide) (show -1 ≤ (-1 : Int) by omega) (show (-1 : Int) ≤ 99 by omega)
                      have hFq_116 : dFr [12, 20] [22, 23, 24, 25] q q_116 := by rw [eq_116]; exact hFq_97.i (by decide) (by decide)
                      try have t_117 : Int32.toInt (x4_70 + 1) = Int32.toInt x4_70 + 1 := ti_add rfl (by decide) (by omega) (by omega)
                      exact hk_64 (q_116, x1_4, x2_24, x3_46, (x4_70 + 1)) (show (TS q_116) ∧ (dFr [12, 20] [22, 23, 24, 25] q_43 q_116) ∧ (x1_4 = x1_4) ∧ (x2_24 = x2_24) ∧ (x3_46 = x3_46) ∧ (0 ≤ Int32.toInt (x4_70 + 1)) ∧ (Int32.toInt (x4_70 + 1) ≤ 2) from ⟨hTq_116, (by rw [eq_116]; exact (((((((dFr.rf : dFr [12, 20] [22, 23, 24, 25] q_43 q_43).t a_72 (by decide) (by decide)) : dFr [12, 20] [22, 23, 24, 25] q_43 q_66).t i_91 (by decide) (by decide)) : dFr [12, 20] [22, 23, 24, 25] q_43 q_88).t i_100 (by decide) (by decide)) : dFr [12, 20] [22, 23, 24, 25] q_43 q_97).i (by decide) (by decide)), rfl, rfl, rfl, by omega, by omega⟩) (show (2 - Int32.toInt (x4_70 + 1)).toNat < (2 - Int32.toInt x4_70).toNat by omega)
                  · try have t_118 : Int32.toInt (x3_46 - 1) = Int32.toInt x3_46 - 1 := ti_sub rfl (by decide) (by omega) (by omega)
                    refine dOk_B (ok_rankOf q_66 (x3_46 - 1) a_71) (fun r_119 q_120 h_121 => ?_)
                    replace h_121 : (q_120 = q_66) := h_121
                    have i_122 := h_121
                    subst q_120
                    unfold zX10_laysPrices_65
                    refine dOk_V (ok_setsTurn q_66 x1_4 r_81 r_119 x4_70 a_71) (fun q_123 h_124 => ?_)
                    replace h_124 : (TS q_123) ∧ (dFr [12] [] q_66 q_123) ∧ (Int32.toInt (q_123.1 12 0) = Int32.toInt x1_4) := h_124
                    obtain ⟨i_125, i_126, i_127⟩ := h_124
                    have hFq_123 : dFr [12, 20] [22, 23, 24, 25] q q_123 := hFq_66.t i_126 (by decide) (by decide)
                    refine dOk_V (ok_askedAt x1_4 x2_24 x3_46 x4_70 (show 0 ≤ Int32.toInt x1_4 ∧ Int32.toInt x1_4 ≤ 6 by omega) (show 0 ≤ Int32.toInt x2_24 ∧ Int32.toInt x2_24 ≤ 5 by omega) (show 0 ≤ Int32.toInt x3_46 ∧ Int32.toInt x3_46 ≤ 6 by omega) (show 0 ≤ Int32.toInt x4_70 ∧ Int32.toInt x4_70 ≤ 1 by omega)) (fun r_128 h_129 => ?_)
                    replace h_129 : (Int32.toInt r_128 = ((Int32.toInt x1_4 * 6 + Int32.toInt x2_24) * 7 + Int32.toInt x3_46) * 2 + Int32.toInt x4_70) := h_129
                    have i_130 := h_129
                    refine dOk_B (ok_isNow q_123 2 i_125) (fun r_131 q_132 h_133 => ?_)
                    replace h_133 : (TS q_132) ∧ (dFr [] [22, 23, 24, 25] q_123 q_132) ∧ ((Int32.toInt r_131 = 0 ∨ Int32.toInt r_131 = 1)) := h_133
                    obtain ⟨i_134, i_135, i_136⟩ := h_133
                    have hFq_132 : dFr [12, 20] [22, 23, 24, 25] q q_132 := hFq_123.t i_135 (by decide) (by decide)
                    refine dOk_eq (A := Int32.toInt r_131) (B := 0) rfl (by decide) (fun c_137z c_137 => ?_) (fun c_138z c_138 => ?_)
                    · refine dOk_B (ok_paysNow q_132 i_134) (fun r_140 q_141 h_142 => ?_)
                      replace h_142 : (TS q_141) ∧ (dFr [] [22, 23, 24, 25] q_132 q_141) ∧ ((0 ≤ Int32.toInt (q_132.1 12 0) ∧ Int32.toInt (q_132.1 12 0) ≤ 99) → 0 ≤ Int32.toInt r_140 ∧ Int32.toInt r_140 ≤ 99) := h_142
                      obtain ⟨i_143, i_144, i_145⟩ := h_142
                      have hFq_141 : dFr [12, 20] [22, 23, 24, 25] q q_141 := hFq_132.t i_144 (by decide) (by decide)
                      have w_146 : Int32.toInt (q_132.1 12 0) = Int32.toInt (q_123.1 12 0) := by rw [i_135.1 12 (by decide) (by decide)]
                      unfold zX10_laysPrices_98
                      refine dOk_G (dg_ok (show 0 ≤ Int32.toInt r_128 by omega) (show Int32.toInt r_128 < ((588 : Nat) : Int) by omega)) ?_
                      have n_147 : ((Int32.toNatClampNeg r_128 : Nat) : Int) = Int32.toInt r_128 := cl_eq (by omega)
                      refine dOk_L (fun q_148 eq_148 => ?_)
                      have hTq_148 : TS q_148 := by rw [eq_148]; exact ts_set i_143 (by decide) (show -1 ≤ Int32.toInt r_140 by omega) (show Int32.toInt r_140 ≤ 99 by omega)
                      have hFq_148 : dFr [12, 20] [22, 23, 24, 25] q q_148 := by rw [eq_148]; exact hFq_141.i (by decide) (by decide)
                      try have t_149 : Int32.toInt (x4_70 + 1) = Int32.toInt x4_70 + 1 := ti_add rfl (by decide) (by omega) (by omega)
                      exact hk_64 (q_148, x1_4, x2_24, x3_46, (x4_70 + 1)) (show (TS q_148) ∧ (dFr [12, 20] [22, 23, 24, 25] q_43 q_148) ∧ (x1_4 = x1_4) ∧ (x2_24 = x2_24) ∧ (x3_46 = x3_46) ∧ (0 ≤ Int32.toInt (x4_70 + 1)) ∧ (Int32.toInt (x4_70 + 1) ≤ 2) from ⟨hTq_148, (by rw [eq_148]; exact (((((((((dFr.rf : dFr [12, 20] [22, 23, 24, 25] q_43 q_43).t a_72 (by decide) (by decide)) : dFr [12, 20] [22, 23, 24, 25] q_43 q_66).t i_126 (by decide) (by decide)) : dFr [12, 20] [22, 23, 24, 25] q_43 q_123).t i_135 (by decide) (by decide)) : dFr [12, 20] [22, 23, 24, 25] q_43 q_132).t i_144 (by decide) (by decide)) : dFr [12, 20] [22, 23, 24, 25] q_43 q_141).i (by decide) (by decide)), rfl, rfl, rfl, by omega, by omega⟩) (show (2 - Int32.toInt (x4_70 + 1)).toNat < (2 - Int32.toInt x4_70).toNat by omega)
                    · unfold zX10_laysPrices_98
                      refine dOk_G (dg_ok (show 0 ≤ Int32.toInt r_128 by omega) (show Int32.toInt r_128 < ((588 : Nat) : Int) by omega)) ?_
                      have n_150 : ((Int32.toNatClampNeg r_128 : Nat) : Int) = Int32.toInt r_128 := cl_eq (by omega)
                      refine dOk_L (fun q_151 eq_151 => ?_)
                      have hTq_151 : TS q_151 := by rw [eq_151]; exact ts_set i_134 (by decide) (show -1 ≤ (-1 : Int) by omega) (show (-1 : Int) ≤ 99 by omega)
                      have hFq_151 : dFr [12, 20] [22, 23, 24, 25] q q_151 := by rw [eq_151]; exact hFq_132.i (by decide) (by decide)
                      try have t_152 : Int32.toInt (x4_70 + 1) = Int32.toInt x4_70 + 1 := ti_add rfl (by decide) (by omega) (by omega)
                      exact hk_64 (q_151, x1_4, x2_24, x3_46, (x4_70 + 1)) (show (TS q_151) ∧ (dFr [12, 20] [22, 23, 24, 25] q_43 q_151) ∧ (x1_4 = x1_4) ∧ (x2_24 = x2_24) ∧ (x3_46 = x3_46) ∧ (0 ≤ Int32.toInt (x4_70 + 1)) ∧ (Int32.toInt (x4_70 + 1) ≤ 2) from ⟨hTq_151, (by rw [eq_151]; exact (((((((dFr.rf : dFr [12, 20] [22, 23, 24, 25] q_43 q_43).t a_72 (by decide) (by decide)) : dFr [12, 20] [22, 23, 24, 25] q_43 q_66).t i_126 (by decide) (by decide)) : dFr [12, 20] [22, 23, 24, 25] q_43 q_123).t i_135 (by decide) (by decide)) : dFr [12, 20] [22, 23, 24, 25] q_43 q_132).i (by decide) (by decide)), rfl, rfl, rfl, by omega, by omega⟩) (show (2 - Int32.toInt (x4_70 + 1)).toNat < (2 - Int32.toInt x4_70).toNat by omega)
              · exact (show (TS q_43) ∧ (dFr [12, 20] [22, 23, 24, 25] q_43 q_43) ∧ (x1_4 = x1_4) ∧ (x2_24 = x2_24) ∧ (x3_46 = x3_46) ∧ (0 ≤ (0 : Int)) ∧ ((0 : Int) ≤ 2) from ⟨a_47, dFr.rf, rfl, rfl, rfl, by omega, by omega⟩)
              · show (2 - (0 : Int)).toNat < 1000000000000
                omega
          · exact (show (TS q_22) ∧ (dFr [12, 20] [22, 23, 24, 25] q_22 q_22) ∧ (x1_4 = x1_4) ∧ (x2_24 = x2_24) ∧ (0 ≤ (0 : Int)) ∧ ((0 : Int) ≤ 7) from ⟨a_25, dFr.rf, rfl, rfl, by omega, by omega⟩)
          · show (7 - (0 : Int)).toNat < 1000000000000
            omega
      · exact (show (TS q_3) ∧ (dFr [12, 20] [22, 23, 24, 25] q_3 q_3) ∧ (x1_4 = x1_4) ∧ (0 ≤ (0 : Int)) ∧ ((0 : Int) ≤ 6) from ⟨a_5, dFr.rf, rfl, by omega, by omega⟩)
      · show (6 - (0 : Int)).toNat < 1000000000000
        omega
  · exact (show (TS q) ∧ (dFr [12, 20] [22, 23, 24, 25] q q) ∧ (1 ≤ (1 : Int)) ∧ ((1 : Int) ≤ 7) from ⟨hT, dFr.rf, by omega, by omega⟩)
  · show (7 - (1 : Int)).toNat < 1000000000000
    omega
