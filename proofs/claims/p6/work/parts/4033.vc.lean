set_option maxHeartbeats 4000000 in
set_option maxRecDepth 100000 in
theorem ok_laysPrices (q : dS) (hT : TS q) : dOk (zX10_laysPrices q) (fun (o : dS) => (TS o) ∧ (dFr [12, 16, 17, 18, 19, 20] [22, 23, 24, 25, 37, 38] q o) ∧ (Int32.toInt (o.1 0 37) = facI (Int32.toInt (q.1 2 29))) ∧ (Int32.toInt (o.1 0 38) = powI (Int32.toInt (q.1 2 29)))) := by
  unfold zX10_laysPrices
  refine dOk_V (ok_laysTables q hT) (fun q_1 h_2 => ?_)
  replace h_2 : (TS q_1) ∧ (dFr [16, 17, 18, 19] [37, 38] q q_1) ∧ (Int32.toInt (q_1.1 0 37) = facI (Int32.toInt (q.1 2 29))) ∧ (Int32.toInt (q_1.1 0 38) = powI (Int32.toInt (q.1 2 29))) := h_2
  obtain ⟨i_3, i_4, i_5, i_6⟩ := h_2
  have hFq_1 : dFr [12, 16, 17, 18, 19, 20] [22, 23, 24, 25, 37, 38] q q_1 := (dFr.rf (q := q)).t i_4 (by decide) (by decide)
  have f_7 : 0 ≤ Int32.toInt (q_1.1 0 37) ∧ Int32.toInt (q_1.1 0 37) ≤ 720 := i_3.1 0 37
  have f_8 : 0 ≤ Int32.toInt (q.1 2 29) ∧ Int32.toInt (q.1 2 29) ≤ 6 := hT.1 2 29
  have f_9 : 0 ≤ Int32.toInt (q_1.1 0 38) ∧ Int32.toInt (q_1.1 0 38) ≤ 64 := i_3.1 0 38
  unfold zX10_laysPrices_6
  refine dFix_ok (fun (a : dS × Int32) => (TS a.1) ∧ (dFr [12, 20] [22, 23, 24, 25] q_1 a.1) ∧ (1 ≤ Int32.toInt a.2) ∧ (Int32.toInt a.2 ≤ 7)) (fun (a : dS × Int32) => (7 - Int32.toInt a.2).toNat) ?_ _ ?_ _ (dF_gt ?_)
  · intro a ha k_11 hk_10
    obtain ⟨q_12, x1_13⟩ := a
    replace ha : (TS q_12) ∧ (dFr [12, 20] [22, 23, 24, 25] q_1 q_12) ∧ (1 ≤ Int32.toInt x1_13) ∧ (Int32.toInt x1_13 ≤ 7) := ha
    obtain ⟨a_14, a_15, a_16, a_17⟩ := ha
    show dOk (zX10_laysPrices_6b  (fun q x1 => k_11 (q, x1)) q_12 x1_13) _
    unfold zX10_laysPrices_6b
    have hFq_12 : dFr [12, 16, 17, 18, 19, 20] [22, 23, 24, 25, 37, 38] q q_12 := hFq_1.t a_15 (by decide) (by decide)
    refine dOk_B (ok_size q_12 a_14) (fun r_18 q_19 h_20 => ?_)
    replace h_20 : (q_19 = q_12) ∧ (Int32.toInt r_18 = Int32.toInt (q_12.1 2 29)) ∧ (0 ≤ Int32.toInt r_18 ∧ Int32.toInt r_18 ≤ 6) := h_20
    obtain ⟨i_21, i_22, i_23⟩ := h_20
    subst q_19
    have f_24 : 0 ≤ Int32.toInt (q_12.1 2 29) ∧ Int32.toInt (q_12.1 2 29) ≤ 6 := a_14.1 2 29
    have f_25 : 0 ≤ Int32.toInt (q_1.1 2 29) ∧ Int32.toInt (q_1.1 2 29) ≤ 6 := i_3.1 2 29
    have w_26 : Int32.toInt (q_1.1 2 29) = Int32.toInt (q.1 2 29) := by rw [i_4.1 2 (by decide) (by decide)]
    have w_27 : Int32.toInt (q_12.1 2 29) = Int32.toInt (q_1.1 2 29) := by rw [a_15.1 2 (by decide) (by decide)]
    refine dOk_lt (A := Int32.toInt r_18) (B := Int32.toInt x1_13) rfl rfl (fun c_28 => ?_) (fun c_29 => ?_)
    · have f_30 : 0 ≤ Int32.toInt (q_12.1 0 37) ∧ Int32.toInt (q_12.1 0 37) ≤ 720 := a_14.1 0 37
      have w_31 : Int32.toInt (q_12.1 0 37) = Int32.toInt (q_1.1 0 37) := by rw [a_15.2 37 (by decide)]
      have f_32 : 0 ≤ Int32.toInt (q_12.1 0 38) ∧ Int32.toInt (q_12.1 0 38) ≤ 64 := a_14.1 0 38
      have w_33 : Int32.toInt (q_12.1 0 38) = Int32.toInt (q_1.1 0 38) := by rw [a_15.2 38 (by decide)]
      exact dOk_some (show (TS q_12) ∧ (dFr [12, 16, 17, 18, 19, 20] [22, 23, 24, 25, 37, 38] q q_12) ∧ (Int32.toInt (q_12.1 0 37) = facI (Int32.toInt (q.1 2 29))) ∧ (Int32.toInt (q_12.1 0 38) = powI (Int32.toInt (q.1 2 29))) from ⟨a_14, hFq_12, by ((try unfold facI at *); (try unfold facI); omega), by ((try unfold powI at *); (try unfold powI); omega)⟩)
    · unfold zX10_laysPrices_16
      refine dFix_ok (fun (a : dS × Int32 × Int32) => (TS a.1) ∧ (dFr [12, 20] [22, 23, 24, 25] q_12 a.1) ∧ (a.2.1 = x1_13) ∧ (0 ≤ Int32.toInt a.2.2) ∧ (Int32.toInt a.2.2 ≤ 6)) (fun (a : dS × Int32 × Int32) => (6 - Int32.toInt a.2.2).toNat) ?_ _ ?_ _ (dF_gt ?_)
      · intro a ha k_35 hk_34
        obtain ⟨q_36, x1_37, x2_38⟩ := a
        replace ha : (TS q_36) ∧ (dFr [12, 20] [22, 23, 24, 25] q_12 q_36) ∧ (x1_37 = x1_13) ∧ (0 ≤ Int32.toInt x2_38) ∧ (Int32.toInt x2_38 ≤ 6) := ha
        obtain ⟨a_39, a_40, a_41, a_42, a_43⟩ := ha
        show dOk (zX10_laysPrices_16b _ (fun q x1 x2 => k_35 (q, x1, x2)) q_36 x1_37 x2_38) _
        unfold zX10_laysPrices_16b
        have hFq_36 : dFr [12, 16, 17, 18, 19, 20] [22, 23, 24, 25, 37, 38] q q_36 := hFq_12.t a_40 (by decide) (by decide)
        subst x1_37
        refine dOk_B (ok_size q_36 a_39) (fun r_44 q_45 h_46 => ?_)
        replace h_46 : (q_45 = q_36) ∧ (Int32.toInt r_44 = Int32.toInt (q_36.1 2 29)) ∧ (0 ≤ Int32.toInt r_44 ∧ Int32.toInt r_44 ≤ 6) := h_46
        obtain ⟨i_47, i_48, i_49⟩ := h_46
        subst q_45
        have f_50 : 0 ≤ Int32.toInt (q_36.1 2 29) ∧ Int32.toInt (q_36.1 2 29) ≤ 6 := a_39.1 2 29
        have w_51 : Int32.toInt (q_36.1 2 29) = Int32.toInt (q_12.1 2 29) := by rw [a_40.1 2 (by decide) (by decide)]
        refine dOk_le (A := Int32.toInt r_44) (B := Int32.toInt x2_38) rfl rfl (fun c_52 => ?_) (fun c_53 => ?_)
        · try have t_54 : Int32.toInt (x1_13 + 1) = Int32.toInt x1_13 + 1 := ti_add rfl (by decide) (by omega) (by omega)
          exact hk_10 (q_36, (x1_13 + 1)) (show (TS q_36) ∧ (dFr [12, 20] [22, 23, 24, 25] q_1 q_36) ∧ (1 ≤ Int32.toInt (x1_13 + 1)) ∧ (Int32.toInt (x1_13 + 1) ≤ 7) from ⟨a_39, ((((dFr.rf : dFr [12, 20] [22, 23, 24, 25] q_1 q_1).t a_15 (by decide) (by decide)) : dFr [12, 20] [22, 23, 24, 25] q_1 q_12).t a_40 (by decide) (by decide)), by omega, by omega⟩) (show (7 - Int32.toInt (x1_13 + 1)).toNat < (7 - Int32.toInt x1_13).toNat by omega)
        · unfold zX10_laysPrices_26
          refine dFix_ok (fun (a : dS × Int32 × Int32 × Int32) => (TS a.1) ∧ (dFr [12, 20] [22, 23, 24, 25] q_36 a.1) ∧ (a.2.1 = x1_13) ∧ (a.2.2.1 = x2_38) ∧ (0 ≤ Int32.toInt a.2.2.2) ∧ (Int32.toInt a.2.2.2 ≤ 7)) (fun (a : dS × Int32 × Int32 × Int32) => (7 - Int32.toInt a.2.2.2).toNat) ?_ _ ?_ _ (dF_gt ?_)
          · intro a ha k_56 hk_55
            obtain ⟨q_57, x1_58, x2_59, x3_60⟩ := a
            replace ha : (TS q_57) ∧ (dFr [12, 20] [22, 23, 24, 25] q_36 q_57) ∧ (x1_58 = x1_13) ∧ (x2_59 = x2_38) ∧ (0 ≤ Int32.toInt x3_60) ∧ (Int32.toInt x3_60 ≤ 7) := ha
            obtain ⟨a_61, a_62, a_63, a_64, a_65, a_66⟩ := ha
            show dOk (zX10_laysPrices_26b _ _ (fun q x1 x2 x3 => k_56 (q, x1, x2, x3)) q_57 x1_58 x2_59 x3_60) _
            unfold zX10_laysPrices_26b
            have hFq_57 : dFr [12, 16, 17, 18, 19, 20] [22, 23, 24, 25, 37, 38] q q_57 := hFq_36.t a_62 (by decide) (by decide)
            subst x1_58
            subst x2_59
            refine dOk_B (ok_size q_57 a_61) (fun r_67 q_68 h_69 => ?_)
            replace h_69 : (q_68 = q_57) ∧ (Int32.toInt r_67 = Int32.toInt (q_57.1 2 29)) ∧ (0 ≤ Int32.toInt r_67 ∧ Int32.toInt r_67 ≤ 6) := h_69
            obtain ⟨i_70, i_71, i_72⟩ := h_69
            subst q_68
            have f_73 : 0 ≤ Int32.toInt (q_57.1 2 29) ∧ Int32.toInt (q_57.1 2 29) ≤ 6 := a_61.1 2 29
            have w_74 : Int32.toInt (q_57.1 2 29) = Int32.toInt (q_36.1 2 29) := by rw [a_62.1 2 (by decide) (by decide)]
            refine dOk_lt (A := Int32.toInt r_67) (B := Int32.toInt x3_60) rfl rfl (fun c_75 => ?_) (fun c_76 => ?_)
            · try have t_77 : Int32.toInt (x2_38 + 1) = Int32.toInt x2_38 + 1 := ti_add rfl (by decide) (by omega) (by omega)
              exact hk_34 (q_57, x1_13, (x2_38 + 1)) (show (TS q_57) ∧ (dFr [12, 20] [22, 23, 24, 25] q_12 q_57) ∧ (x1_13 = x1_13) ∧ (0 ≤ Int32.toInt (x2_38 + 1)) ∧ (Int32.toInt (x2_38 + 1) ≤ 6) from ⟨a_61, ((((dFr.rf : dFr [12, 20] [22, 23, 24, 25] q_12 q_12).t a_40 (by decide) (by decide)) : dFr [12, 20] [22, 23, 24, 25] q_12 q_36).t a_62 (by decide) (by decide)), rfl, by omega, by omega⟩) (show (6 - Int32.toInt (x2_38 + 1)).toNat < (6 - Int32.toInt x2_38).toNat by omega)
            · unfold zX10_laysPrices_37
              refine dFix_ok (fun (a : dS × Int32 × Int32 × Int32 × Int32) => (TS a.1) ∧ (dFr [12, 20] [22, 23, 24, 25] q_57 a.1) ∧ (a.2.1 = x1_13) ∧ (a.2.2.1 = x2_38) ∧ (a.2.2.2.1 = x3_60) ∧ (0 ≤ Int32.toInt a.2.2.2.2) ∧ (Int32.toInt a.2.2.2.2 ≤ 2)) (fun (a : dS × Int32 × Int32 × Int32 × Int32) => (2 - Int32.toInt a.2.2.2.2).toNat) ?_ _ ?_ _ (dF_gt ?_)
              · intro a ha k_79 hk_78
                obtain ⟨q_80, x1_81, x2_82, x3_83, x4_84⟩ := a
                replace ha : (TS q_80) ∧ (dFr [12, 20] [22, 23, 24, 25] q_57 q_80) ∧ (x1_81 = x1_13) ∧ (x2_82 = x2_38) ∧ (x3_83 = x3_60) ∧ (0 ≤ Int32.toInt x4_84) ∧ (Int32.toInt x4_84 ≤ 2) := ha
                obtain ⟨a_85, a_86, a_87, a_88, a_89, a_90, a_91⟩ := ha
                show dOk (zX10_laysPrices_37b _ _ _ (fun q x1 x2 x3 x4 => k_79 (q, x1, x2, x3, x4)) q_80 x1_81 x2_82 x3_83 x4_84) _
                unfold zX10_laysPrices_37b
                have hFq_80 : dFr [12, 16, 17, 18, 19, 20] [22, 23, 24, 25, 37, 38] q q_80 := hFq_57.t a_86 (by decide) (by decide)
                subst x1_81
                subst x2_82
                subst x3_83
                refine dOk_le (A := 2) (B := Int32.toInt x4_84) (by decide) rfl (fun c_92 => ?_) (fun c_93 => ?_)
                · try have t_94 : Int32.toInt (x3_60 + 1) = Int32.toInt x3_60 + 1 := ti_add rfl (by decide) (by omega) (by omega)
                  exact hk_55 (q_80, x1_13, x2_38, (x3_60 + 1)) (show (TS q_80) ∧ (dFr [12, 20] [22, 23, 24, 25] q_36 q_80) ∧ (x1_13 = x1_13) ∧ (x2_38 = x2_38) ∧ (0 ≤ Int32.toInt (x3_60 + 1)) ∧ (Int32.toInt (x3_60 + 1) ≤ 7) from ⟨a_85, ((((dFr.rf : dFr [12, 20] [22, 23, 24, 25] q_36 q_36).t a_62 (by decide) (by decide)) : dFr [12, 20] [22, 23, 24, 25] q_36 q_57).t a_86 (by decide) (by decide)), rfl, rfl, by omega, by omega⟩) (show (7 - Int32.toInt (x3_60 + 1)).toNat < (7 - Int32.toInt x3_60).toNat by omega)
                · refine dOk_B (ok_rankOf q_80 x2_38 a_85) (fun r_95 q_96 h_97 => ?_)
                  replace h_97 : (q_96 = q_80) := h_97
                  have i_98 := h_97
                  subst q_96
                  refine dOk_eq (A := Int32.toInt x3_60) (B := 0) rfl (by decide) (fun c_99z c_99 => ?_) (fun c_100z c_100 => ?_)
                  · unfold zX10_laysPrices_65
                    refine dOk_V (ok_setsTurn q_80 x1_13 r_95 (-1) x4_84 a_85) (fun q_102 h_103 => ?_)
                    replace h_103 : (TS q_102) ∧ (dFr [12] [] q_80 q_102) ∧ (Int32.toInt (q_102.1 12 0) = Int32.toInt x1_13) := h_103
                    obtain ⟨i_104, i_105, i_106⟩ := h_103
                    have hFq_102 : dFr [12, 16, 17, 18, 19, 20] [22, 23, 24, 25, 37, 38] q q_102 := hFq_80.t i_105 (by decide) (by decide)
                    refine dOk_V (ok_askedAt x1_13 x2_38 x3_60 x4_84 (show 0 ≤ Int32.toInt x1_13 ∧ Int32.toInt x1_13 ≤ 6 by omega) (show 0 ≤ Int32.toInt x2_38 ∧ Int32.toInt x2_38 ≤ 5 by omega) (show 0 ≤ Int32.toInt x3_60 ∧ Int32.toInt x3_60 ≤ 6 by omega) (show 0 ≤ Int32.toInt x4_84 ∧ Int32.toInt x4_84 ≤ 1 by omega)) (fun r_107 h_108 => ?_)
                    replace h_108 : (Int32.toInt r_107 = ((Int32.toInt x1_13 * 6 + Int32.toInt x2_38) * 7 + Int32.toInt x3_60) * 2 + Int32.toInt x4_84) := h_108
                    have i_109 := h_108
                    refine dOk_B (ok_isNow q_102 2 i_104) (fun r_110 q_111 h_112 => ?_)
                    replace h_112 : (TS q_111) ∧ (dFr [] [22, 23, 24, 25] q_102 q_111) ∧ ((Int32.toInt r_110 = 0 ∨ Int32.toInt r_110 = 1)) := h_112
                    obtain ⟨i_113, i_114, i_115⟩ := h_112
                    have hFq_111 : dFr [12, 16, 17, 18, 19, 20] [22, 23, 24, 25, 37, 38] q q_111 := hFq_102.t i_114 (by decide) (by decide)
                    refine dOk_eq (A := Int32.toInt r_110) (B := 0) rfl (by decide) (fun c_116z c_116 => ?_) (fun c_117z c_117 => ?_)
                    · refine dOk_B (ok_paysNow q_111 i_113) (fun r_119 q_120 h_121 => ?_)
                      replace h_121 : (TS q_120) ∧ (dFr [] [22, 23, 24, 25] q_111 q_120) ∧ ((0 ≤ Int32.toInt (q_111.1 12 0) ∧ Int32.toInt (q_111.1 12 0) ≤ 99) → 0 ≤ Int32.toInt r_119 ∧ Int32.toInt r_119 ≤ 99) := h_121
                      obtain ⟨i_122, i_123, i_124⟩ := h_121
                      have hFq_120 : dFr [12, 16, 17, 18, 19, 20] [22, 23, 24, 25, 37, 38] q q_120 := hFq_111.t i_123 (by decide) (by decide)
                      have w_125 : Int32.toInt (q_111.1 12 0) = Int32.toInt (q_102.1 12 0) := by rw [i_114.1 12 (by decide) (by decide)]
                      unfold zX10_laysPrices_98
                      refine dOk_G (dg_ok (show 0 ≤ Int32.toInt r_107 by omega) (show Int32.toInt r_107 < ((588 : Nat) : Int) by omega)) ?_
                      have n_126 : ((Int32.toNatClampNeg r_107 : Nat) : Int) = Int32.toInt r_107 := cl_eq (by omega)
                      refine dOk_L (fun q_127 eq_127 => ?_)
                      have hTq_127 : TS q_127 := by rw [eq_127]; exact ts_set i_122 (by decide) (show -1 ≤ Int32.toInt r_119 by omega) (show Int32.toInt r_119 ≤ 99 by omega)
                      have hFq_127 : dFr [12, 16, 17, 18, 19, 20] [22, 23, 24, 25, 37, 38] q q_127 := by rw [eq_127]; exact hFq_120.i (by decide) (by decide)
                      try have t_128 : Int32.toInt (x4_84 + 1) = Int32.toInt x4_84 + 1 := ti_add rfl (by decide) (by omega) (by omega)
                      exact hk_78 (q_127, x1_13, x2_38, x3_60, (x4_84 + 1)) (show (TS q_127) ∧ (dFr [12, 20] [22, 23, 24, 25] q_57 q_127) ∧ (x1_13 = x1_13) ∧ (x2_38 = x2_38) ∧ (x3_60 = x3_60) ∧ (0 ≤ Int32.toInt (x4_84 + 1)) ∧ (Int32.toInt (x4_84 + 1) ≤ 2) from ⟨hTq_127, (by rw [eq_127]; exact (((((((((dFr.rf : dFr [12, 20] [22, 23, 24, 25] q_57 q_57).t a_86 (by decide) (by decide)) : dFr [12, 20] [22, 23, 24, 25] q_57 q_80).t i_105 (by decide) (by decide)) : dFr [12, 20] [22, 23, 24, 25] q_57 q_102).t i_114 (by decide) (by decide)) : dFr [12, 20] [22, 23, 24, 25] q_57 q_111).t i_123 (by decide) (by decide)) : dFr [12, 20] [22, 23, 24, 25] q_57 q_120).i (by decide) (by decide)), rfl, rfl, rfl, by omega, by omega⟩) (show (2 - Int32.toInt (x4_84 + 1)).toNat < (2 - Int32.toInt x4_84).toNat by omega)
                    · unfold zX10_laysPrices_98
                      refine dOk_G (dg_ok (show 0 ≤ Int32.toInt r_107 by omega) (show Int32.toInt r_107 < ((588 : Nat) : Int) by omega)) ?_
                      have n_129 : ((Int32.toNatClampNeg r_107 : Nat) : Int) = Int32.toInt r_107 := cl_eq (by omega)
                      refine dOk_L (fun q_130 eq_130 => ?_)
                      have hTq_130 : TS q_130 := by rw [eq_130]; exact ts_set i_113 (by decide) (show -1 ≤ (-1 : Int) by omega) (show (-1 : Int) ≤ 99 by omega)
                      have hFq_130 : dFr [12, 16, 17, 18, 19, 20] [22, 23, 24, 25, 37, 38] q q_130 := by rw [eq_130]; exact hFq_111.i (by decide) (by decide)
                      try have t_131 : Int32.toInt (x4_84 + 1) = Int32.toInt x4_84 + 1 := ti_add rfl (by decide) (by omega) (by omega)
                      exact hk_78 (q_130, x1_13, x2_38, x3_60, (x4_84 + 1)) (show (TS q_130) ∧ (dFr [12, 20] [22, 23, 24, 25] q_57 q_130) ∧ (x1_13 = x1_13) ∧ (x2_38 = x2_38) ∧ (x3_60 = x3_60) ∧ (0 ≤ Int32.toInt (x4_84 + 1)) ∧ (Int32.toInt (x4_84 + 1) ≤ 2) from ⟨hTq_130, (by rw [eq_130]; exact (((((((dFr.rf : dFr [12, 20] [22, 23, 24, 25] q_57 q_57).t a_86 (by decide) (by decide)) : dFr [12, 20] [22, 23, 24, 25] q_57 q_80).t i_105 (by decide) (by decide)) : dFr [12, 20] [22, 23, 24, 25] q_57 q_102).t i_114 (by decide) (by decide)) : dFr [12, 20] [22, 23, 24, 25] q_57 q_111).i (by decide) (by decide)), rfl, rfl, rfl, by omega, by omega⟩) (show (2 - Int32.toInt (x4_84 + 1)).toNat < (2 - Int32.toInt x4_84).toNat by omega)
                  · try have t_132 : Int32.toInt (x3_60 - 1) = Int32.toInt x3_60 - 1 := ti_sub rfl (by decide) (by omega) (by omega)
                    refine dOk_B (ok_rankOf q_80 (x3_60 - 1) a_85) (fun r_133 q_134 h_135 => ?_)
                    replace h_135 : (q_134 = q_80) := h_135
                    have i_136 := h_135
                    subst q_134
                    unfold zX10_laysPrices_65
                    refine dOk_V (ok_setsTurn q_80 x1_13 r_95 r_133 x4_84 a_85) (fun q_137 h_138 => ?_)
                    replace h_138 : (TS q_137) ∧ (dFr [12] [] q_80 q_137) ∧ (Int32.toInt (q_137.1 12 0) = Int32.toInt x1_13) := h_138
                    obtain ⟨i_139, i_140, i_141⟩ := h_138
                    have hFq_137 : dFr [12, 16, 17, 18, 19, 20] [22, 23, 24, 25, 37, 38] q q_137 := hFq_80.t i_140 (by decide) (by decide)
                    refine dOk_V (ok_askedAt x1_13 x2_38 x3_60 x4_84 (show 0 ≤ Int32.toInt x1_13 ∧ Int32.toInt x1_13 ≤ 6 by omega) (show 0 ≤ Int32.toInt x2_38 ∧ Int32.toInt x2_38 ≤ 5 by omega) (show 0 ≤ Int32.toInt x3_60 ∧ Int32.toInt x3_60 ≤ 6 by omega) (show 0 ≤ Int32.toInt x4_84 ∧ Int32.toInt x4_84 ≤ 1 by omega)) (fun r_142 h_143 => ?_)
                    replace h_143 : (Int32.toInt r_142 = ((Int32.toInt x1_13 * 6 + Int32.toInt x2_38) * 7 + Int32.toInt x3_60) * 2 + Int32.toInt x4_84) := h_143
                    have i_144 := h_143
                    refine dOk_B (ok_isNow q_137 2 i_139) (fun r_145 q_146 h_147 => ?_)
                    replace h_147 : (TS q_146) ∧ (dFr [] [22, 23, 24, 25] q_137 q_146) ∧ ((Int32.toInt r_145 = 0 ∨ Int32.toInt r_145 = 1)) := h_147
                    obtain ⟨i_148, i_149, i_150⟩ := h_147
                    have hFq_146 : dFr [12, 16, 17, 18, 19, 20] [22, 23, 24, 25, 37, 38] q q_146 := hFq_137.t i_149 (by decide) (by decide)
                    refine dOk_eq (A := Int32.toInt r_145) (B := 0) rfl (by decide) (fun c_151z c_151 => ?_) (fun c_152z c_152 => ?_)
                    · refine dOk_B (ok_paysNow q_146 i_148) (fun r_154 q_155 h_156 => ?_)
                      replace h_156 : (TS q_155) ∧ (dFr [] [22, 23, 24, 25] q_146 q_155) ∧ ((0 ≤ Int32.toInt (q_146.1 12 0) ∧ Int32.toInt (q_146.1 12 0) ≤ 99) → 0 ≤ Int32.toInt r_154 ∧ Int32.toInt r_154 ≤ 99) := h_156
                      obtain ⟨i_157, i_158, i_159⟩ := h_156
                      have hFq_155 : dFr [12, 16, 17, 18, 19, 20] [22, 23, 24, 25, 37, 38] q q_155 := hFq_146.t i_158 (by decide) (by decide)
                      have w_160 : Int32.toInt (q_146.1 12 0) = Int32.toInt (q_137.1 12 0) := by rw [i_149.1 12 (by decide) (by decide)]
                      unfold zX10_laysPrices_98
                      refine dOk_G (dg_ok (show 0 ≤ Int32.toInt r_142 by omega) (show Int32.toInt r_142 < ((588 : Nat) : Int) by omega)) ?_
                      have n_161 : ((Int32.toNatClampNeg r_142 : Nat) : Int) = Int32.toInt r_142 := cl_eq (by omega)
                      refine dOk_L (fun q_162 eq_162 => ?_)
                      have hTq_162 : TS q_162 := by rw [eq_162]; exact ts_set i_157 (by decide) (show -1 ≤ Int32.toInt r_154 by omega) (show Int32.toInt r_154 ≤ 99 by omega)
                      have hFq_162 : dFr [12, 16, 17, 18, 19, 20] [22, 23, 24, 25, 37, 38] q q_162 := by rw [eq_162]; exact hFq_155.i (by decide) (by decide)
                      try have t_163 : Int32.toInt (x4_84 + 1) = Int32.toInt x4_84 + 1 := ti_add rfl (by decide) (by omega) (by omega)
                      exact hk_78 (q_162, x1_13, x2_38, x3_60, (x4_84 + 1)) (show (TS q_162) ∧ (dFr [12, 20] [22, 23, 24, 25] q_57 q_162) ∧ (x1_13 = x1_13) ∧ (x2_38 = x2_38) ∧ (x3_60 = x3_60) ∧ (0 ≤ Int32.toInt (x4_84 + 1)) ∧ (Int32.toInt (x4_84 + 1) ≤ 2) from ⟨hTq_162, (by rw [eq_162]; exact (((((((((dFr.rf : dFr [12, 20] [22, 23, 24, 25] q_57 q_57).t a_86 (by decide) (by decide)) : dFr [12, 20] [22, 23, 24, 25] q_57 q_80).t i_140 (by decide) (by decide)) : dFr [12, 20] [22, 23, 24, 25] q_57 q_137).t i_149 (by decide) (by decide)) : dFr [12, 20] [22, 23, 24, 25] q_57 q_146).t i_158 (by decide) (by decide)) : dFr [12, 20] [22, 23, 24, 25] q_57 q_155).i (by decide) (by decide)), rfl, rfl, rfl, by omega, by omega⟩) (show (2 - Int32.toInt (x4_84 + 1)).toNat < (2 - Int32.toInt x4_84).toNat by omega)
                    · unfold zX10_laysPrices_98
                      refine dOk_G (dg_ok (show 0 ≤ Int32.toInt r_142 by omega) (show Int32.toInt r_142 < ((588 : Nat) : Int) by omega)) ?_
                      have n_164 : ((Int32.toNatClampNeg r_142 : Nat) : Int) = Int32.toInt r_142 := cl_eq (by omega)
                      refine dOk_L (fun q_165 eq_165 => ?_)
                      have hTq_165 : TS q_165 := by rw [eq_165]; exact ts_set i_148 (by decide) (show -1 ≤ (-1 : Int) by omega) (show (-1 : Int) ≤ 99 by omega)
                      have hFq_165 : dFr [12, 16, 17, 18, 19, 20] [22, 23, 24, 25, 37, 38] q q_165 := by rw [eq_165]; exact hFq_146.i (by decide) (by decide)
                      try have t_166 : Int32.toInt (x4_84 + 1) = Int32.toInt x4_84 + 1 := ti_add rfl (by decide) (by omega) (by omega)
                      exact hk_78 (q_165, x1_13, x2_38, x3_60, (x4_84 + 1)) (show (TS q_165) ∧ (dFr [12, 20] [22, 23, 24, 25] q_57 q_165) ∧ (x1_13 = x1_13) ∧ (x2_38 = x2_38) ∧ (x3_60 = x3_60) ∧ (0 ≤ Int32.toInt (x4_84 + 1)) ∧ (Int32.toInt (x4_84 + 1) ≤ 2) from ⟨hTq_165, (by rw [eq_165]; exact (((((((dFr.rf : dFr [12, 20] [22, 23, 24, 25] q_57 q_57).t a_86 (by decide) (by decide)) : dFr [12, 20] [22, 23, 24, 25] q_57 q_80).t i_140 (by decide) (by decide)) : dFr [12, 20] [22, 23, 24, 25] q_57 q_137).t i_149 (by decide) (by decide)) : dFr [12, 20] [22, 23, 24, 25] q_57 q_146).i (by decide) (by decide)), rfl, rfl, rfl, by omega, by omega⟩) (show (2 - Int32.toInt (x4_84 + 1)).toNat < (2 - Int32.toInt x4_84).toNat by omega)
              · exact (show (TS q_57) ∧ (dFr [12, 20] [22, 23, 24, 25] q_57 q_57) ∧ (x1_13 = x1_13) ∧ (x2_38 = x2_38) ∧ (x3_60 = x3_60) ∧ (0 ≤ (0 : Int)) ∧ ((0 : Int) ≤ 2) from ⟨a_61, dFr.rf, rfl, rfl, rfl, by omega, by omega⟩)
              · show (2 - (0 : Int)).toNat < 1000000000000
                omega
          · exact (show (TS q_36) ∧ (dFr [12, 20] [22, 23, 24, 25] q_36 q_36) ∧ (x1_13 = x1_13) ∧ (x2_38 = x2_38) ∧ (0 ≤ (0 : Int)) ∧ ((0 : Int) ≤ 7) from ⟨a_39, dFr.rf, rfl, rfl, by omega, by omega⟩)
          · show (7 - (0 : Int)).toNat < 1000000000000
            omega
      · exact (show (TS q_12) ∧ (dFr [12, 20] [22, 23, 24, 25] q_12 q_12) ∧ (x1_13 = x1_13) ∧ (0 ≤ (0 : Int)) ∧ ((0 : Int) ≤ 6) from ⟨a_14, dFr.rf, rfl, by omega, by omega⟩)
      · show (6 - (0 : Int)).toNat < 1000000000000
        omega
  · exact (show (TS q_1) ∧ (dFr [12, 20] [22, 23, 24, 25] q_1 q_1) ∧ (1 ≤ (1 : Int)) ∧ ((1 : Int) ≤ 7) from ⟨i_3, dFr.rf, by omega, by omega⟩)
  · show (7 - (1 : Int)).toNat < 1000000000000
    omega
