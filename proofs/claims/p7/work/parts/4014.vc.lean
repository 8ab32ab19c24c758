set_option maxHeartbeats 4000000 in
set_option maxRecDepth 100000 in
theorem ok_row (q : dS) (hT : TS q) : dOk (zX10_row q) (fun (o : Int32 × dS) => (TS o.2) ∧ (dFr [1, 2] [0, 6, 13, 32] q o.2)) := by
  unfold zX10_row
  refine dOk_L (fun q_1 eq_1 => ?_)
  have l_2 : Int32.toInt 0 = 0 := by decide
  have hTq_1 : TS q_1 := by rw [eq_1]; exact ts_f hT (show 0 ≤ Int32.toInt 0 by omega) (show Int32.toInt 0 ≤ 400 by omega)
  have hFq_1 : dFr [1, 2] [0, 6, 13, 32] q q_1 := by rw [eq_1]; exact (dFr.rf (q := q)).f (by decide)
  have f_3 : 0 ≤ Int32.toInt (q.1 0 13) ∧ Int32.toInt (q.1 0 13) ≤ 400 := hT.1 0 13
  refine dOk_eq (A := Int32.toInt (q.1 0 13)) (B := 0) rfl (by decide) (fun c_4z c_4 => ?_) (fun c_5z c_5 => ?_)
  · have l_7 : Int32.toInt (-6) = (-6) := by decide
    refine dOk_B (ok_refuses q_1 (-6) hTq_1 (show (-6) ≤ Int32.toInt (-6) by omega) (show Int32.toInt (-6) ≤ 0 by omega)) (fun r_8 q_9 h_10 => ?_)
    have h_10 : (TS q_9) ∧ (dFr [1] [0] q_1 q_9) ∧ (Int32.toInt r_8 = Int32.toInt (-6)) := h_10
    obtain ⟨i_11, i_12, i_13⟩ := h_10
    have hFq_9 : dFr [1, 2] [0, 6, 13, 32] q q_9 := hFq_1.t i_12 (by decide) (by decide)
    exact dOk_some (show (TS q_9) ∧ (dFr [1, 2] [0, 6, 13, 32] q q_9) from ⟨i_11, hFq_9⟩)
  · refine dOk_L (fun q_14 eq_14 => ?_)
    try have t_15 : Int32.toInt (q.1 0 13 - q.1 0 13 / 2 * 2) = Int32.toInt (q.1 0 13) % 2 := ti_rem rfl (by decide) (by omega) (by omega)
    have hTq_14 : TS q_14 := by rw [eq_14]; exact ts_f hTq_1 (ti_rg _).1 (ti_rg _).2
    have hFq_14 : dFr [1, 2] [0, 6, 13, 32] q q_14 := by rw [eq_14]; exact hFq_1.f (by decide)
    unfold zX10_row_32
    refine dFix_ok (fun (a : dS × Int32 × Int32 × Int32) => (TS a.1) ∧ (dFr [2] [6] q_14 a.1) ∧ (a.2.1 = (q.1 0 13)) ∧ (0 ≤ Int32.toInt a.2.2.2) ∧ (Int32.toInt a.2.2.2 ≤ 402)) (fun (a : dS × Int32 × Int32 × Int32) => (402 - Int32.toInt a.2.2.2).toNat) ?_ _ ?_ _ (dF_gt ?_)
    · intro a ha k_17 hk_16
      obtain ⟨q_18, x1_19, x2_20, x3_21⟩ := a
      have ha : (TS q_18) ∧ (dFr [2] [6] q_14 q_18) ∧ (x1_19 = (q.1 0 13)) ∧ (0 ≤ Int32.toInt x3_21) ∧ (Int32.toInt x3_21 ≤ 402) := ha
      obtain ⟨a_22, a_23, a_24, a_25, a_26⟩ := ha
      show dOk (zX10_row_32b  (fun q x1 x2 x3 => k_17 (q, x1, x2, x3)) q_18 x1_19 x2_20 x3_21) _
      unfold zX10_row_32b
      have hFq_18 : dFr [1, 2] [0, 6, 13, 32] q q_18 := hFq_14.t a_23 (by decide) (by decide)
      subst x1_19
      try have t_27 : Int32.toInt (x3_21 + 2) = Int32.toInt x3_21 + 2 := ti_add rfl (by decide) (by omega) (by omega)
      refine dOk_lt (A := Int32.toInt (q.1 0 13)) (B := Int32.toInt (x3_21 + 2)) rfl rfl (fun c_28 => ?_) (fun c_29 => ?_)
      · refine dOk_B (ok_settled q_18 x2_20 a_22) (fun r_30 q_31 h_32 => ?_)
        have h_32 : (TS q_31) ∧ (dFr [] [0, 32] q_18 q_31) ∧ (Int32.toInt r_30 = Int32.toInt x2_20) := h_32
        obtain ⟨i_33, i_34, i_35⟩ := h_32
        have hFq_31 : dFr [1, 2] [0, 6, 13, 32] q q_31 := hFq_18.t i_34 (by decide) (by decide)
        exact dOk_some (show (TS q_31) ∧ (dFr [1, 2] [0, 6, 13, 32] q q_31) from ⟨i_33, hFq_31⟩)
      · refine dOk_B (ok_size q_18 a_22) (fun r_36 q_37 h_38 => ?_)
        have h_38 : (q_37 = q_18) ∧ (Int32.toInt r_36 = Int32.toInt (q_18.1 2 29)) ∧ (0 ≤ Int32.toInt r_36 ∧ Int32.toInt r_36 ≤ 6) := h_38
        obtain ⟨i_39, i_40, i_41⟩ := h_38
        subst q_37
        have f_42 : 0 ≤ Int32.toInt (q_18.1 2 29) ∧ Int32.toInt (q_18.1 2 29) ≤ 6 := a_22.1 2 29
        refine dOk_le (A := 6) (B := Int32.toInt r_36) (by decide) rfl (fun c_43 => ?_) (fun c_44 => ?_)
        · unfold zX10_row_92
          unfold zX10_row_93
          refine dOk_eq (A := 0) (B := 0) (by decide) (by decide) (fun c_45z c_45 => ?_) (fun c_46z c_46 => ?_)
          · unfold zX10_row_118
            refine dOk_eq (A := 0) (B := 0) (by decide) (by decide) (fun c_48z c_48 => ?_) (fun c_49z c_49 => ?_)
            · unfold zX10_row_129
              refine dOk_eq (A := 0) (B := 0) (by decide) (by decide) (fun c_51z c_51 => ?_) (fun c_52z c_52 => ?_)
              · unfold zX10_row_146
                refine dOk_L (fun q_54 eq_54 => ?_)
                try have t_55 : Int32.toInt (q_18.1 0 6 + 1) = Int32.toInt (q_18.1 0 6) + 1 := ti_add rfl (by decide) (by omega) (by omega)
                have hTq_54 : TS q_54 := by rw [eq_54]; exact ts_f a_22 (ti_rg _).1 (ti_rg _).2
                have hFq_54 : dFr [1, 2] [0, 6, 13, 32] q q_54 := by rw [eq_54]; exact hFq_18.f (by decide)
                try have t_56 : Int32.toInt (x2_20 + 0) = Int32.toInt x2_20 + 0 := ti_add rfl (by decide) (by omega) (by omega)
                exact hk_16 (q_54, (q.1 0 13), (x2_20 + 0), (x3_21 + 2)) (show (TS q_54) ∧ (dFr [2] [6] q_14 q_54) ∧ ((q.1 0 13) = (q.1 0 13)) ∧ (0 ≤ Int32.toInt (x3_21 + 2)) ∧ (Int32.toInt (x3_21 + 2) ≤ 402) from ⟨hTq_54, (by rw [eq_54]; exact ((((dFr.rf : dFr [2] [6] q_14 q_14)).t a_23 (by decide) (by decide))).f (by decide)), rfl, by omega, by omega⟩) (show (402 - Int32.toInt (x3_21 + 2)).toNat < (402 - Int32.toInt x3_21).toNat by omega)
              · unfold zX10_row_146
                refine dOk_L (fun q_57 eq_57 => ?_)
                try have t_58 : Int32.toInt (q_18.1 0 6 + 0) = Int32.toInt (q_18.1 0 6) + 0 := ti_add rfl (by decide) (by omega) (by omega)
                have hTq_57 : TS q_57 := by rw [eq_57]; exact ts_f a_22 (ti_rg _).1 (ti_rg _).2
                have hFq_57 : dFr [1, 2] [0, 6, 13, 32] q q_57 := by rw [eq_57]; exact hFq_18.f (by decide)
                try have t_59 : Int32.toInt (x2_20 + 0) = Int32.toInt x2_20 + 0 := ti_add rfl (by decide) (by omega) (by omega)
                exact hk_16 (q_57, (q.1 0 13), (x2_20 + 0), (x3_21 + 2)) (show (TS q_57) ∧ (dFr [2] [6] q_14 q_57) ∧ ((q.1 0 13) = (q.1 0 13)) ∧ (0 ≤ Int32.toInt (x3_21 + 2)) ∧ (Int32.toInt (x3_21 + 2) ≤ 402) from ⟨hTq_57, (by rw [eq_57]; exact ((((dFr.rf : dFr [2] [6] q_14 q_14)).t a_23 (by decide) (by decide))).f (by decide)), rfl, by omega, by omega⟩) (show (402 - Int32.toInt (x3_21 + 2)).toNat < (402 - Int32.toInt x3_21).toNat by omega)
            · unfold zX10_row_129
              refine dOk_eq (A := 0) (B := 0) (by decide) (by decide) (fun c_60z c_60 => ?_) (fun c_61z c_61 => ?_)
              · unfold zX10_row_146
                refine dOk_L (fun q_63 eq_63 => ?_)
                try have t_64 : Int32.toInt (q_18.1 0 6 + 1) = Int32.toInt (q_18.1 0 6) + 1 := ti_add rfl (by decide) (by omega) (by omega)
                have hTq_63 : TS q_63 := by rw [eq_63]; exact ts_f a_22 (ti_rg _).1 (ti_rg _).2
                have hFq_63 : dFr [1, 2] [0, 6, 13, 32] q q_63 := by rw [eq_63]; exact hFq_18.f (by decide)
                try have t_65 : Int32.toInt (x2_20 + 1) = Int32.toInt x2_20 + 1 := ti_add rfl (by decide) (by omega) (by omega)
                exact hk_16 (q_63, (q.1 0 13), (x2_20 + 1), (x3_21 + 2)) (show (TS q_63) ∧ (dFr [2] [6] q_14 q_63) ∧ ((q.1 0 13) = (q.1 0 13)) ∧ (0 ≤ Int32.toInt (x3_21 + 2)) ∧ (Int32.toInt (x3_21 + 2) ≤ 402) from ⟨hTq_63, (by rw [eq_63]; exact ((((dFr.rf : dFr [2] [6] q_14 q_14)).t a_23 (by decide) (by decide))).f (by decide)), rfl, by omega, by omega⟩) (show (402 - Int32.toInt (x3_21 + 2)).toNat < (402 - Int32.toInt x3_21).toNat by omega)
              · unfold zX10_row_146
                refine dOk_L (fun q_66 eq_66 => ?_)
                try have t_67 : Int32.toInt (q_18.1 0 6 + 0) = Int32.toInt (q_18.1 0 6) + 0 := ti_add rfl (by decide) (by omega) (by omega)
                have hTq_66 : TS q_66 := by rw [eq_66]; exact ts_f a_22 (ti_rg _).1 (ti_rg _).2
                have hFq_66 : dFr [1, 2] [0, 6, 13, 32] q q_66 := by rw [eq_66]; exact hFq_18.f (by decide)
                try have t_68 : Int32.toInt (x2_20 + 1) = Int32.toInt x2_20 + 1 := ti_add rfl (by decide) (by omega) (by omega)
                exact hk_16 (q_66, (q.1 0 13), (x2_20 + 1), (x3_21 + 2)) (show (TS q_66) ∧ (dFr [2] [6] q_14 q_66) ∧ ((q.1 0 13) = (q.1 0 13)) ∧ (0 ≤ Int32.toInt (x3_21 + 2)) ∧ (Int32.toInt (x3_21 + 2) ≤ 402) from ⟨hTq_66, (by rw [eq_66]; exact ((((dFr.rf : dFr [2] [6] q_14 q_14)).t a_23 (by decide) (by decide))).f (by decide)), rfl, by omega, by omega⟩) (show (402 - Int32.toInt (x3_21 + 2)).toNat < (402 - Int32.toInt x3_21).toNat by omega)
          · refine dOk_G (dg_ok (show 0 ≤ Int32.toInt x3_21 by omega) (show Int32.toInt x3_21 < ((400 : Nat) : Int) by omega)) ?_
            have n_69 : ((Int32.toNatClampNeg x3_21 : Nat) : Int) = Int32.toInt x3_21 := cl_eq (by omega)
            refine dOk_L (fun v_70 ev_70 => ?_)
            try have t_71 : Int32.toInt (x3_21 + 1) = Int32.toInt x3_21 + 1 := ti_add rfl (by decide) (by omega) (by omega)
            refine dOk_G (dg_ok (show 0 ≤ Int32.toInt (x3_21 + 1) by omega) (show Int32.toInt (x3_21 + 1) < ((400 : Nat) : Int) by omega)) ?_
            have n_72 : ((Int32.toNatClampNeg (x3_21 + 1) : Nat) : Int) = Int32.toInt (x3_21 + 1) := cl_eq (by omega)
            refine dOk_L (fun v_73 ev_73 => ?_)
            refine dOk_V (ok_adds q_18 v_70 v_73 a_22 (show Int32.toInt (q_18.1 2 29) < 6 by omega) (show 0 ≤ Int32.toInt v_70 ∧ Int32.toInt v_70 ≤ 5 by omega) (show 0 ≤ Int32.toInt v_73 ∧ Int32.toInt v_73 ≤ 1 by omega)) (fun q_74 h_75 => ?_)
            have h_75 : (TS q_74) ∧ (dFr [2] [] q_18 q_74) ∧ (Int32.toInt (q_74.1 2 29) = Int32.toInt (q_18.1 2 29) + 1) := h_75
            obtain ⟨i_76, i_77, i_78⟩ := h_75
            have hFq_74 : dFr [1, 2] [0, 6, 13, 32] q q_74 := hFq_18.t i_77 (by decide) (by decide)
            have f_79 : 0 ≤ Int32.toInt (q_74.1 2 29) ∧ Int32.toInt (q_74.1 2 29) ≤ 6 := i_76.1 2 29
            unfold zX10_row_118
            refine dOk_eq (A := 0) (B := 0) (by decide) (by decide) (fun c_80z c_80 => ?_) (fun c_81z c_81 => ?_)
            · unfold zX10_row_129
              refine dOk_eq (A := 0) (B := 0) (by decide) (by decide) (fun c_83z c_83 => ?_) (fun c_84z c_84 => ?_)
              · unfold zX10_row_146
                refine dOk_L (fun q_86 eq_86 => ?_)
                have w_87 : Int32.toInt (q_74.1 0 6) = Int32.toInt (q_18.1 0 6) := by rw [i_77.2 6 (by decide)]
                try have t_88 : Int32.toInt (q_74.1 0 6 + 1) = Int32.toInt (q_74.1 0 6) + 1 := ti_add rfl (by decide) (by omega) (by omega)
                have hTq_86 : TS q_86 := by rw [eq_86]; exact ts_f i_76 (ti_rg _).1 (ti_rg _).2
                have hFq_86 : dFr [1, 2] [0, 6, 13, 32] q q_86 := by rw [eq_86]; exact hFq_74.f (by decide)
                try have t_89 : Int32.toInt (x2_20 + 0) = Int32.toInt x2_20 + 0 := ti_add rfl (by decide) (by omega) (by omega)
                exact hk_16 (q_86, (q.1 0 13), (x2_20 + 0), (x3_21 + 2)) (show (TS q_86) ∧ (dFr [2] [6] q_14 q_86) ∧ ((q.1 0 13) = (q.1 0 13)) ∧ (0 ≤ Int32.toInt (x3_21 + 2)) ∧ (Int32.toInt (x3_21 + 2) ≤ 402) from ⟨hTq_86, (by rw [eq_86]; exact (((((((dFr.rf : dFr [2] [6] q_14 q_14)).t a_23 (by decide) (by decide)) : dFr [2] [6] q_14 q_18)).t i_77 (by decide) (by decide))).f (by decide)), rfl, by omega, by omega⟩) (show (402 - Int32.toInt (x3_21 + 2)).toNat < (402 - Int32.toInt x3_21).toNat by omega)
              · unfold zX10_row_146
                refine dOk_L (fun q_90 eq_90 => ?_)
                have w_91 : Int32.toInt (q_74.1 0 6) = Int32.toInt (q_18.1 0 6) := by rw [i_77.2 6 (by decide)]
                try have t_92 : Int32.toInt (q_74.1 0 6 + 0) = Int32.toInt (q_74.1 0 6) + 0 := ti_add rfl (by decide) (by omega) (by omega)
                have hTq_90 : TS q_90 := by rw [eq_90]; exact ts_f i_76 (ti_rg _).1 (ti_rg _).2
                have hFq_90 : dFr [1, 2] [0, 6, 13, 32] q q_90 := by rw [eq_90]; exact hFq_74.f (by decide)
                try have t_93 : Int32.toInt (x2_20 + 0) = Int32.toInt x2_20 + 0 := ti_add rfl (by decide) (by omega) (by omega)
                exact hk_16 (q_90, (q.1 0 13), (x2_20 + 0), (x3_21 + 2)) (show (TS q_90) ∧ (dFr [2] [6] q_14 q_90) ∧ ((q.1 0 13) = (q.1 0 13)) ∧ (0 ≤ Int32.toInt (x3_21 + 2)) ∧ (Int32.toInt (x3_21 + 2) ≤ 402) from ⟨hTq_90, (by rw [eq_90]; exact (((((((dFr.rf : dFr [2] [6] q_14 q_14)).t a_23 (by decide) (by decide)) : dFr [2] [6] q_14 q_18)).t i_77 (by decide) (by decide))).f (by decide)), rfl, by omega, by omega⟩) (show (402 - Int32.toInt (x3_21 + 2)).toNat < (402 - Int32.toInt x3_21).toNat by omega)
            · unfold zX10_row_129
              refine dOk_eq (A := 0) (B := 0) (by decide) (by decide) (fun c_94z c_94 => ?_) (fun c_95z c_95 => ?_)
              · unfold zX10_row_146
                refine dOk_L (fun q_97 eq_97 => ?_)
                have w_98 : Int32.toInt (q_74.1 0 6) = Int32.toInt (q_18.1 0 6) := by rw [i_77.2 6 (by decide)]
                try have t_99 : Int32.toInt (q_74.1 0 6 + 1) = Int32.toInt (q_74.1 0 6) + 1 := ti_add rfl (by decide) (by omega) (by omega)
                have hTq_97 : TS q_97 := by rw [eq_97]; exact ts_f i_76 (ti_rg _).1 (ti_rg _).2
                have hFq_97 : dFr [1, 2] [0, 6, 13, 32] q q_97 := by rw [eq_97]; exact hFq_74.f (by decide)
                try have t_100 : Int32.toInt (x2_20 + 1) = Int32.toInt x2_20 + 1 := ti_add rfl (by decide) (by omega) (by omega)
                exact hk_16 (q_97, (q.1 0 13), (x2_20 + 1), (x3_21 + 2)) (show (TS q_97) ∧ (dFr [2] [6] q_14 q_97) ∧ ((q.1 0 13) = (q.1 0 13)) ∧ (0 ≤ Int32.toInt (x3_21 + 2)) ∧ (Int32.toInt (x3_21 + 2) ≤ 402) from ⟨hTq_97, (by rw [eq_97]; exact (((((((dFr.rf : dFr [2] [6] q_14 q_14)).t a_23 (by decide) (by decide)) : dFr [2] [6] q_14 q_18)).t i_77 (by decide) (by decide))).f (by decide)), rfl, by omega, by omega⟩) (show (402 - Int32.toInt (x3_21 + 2)).toNat < (402 - Int32.toInt x3_21).toNat by omega)
              · unfold zX10_row_146
                refine dOk_L (fun q_101 eq_101 => ?_)
                have w_102 : Int32.toInt (q_74.1 0 6) = Int32.toInt (q_18.1 0 6) := by rw [i_77.2 6 (by decide)]
                try have t_103 : Int32.toInt (q_74.1 0 6 + 0) = Int32.toInt (q_74.1 0 6) + 0 := ti_add rfl (by decide) (by omega) (by omega)
                have hTq_101 : TS q_101 := by rw [eq_101]; exact ts_f i_76 (ti_rg _).1 (ti_rg _).2
                have hFq_101 : dFr [1, 2] [0, 6, 13, 32] q q_101 := by rw [eq_101]; exact hFq_74.f (by decide)
                try have t_104 : Int32.toInt (x2_20 + 1) = Int32.toInt x2_20 + 1 := ti_add rfl (by decide) (by omega) (by omega)
                exact hk_16 (q_101, (q.1 0 13), (x2_20 + 1), (x3_21 + 2)) (show (TS q_101) ∧ (dFr [2] [6] q_14 q_101) ∧ ((q.1 0 13) = (q.1 0 13)) ∧ (0 ≤ Int32.toInt (x3_21 + 2)) ∧ (Int32.toInt (x3_21 + 2) ≤ 402) from ⟨hTq_101, (by rw [eq_101]; exact (((((((dFr.rf : dFr [2] [6] q_14 q_14)).t a_23 (by decide) (by decide)) : dFr [2] [6] q_14 q_18)).t i_77 (by decide) (by decide))).f (by decide)), rfl, by omega, by omega⟩) (show (402 - Int32.toInt (x3_21 + 2)).toNat < (402 - Int32.toInt x3_21).toNat by omega)
        · refine dOk_G (dg_ok (show 0 ≤ Int32.toInt x3_21 by omega) (show Int32.toInt x3_21 < ((400 : Nat) : Int) by omega)) ?_
          have n_105 : ((Int32.toNatClampNeg x3_21 : Nat) : Int) = Int32.toInt x3_21 := cl_eq (by omega)
          refine dOk_L (fun v_106 ev_106 => ?_)
          refine dOk_V (ok_isRank v_106) (fun r_107 h_108 => ?_)
          have h_108 : ((Int32.toInt r_107 = 1 ∧ 0 ≤ Int32.toInt v_106 ∧ Int32.toInt v_106 ≤ 5) ∨ (Int32.toInt r_107 = 0 ∧ (Int32.toInt v_106 < 0 ∨ 5 < Int32.toInt v_106))) := h_108
          have i_109 := h_108
          refine dOk_eq (A := Int32.toInt r_107) (B := 0) rfl (by decide) (fun c_110z c_110 => ?_) (fun c_111z c_111 => ?_)
          · unfold zX10_row_92
            unfold zX10_row_93
            refine dOk_eq (A := 0) (B := 0) (by decide) (by decide) (fun c_113z c_113 => ?_) (fun c_114z c_114 => ?_)
            · unfold zX10_row_118
              refine dOk_eq (A := 0) (B := 0) (by decide) (by decide) (fun c_116z c_116 => ?_) (fun c_117z c_117 => ?_)
              · unfold zX10_row_129
                refine dOk_eq (A := 0) (B := 0) (by decide) (by decide) (fun c_119z c_119 => ?_) (fun c_120z c_120 => ?_)
                · unfold zX10_row_146
                  refine dOk_L (fun q_122 eq_122 => ?_)
                  try have t_123 : Int32.toInt (q_18.1 0 6 + 1) = Int32.toInt (q_18.1 0 6) + 1 := ti_add rfl (by decide) (by omega) (by omega)
                  have hTq_122 : TS q_122 := by rw [eq_122]; exact ts_f a_22 (ti_rg _).1 (ti_rg _).2
                  have hFq_122 : dFr [1, 2] [0, 6, 13, 32] q q_122 := by rw [eq_122]; exact hFq_18.f (by decide)
                  try have t_124 : Int32.toInt (x2_20 + 0) = Int32.toInt x2_20 + 0 := ti_add rfl (by decide) (by omega) (by omega)
                  exact hk_16 (q_122, (q.1 0 13), (x2_20 + 0), (x3_21 + 2)) (show (TS q_122) ∧ (dFr [2] [6] q_14 q_122) ∧ ((q.1 0 13) = (q.1 0 13)) ∧ (0 ≤ Int32.toInt (x3_21 + 2)) ∧ (Int32.toInt (x3_21 + 2) ≤ 402) from ⟨hTq_122, (by rw [eq_122]; exact ((((dFr.rf : dFr [2] [6] q_14 q_14)).t a_23 (by decide) (by decide))).f (by decide)), rfl, by omega, by omega⟩) (show (402 - Int32.toInt (x3_21 + 2)).toNat < (402 - Int32.toInt x3_21).toNat by omega)
                · unfold zX10_row_146
                  refine dOk_L (fun q_125 eq_125 => ?_)
                  try have t_126 : Int32.toInt (q_18.1 0 6 + 0) = Int32.toInt (q_18.1 0 6) + 0 := ti_add rfl (by decide) (by omega) (by omega)
                  have hTq_125 : TS q_125 := by rw [eq_125]; exact ts_f a_22 (ti_rg _).1 (ti_rg _).2
                  have hFq_125 : dFr [1, 2] [0, 6, 13, 32] q q_125 := by rw [eq_125]; exact hFq_18.f (by decide)
                  try have t_127 : Int32.toInt (x2_20 + 0) = Int32.toInt x2_20 + 0 := ti_add rfl (by decide) (by omega) (by omega)
                  exact hk_16 (q_125, (q.1 0 13), (x2_20 + 0), (x3_21 + 2)) (show (TS q_125) ∧ (dFr [2] [6] q_14 q_125) ∧ ((q.1 0 13) = (q.1 0 13)) ∧ (0 ≤ Int32.toInt (x3_21 + 2)) ∧ (Int32.toInt (x3_21 + 2) ≤ 402) from ⟨hTq_125, (by rw [eq_125]; exact ((((dFr.rf : dFr [2] [6] q_14 q_14)).t a_23 (by decide) (by decide))).f (by decide)), rfl, by omega, by omega⟩) (show (402 - Int32.toInt (x3_21 + 2)).toNat < (402 - Int32.toInt x3_21).toNat by omega)
              · unfold zX10_row_129
                refine dOk_eq (A := 0) (B := 0) (by decide) (by decide) (fun c_128z c_128 => ?_) (fun c_129z c_129 => ?_)
                · unfold zX10_row_146
                  refine dOk_L (fun q_131 eq_131 => ?_)
                  try have t_132 : Int32.toInt (q_18.1 0 6 + 1) = Int32.toInt (q_18.1 0 6) + 1 := ti_add rfl (by decide) (by omega) (by omega)
                  have hTq_131 : TS q_131 := by rw [eq_131]; exact ts_f a_22 (ti_rg _).1 (ti_rg _).2
                  have hFq_131 : dFr [1, 2] [0, 6, 13, 32] q q_131 := by rw [eq_131]; exact hFq_18.f (by decide)
                  try have t_133 : Int32.toInt (x2_20 + 1) = Int32.toInt x2_20 + 1 := ti_add rfl (by decide) (by omega) (by omega)
                  exact hk_16 (q_131, (q.1 0 13), (x2_20 + 1), (x3_21 + 2)) (show (TS q_131) ∧ (dFr [2] [6] q_14 q_131) ∧ ((q.1 0 13) = (q.1 0 13)) ∧ (0 ≤ Int32.toInt (x3_21 + 2)) ∧ (Int32.toInt (x3_21 + 2) ≤ 402) from ⟨hTq_131, (by rw [eq_131]; exact ((((dFr.rf : dFr [2] [6] q_14 q_14)).t a_23 (by decide) (by decide))).f (by decide)), rfl, by omega, by omega⟩) (show (402 - Int32.toInt (x3_21 + 2)).toNat < (402 - Int32.toInt x3_21).toNat by omega)
                · unfold zX10_row_146
                  refine dOk_L (fun q_134 eq_134 => ?_)
                  try have t_135 : Int32.toInt (q_18.1 0 6 + 0) = Int32.toInt (q_18.1 0 6) + 0 := ti_add rfl (by decide) (by omega) (by omega)
                  have hTq_134 : TS q_134 := by rw [eq_134]; exact ts_f a_22 (ti_rg _).1 (ti_rg _).2
                  have hFq_134 : dFr [1, 2] [0, 6, 13, 32] q q_134 := by rw [eq_134]; exact hFq_18.f (by decide)
                  try have t_136 : Int32.toInt (x2_20 + 1) = Int32.toInt x2_20 + 1 := ti_add rfl (by decide) (by omega) (by omega)
                  exact hk_16 (q_134, (q.1 0 13), (x2_20 + 1), (x3_21 + 2)) (show (TS q_134) ∧ (dFr [2] [6] q_14 q_134) ∧ ((q.1 0 13) = (q.1 0 13)) ∧ (0 ≤ Int32.toInt (x3_21 + 2)) ∧ (Int32.toInt (x3_21 + 2) ≤ 402) from ⟨hTq_134, (by rw [eq_134]; exact ((((dFr.rf : dFr [2] [6] q_14 q_14)).t a_23 (by decide) (by decide))).f (by decide)), rfl, by omega, by omega⟩) (show (402 - Int32.toInt (x3_21 + 2)).toNat < (402 - Int32.toInt x3_21).toNat by omega)
            · refine dOk_G (dg_ok (show 0 ≤ Int32.toInt x3_21 by omega) (show Int32.toInt x3_21 < ((400 : Nat) : Int) by omega)) ?_
              refine dOk_L (fun v_137 ev_137 => ?_)
              have w_138 : Int32.toInt v_137 = Int32.toInt v_106 := by rw [ev_137, ev_106]
              try have t_139 : Int32.toInt (x3_21 + 1) = Int32.toInt x3_21 + 1 := ti_add rfl (by decide) (by omega) (by omega)
              refine dOk_G (dg_ok (show 0 ≤ Int32.toInt (x3_21 + 1) by omega) (show Int32.toInt (x3_21 + 1) < ((400 : Nat) : Int) by omega)) ?_
              have n_140 : ((Int32.toNatClampNeg (x3_21 + 1) : Nat) : Int) = Int32.toInt (x3_21 + 1) := cl_eq (by omega)
              refine dOk_L (fun v_141 ev_141 => ?_)
              refine dOk_V (ok_adds q_18 v_137 v_141 a_22 (show Int32.toInt (q_18.1 2 29) < 6 by omega) (show 0 ≤ Int32.toInt v_137 ∧ Int32.toInt v_137 ≤ 5 by omega) (show 0 ≤ Int32.toInt v_141 ∧ Int32.toInt v_141 ≤ 1 by omega)) (fun q_142 h_143 => ?_)
              have h_143 : (TS q_142) ∧ (dFr [2] [] q_18 q_142) ∧ (Int32.toInt (q_142.1 2 29) = Int32.toInt (q_18.1 2 29) + 1) := h_143
              obtain ⟨i_144, i_145, i_146⟩ := h_143
              have hFq_142 : dFr [1, 2] [0, 6, 13, 32] q q_142 := hFq_18.t i_145 (by decide) (by decide)
              have f_147 : 0 ≤ Int32.toInt (q_142.1 2 29) ∧ Int32.toInt (q_142.1 2 29) ≤ 6 := i_144.1 2 29
              unfold zX10_row_118
              refine dOk_eq (A := 0) (B := 0) (by decide) (by decide) (fun c_148z c_148 => ?_) (fun c_149z c_149 => ?_)
              · unfold zX10_row_129
                refine dOk_eq (A := 0) (B := 0) (by decide) (by decide) (fun c_151z c_151 => ?_) (fun c_152z c_152 => ?_)
                · unfold zX10_row_146
                  refine dOk_L (fun q_154 eq_154 => ?_)
                  have w_155 : Int32.toInt (q_142.1 0 6) = Int32.toInt (q_18.1 0 6) := by rw [i_145.2 6 (by decide)]
                  try have t_156 : Int32.toInt (q_142.1 0 6 + 1) = Int32.toInt (q_142.1 0 6) + 1 := ti_add rfl (by decide) (by omega) (by omega)
                  have hTq_154 : TS q_154 := by rw [eq_154]; exact ts_f i_144 (ti_rg _).1 (ti_rg _).2
                  have hFq_154 : dFr [1, 2] [0, 6, 13, 32] q q_154 := by rw [eq_154]; exact hFq_142.f (by decide)
                  try have t_157 : Int32.toInt (x2_20 + 0) = Int32.toInt x2_20 + 0 := ti_add rfl (by decide) (by omega) (by omega)
                  exact hk_16 (q_154, (q.1 0 13), (x2_20 + 0), (x3_21 + 2)) (show (TS q_154) ∧ (dFr [2] [6] q_14 q_154) ∧ ((q.1 0 13) = (q.1 0 13)) ∧ (0 ≤ Int32.toInt (x3_21 + 2)) ∧ (Int32.toInt (x3_21 + 2) ≤ 402) from ⟨hTq_154, (by rw [eq_154]; exact (((((((dFr.rf : dFr [2] [6] q_14 q_14)).t a_23 (by decide) (by decide)) : dFr [2] [6] q_14 q_18)).t i_145 (by decide) (by decide))).f (by decide)), rfl, by omega, by omega⟩) (show (402 - Int32.toInt (x3_21 + 2)).toNat < (402 - Int32.toInt x3_21).toNat by omega)
                · unfold zX10_row_146
                  refine dOk_L (fun q_158 eq_158 => ?_)
                  have w_159 : Int32.toInt (q_142.1 0 6) = Int32.toInt (q_18.1 0 6) := by rw [i_145.2 6 (by decide)]
                  try have t_160 : Int32.toInt (q_142.1 0 6 + 0) = Int32.toInt (q_142.1 0 6) + 0 := ti_add rfl (by decide) (by omega) (by omega)
                  have hTq_158 : TS q_158 := by rw [eq_158]; exact ts_f i_144 (ti_rg _).1 (ti_rg _).2
                  have hFq_158 : dFr [1, 2] [0, 6, 13, 32] q q_158 := by rw [eq_158]; exact hFq_142.f (by decide)
                  try have t_161 : Int32.toInt (x2_20 + 0) = Int32.toInt x2_20 + 0 := ti_add rfl (by decide) (by omega) (by omega)
                  exact hk_16 (q_158, (q.1 0 13), (x2_20 + 0), (x3_21 + 2)) (show (TS q_158) ∧ (dFr [2] [6] q_14 q_158) ∧ ((q.1 0 13) = (q.1 0 13)) ∧ (0 ≤ Int32.toInt (x3_21 + 2)) ∧ (Int32.toInt (x3_21 + 2) ≤ 402) from ⟨hTq_158, (by rw [eq_158]; exact (((((((dFr.rf : dFr [2] [6] q_14 q_14)).t a_23 (by decide) (by decide)) : dFr [2] [6] q_14 q_18)).t i_145 (by decide) (by decide))).f (by decide)), rfl, by omega, by omega⟩) (show (402 - Int32.toInt (x3_21 + 2)).toNat < (402 - Int32.toInt x3_21).toNat by omega)
              · unfold zX10_row_129
                refine dOk_eq (A := 0) (B := 0) (by decide) (by decide) (fun c_162z c_162 => ?_) (fun c_163z c_163 => ?_)
                · unfold zX10_row_146
                  refine dOk_L (fun q_165 eq_165 => ?_)
                  have w_166 : Int32.toInt (q_142.1 0 6) = Int32.toInt (q_18.1 0 6) := by rw [i_145.2 6 (by decide)]
                  try have t_167 : Int32.toInt (q_142.1 0 6 + 1) = Int32.toInt (q_142.1 0 6) + 1 := ti_add rfl (by decide) (by omega) (by omega)
                  have hTq_165 : TS q_165 := by rw [eq_165]; exact ts_f i_144 (ti_rg _).1 (ti_rg _).2
                  have hFq_165 : dFr [1, 2] [0, 6, 13, 32] q q_165 := by rw [eq_165]; exact hFq_142.f (by decide)
                  try have t_168 : Int32.toInt (x2_20 + 1) = Int32.toInt x2_20 + 1 := ti_add rfl (by decide) (by omega) (by omega)
                  exact hk_16 (q_165, (q.1 0 13), (x2_20 + 1), (x3_21 + 2)) (show (TS q_165) ∧ (dFr [2] [6] q_14 q_165) ∧ ((q.1 0 13) = (q.1 0 13)) ∧ (0 ≤ Int32.toInt (x3_21 + 2)) ∧ (Int32.toInt (x3_21 + 2) ≤ 402) from ⟨hTq_165, (by rw [eq_165]; exact (((((((dFr.rf : dFr [2] [6] q_14 q_14)).t a_23 (by decide) (by decide)) : dFr [2] [6] q_14 q_18)).t i_145 (by decide) (by decide))).f (by decide)), rfl, by omega, by omega⟩) (show (402 - Int32.toInt (x3_21 + 2)).toNat < (402 - Int32.toInt x3_21).toNat by omega)
                · unfold zX10_row_146
                  refine dOk_L (fun q_169 eq_169 => ?_)
                  have w_170 : Int32.toInt (q_142.1 0 6) = Int32.toInt (q_18.1 0 6) := by rw [i_145.2 6 (by decide)]
                  try have t_171 : Int32.toInt (q_142.1 0 6 + 0) = Int32.toInt (q_142.1 0 6) + 0 := ti_add rfl (by decide) (by omega) (by omega)
                  have hTq_169 : TS q_169 := by rw [eq_169]; exact ts_f i_144 (ti_rg _).1 (ti_rg _).2
                  have hFq_169 : dFr [1, 2] [0, 6, 13, 32] q q_169 := by rw [eq_169]; exact hFq_142.f (by decide)
                  try have t_172 : Int32.toInt (x2_20 + 1) = Int32.toInt x2_20 + 1 := ti_add rfl (by decide) (by omega) (by omega)
                  exact hk_16 (q_169, (q.1 0 13), (x2_20 + 1), (x3_21 + 2)) (show (TS q_169) ∧ (dFr [2] [6] q_14 q_169) ∧ ((q.1 0 13) = (q.1 0 13)) ∧ (0 ≤ Int32.toInt (x3_21 + 2)) ∧ (Int32.toInt (x3_21 + 2) ≤ 402) from ⟨hTq_169, (by rw [eq_169]; exact (((((((dFr.rf : dFr [2] [6] q_14 q_14)).t a_23 (by decide) (by decide)) : dFr [2] [6] q_14 q_18)).t i_145 (by decide) (by decide))).f (by decide)), rfl, by omega, by omega⟩) (show (402 - Int32.toInt (x3_21 + 2)).toNat < (402 - Int32.toInt x3_21).toNat by omega)
          · try have t_173 : Int32.toInt (x3_21 + 1) = Int32.toInt x3_21 + 1 := ti_add rfl (by decide) (by omega) (by omega)
            refine dOk_G (dg_ok (show 0 ≤ Int32.toInt (x3_21 + 1) by omega) (show Int32.toInt (x3_21 + 1) < ((400 : Nat) : Int) by omega)) ?_
            have n_174 : ((Int32.toNatClampNeg (x3_21 + 1) : Nat) : Int) = Int32.toInt (x3_21 + 1) := cl_eq (by omega)
            refine dOk_L (fun v_175 ev_175 => ?_)
            refine dOk_V (ok_isBit v_175) (fun r_176 h_177 => ?_)
            have h_177 : ((Int32.toInt r_176 = 1 ∧ 0 ≤ Int32.toInt v_175 ∧ Int32.toInt v_175 ≤ 1) ∨ (Int32.toInt r_176 = 0 ∧ (Int32.toInt v_175 < 0 ∨ 1 < Int32.toInt v_175))) := h_177
            have i_178 := h_177
            refine dOk_eq (A := Int32.toInt r_176) (B := 0) rfl (by decide) (fun c_179z c_179 => ?_) (fun c_180z c_180 => ?_)
            · unfold zX10_row_92
              unfold zX10_row_93
              refine dOk_eq (A := 0) (B := 0) (by decide) (by decide) (fun c_182z c_182 => ?_) (fun c_183z c_183 => ?_)
              · unfold zX10_row_118
                refine dOk_eq (A := 0) (B := 0) (by decide) (by decide) (fun c_185z c_185 => ?_) (fun c_186z c_186 => ?_)
                · unfold zX10_row_129
                  refine dOk_eq (A := 0) (B := 0) (by decide) (by decide) (fun c_188z c_188 => ?_) (fun c_189z c_189 => ?_)
                  · unfold zX10_row_146
                    refine dOk_L (fun q_191 eq_191 => ?_)
                    try have t_192 : Int32.toInt (q_18.1 0 6 + 1) = Int32.toInt (q_18.1 0 6) + 1 := ti_add rfl (by decide) (by omega) (by omega)
                    have hTq_191 : TS q_191 := by rw [eq_191]; exact ts_f a_22 (ti_rg _).1 (ti_rg _).2
                    have hFq_191 : dFr [1, 2] [0, 6, 13, 32] q q_191 := by rw [eq_191]; exact hFq_18.f (by decide)
                    try have t_193 : Int32.toInt (x2_20 + 0) = Int32.toInt x2_20 + 0 := ti_add rfl (by decide) (by omega) (by omega)
                    exact hk_16 (q_191, (q.1 0 13), (x2_20 + 0), (x3_21 + 2)) (show (TS q_191) ∧ (dFr [2] [6] q_14 q_191) ∧ ((q.1 0 13) = (q.1 0 13)) ∧ (0 ≤ Int32.toInt (x3_21 + 2)) ∧ (Int32.toInt (x3_21 + 2) ≤ 402) from ⟨hTq_191, (by rw [eq_191]; exact ((((dFr.rf : dFr [2] [6] q_14 q_14)).t a_23 (by decide) (by decide))).f (by decide)), rfl, by omega, by omega⟩) (show (402 - Int32.toInt (x3_21 + 2)).toNat < (402 - Int32.toInt x3_21).toNat by omega)
                  · unfold zX10_row_146
                    refine dOk_L (fun q_194 eq_194 => ?_)
                    try have t_195 : Int32.toInt (q_18.1 0 6 + 0) = Int32.toInt (q_18.1 0 6) + 0 := ti_add rfl (by decide) (by omega) (by omega)
                    have hTq_194 : TS q_194 := by rw [eq_194]; exact ts_f a_22 (ti_rg _).1 (ti_rg _).2
                    have hFq_194 : dFr [1, 2] [0, 6, 13, 32] q q_194 := by rw [eq_194]; exact hFq_18.f (by decide)
                    try have t_196 : Int32.toInt (x2_20 + 0) = Int32.toInt x2_20 + 0 := ti_add rfl (by decide) (by omega) (by omega)
                    exact hk_16 (q_194, (q.1 0 13), (x2_20 + 0), (x3_21 + 2)) (show (TS q_194) ∧ (dFr [2] [6] q_14 q_194) ∧ ((q.1 0 13) = (q.1 0 13)) ∧ (0 ≤ Int32.toInt (x3_21 + 2)) ∧ (Int32.toInt (x3_21 + 2) ≤ 402) from ⟨hTq_194, (by rw [eq_194]; exact ((((dFr.rf : dFr [2] [6] q_14 q_14)).t a_23 (by decide) (by decide))).f (by decide)), rfl, by omega, by omega⟩) (show (402 - Int32.toInt (x3_21 + 2)).toNat < (402 - Int32.toInt x3_21).toNat by omega)
                · unfold zX10_row_129
                  refine dOk_eq (A := 0) (B := 0) (by decide) (by decide) (fun c_197z c_197 => ?_) (fun c_198z c_198 => ?_)
                  · unfold zX10_row_146
                    refine dOk_L (fun q_200 eq_200 => ?_)
                    try have t_201 : Int32.toInt (q_18.1 0 6 + 1) = Int32.toInt (q_18.1 0 6) + 1 := ti_add rfl (by decide) (by omega) (by omega)
                    have hTq_200 : TS q_200 := by rw [eq_200]; exact ts_f a_22 (ti_rg _).1 (ti_rg _).2
                    have hFq_200 : dFr [1, 2] [0, 6, 13, 32] q q_200 := by rw [eq_200]; exact hFq_18.f (by decide)
                    try have t_202 : Int32.toInt (x2_20 + 1) = Int32.toInt x2_20 + 1 := ti_add rfl (by decide) (by omega) (by omega)
                    exact hk_16 (q_200, (q.1 0 13), (x2_20 + 1), (x3_21 + 2)) (show (TS q_200) ∧ (dFr [2] [6] q_14 q_200) ∧ ((q.1 0 13) = (q.1 0 13)) ∧ (0 ≤ Int32.toInt (x3_21 + 2)) ∧ (Int32.toInt (x3_21 + 2) ≤ 402) from ⟨hTq_200, (by rw [eq_200]; exact ((((dFr.rf : dFr [2] [6] q_14 q_14)).t a_23 (by decide) (by decide))).f (by decide)), rfl, by omega, by omega⟩) (show (402 - Int32.toInt (x3_21 + 2)).toNat < (402 - Int32.toInt x3_21).toNat by omega)
                  · unfold zX10_row_146
                    refine dOk_L (fun q_203 eq_203 => ?_)
                    try have t_204 : Int32.toInt (q_18.1 0 6 + 0) = Int32.toInt (q_18.1 0 6) + 0 := ti_add rfl (by decide) (by omega) (by omega)
                    have hTq_203 : TS q_203 := by rw [eq_203]; exact ts_f a_22 (ti_rg _).1 (ti_rg _).2
                    have hFq_203 : dFr [1, 2] [0, 6, 13, 32] q q_203 := by rw [eq_203]; exact hFq_18.f (by decide)
                    try have t_205 : Int32.toInt (x2_20 + 1) = Int32.toInt x2_20 + 1 := ti_add rfl (by decide) (by omega) (by omega)
                    exact hk_16 (q_203, (q.1 0 13), (x2_20 + 1), (x3_21 + 2)) (show (TS q_203) ∧ (dFr [2] [6] q_14 q_203) ∧ ((q.1 0 13) = (q.1 0 13)) ∧ (0 ≤ Int32.toInt (x3_21 + 2)) ∧ (Int32.toInt (x3_21 + 2) ≤ 402) from ⟨hTq_203, (by rw [eq_203]; exact ((((dFr.rf : dFr [2] [6] q_14 q_14)).t a_23 (by decide) (by decide))).f (by decide)), rfl, by omega, by omega⟩) (show (402 - Int32.toInt (x3_21 + 2)).toNat < (402 - Int32.toInt x3_21).toNat by omega)
              · refine dOk_G (dg_ok (show 0 ≤ Int32.toInt x3_21 by omega) (show Int32.toInt x3_21 < ((400 : Nat) : Int) by omega)) ?_
                refine dOk_L (fun v_206 ev_206 => ?_)
                have w_207 : Int32.toInt v_206 = Int32.toInt v_106 := by rw [ev_206, ev_106]
                refine dOk_G (dg_ok (show 0 ≤ Int32.toInt (x3_21 + 1) by omega) (show Int32.toInt (x3_21 + 1) < ((400 : Nat) : Int) by omega)) ?_
                refine dOk_L (fun v_208 ev_208 => ?_)
                have w_209 : Int32.toInt v_208 = Int32.toInt v_175 := by rw [ev_208, ev_175]
                refine dOk_V (ok_adds q_18 v_206 v_208 a_22 (show Int32.toInt (q_18.1 2 29) < 6 by omega) (show 0 ≤ Int32.toInt v_206 ∧ Int32.toInt v_206 ≤ 5 by omega) (show 0 ≤ Int32.toInt v_208 ∧ Int32.toInt v_208 ≤ 1 by omega)) (fun q_210 h_211 => ?_)
                have h_211 : (TS q_210) ∧ (dFr [2] [] q_18 q_210) ∧ (Int32.toInt (q_210.1 2 29) = Int32.toInt (q_18.1 2 29) + 1) := h_211
                obtain ⟨i_212, i_213, i_214⟩ := h_211
                have hFq_210 : dFr [1, 2] [0, 6, 13, 32] q q_210 := hFq_18.t i_213 (by decide) (by decide)
                have f_215 : 0 ≤ Int32.toInt (q_210.1 2 29) ∧ Int32.toInt (q_210.1 2 29) ≤ 6 := i_212.1 2 29
                unfold zX10_row_118
                refine dOk_eq (A := 0) (B := 0) (by decide) (by decide) (fun c_216z c_216 => ?_) (fun c_217z c_217 => ?_)
                · unfold zX10_row_129
                  refine dOk_eq (A := 0) (B := 0) (by decide) (by decide) (fun c_219z c_219 => ?_) (fun c_220z c_220 => ?_)
                  · unfold zX10_row_146
                    refine dOk_L (fun q_222 eq_222 => ?_)
                    have w_223 : Int32.toInt (q_210.1 0 6) = Int32.toInt (q_18.1 0 6) := by rw [i_213.2 6 (by decide)]
                    try have t_224 : Int32.toInt (q_210.1 0 6 + 1) = Int32.toInt (q_210.1 0 6) + 1 := ti_add rfl (by decide) (by omega) (by omega)
                    have hTq_222 : TS q_222 := by rw [eq_222]; exact ts_f i_212 (ti_rg _).1 (ti_rg _).2
                    have hFq_222 : dFr [1, 2] [0, 6, 13, 32] q q_222 := by rw [eq_222]; exact hFq_210.f (by decide)
                    try have t_225 : Int32.toInt (x2_20 + 0) = Int32.toInt x2_20 + 0 := ti_add rfl (by decide) (by omega) (by omega)
                    exact hk_16 (q_222, (q.1 0 13), (x2_20 + 0), (x3_21 + 2)) (show (TS q_222) ∧ (dFr [2] [6] q_14 q_222) ∧ ((q.1 0 13) = (q.1 0 13)) ∧ (0 ≤ Int32.toInt (x3_21 + 2)) ∧ (Int32.toInt (x3_21 + 2) ≤ 402) from ⟨hTq_222, (by rw [eq_222]; exact (((((((dFr.rf : dFr [2] [6] q_14 q_14)).t a_23 (by decide) (by decide)) : dFr [2] [6] q_14 q_18)).t i_213 (by decide) (by decide))).f (by decide)), rfl, by omega, by omega⟩) (show (402 - Int32.toInt (x3_21 + 2)).toNat < (402 - Int32.toInt x3_21).toNat by omega)
                  · unfold zX10_row_146
                    refine dOk_L (fun q_226 eq_226 => ?_)
                    have w_227 : Int32.toInt (q_210.1 0 6) = Int32.toInt (q_18.1 0 6) := by rw [i_213.2 6 (by decide)]
                    try have t_228 : Int32.toInt (q_210.1 0 6 + 0) = Int32.toInt (q_210.1 0 6) + 0 := ti_add rfl (by decide) (by omega) (by omega)
                    have hTq_226 : TS q_226 := by rw [eq_226]; exact ts_f i_212 (ti_rg _).1 (ti_rg _).2
                    have hFq_226 : dFr [1, 2] [0, 6, 13, 32] q q_226 := by rw [eq_226]; exact hFq_210.f (by decide)
                    try have t_229 : Int32.toInt (x2_20 + 0) = Int32.toInt x2_20 + 0 := ti_add rfl (by decide) (by omega) (by omega)
                    exact hk_16 (q_226, (q.1 0 13), (x2_20 + 0), (x3_21 + 2)) (show (TS q_226) ∧ (dFr [2] [6] q_14 q_226) ∧ ((q.1 0 13) = (q.1 0 13)) ∧ (0 ≤ Int32.toInt (x3_21 + 2)) ∧ (Int32.toInt (x3_21 + 2) ≤ 402) from ⟨hTq_226, (by rw [eq_226]; exact (((((((dFr.rf : dFr [2] [6] q_14 q_14)).t a_23 (by decide) (by decide)) : dFr [2] [6] q_14 q_18)).t i_213 (by decide) (by decide))).f (by decide)), rfl, by omega, by omega⟩) (show (402 - Int32.toInt (x3_21 + 2)).toNat < (402 - Int32.toInt x3_21).toNat by omega)
                · unfold zX10_row_129
                  refine dOk_eq (A := 0) (B := 0) (by decide) (by decide) (fun c_230z c_230 => ?_) (fun c_231z c_231 => ?_)
                  · unfold zX10_row_146
                    refine dOk_L (fun q_233 eq_233 => ?_)
                    have w_234 : Int32.toInt (q_210.1 0 6) = Int32.toInt (q_18.1 0 6) := by rw [i_213.2 6 (by decide)]
                    try have t_235 : Int32.toInt (q_210.1 0 6 + 1) = Int32.toInt (q_210.1 0 6) + 1 := ti_add rfl (by decide) (by omega) (by omega)
                    have hTq_233 : TS q_233 := by rw [eq_233]; exact ts_f i_212 (ti_rg _).1 (ti_rg _).2
                    have hFq_233 : dFr [1, 2] [0, 6, 13, 32] q q_233 := by rw [eq_233]; exact hFq_210.f (by decide)
                    try have t_236 : Int32.toInt (x2_20 + 1) = Int32.toInt x2_20 + 1 := ti_add rfl (by decide) (by omega) (by omega)
                    exact hk_16 (q_233, (q.1 0 13), (x2_20 + 1), (x3_21 + 2)) (show (TS q_233) ∧ (dFr [2] [6] q_14 q_233) ∧ ((q.1 0 13) = (q.1 0 13)) ∧ (0 ≤ Int32.toInt (x3_21 + 2)) ∧ (Int32.toInt (x3_21 + 2) ≤ 402) from ⟨hTq_233, (by rw [eq_233]; exact (((((((dFr.rf : dFr [2] [6] q_14 q_14)).t a_23 (by decide) (by decide)) : dFr [2] [6] q_14 q_18)).t i_213 (by decide) (by decide))).f (by decide)), rfl, by omega, by omega⟩) (show (402 - Int32.toInt (x3_21 + 2)).toNat < (402 - Int32.toInt x3_21).toNat by omega)
                  · unfold zX10_row_146
                    refine dOk_L (fun q_237 eq_237 => ?_)
                    have w_238 : Int32.toInt (q_210.1 0 6) = Int32.toInt (q_18.1 0 6) := by rw [i_213.2 6 (by decide)]
                    try have t_239 : Int32.toInt (q_210.1 0 6 + 0) = Int32.toInt (q_210.1 0 6) + 0 := ti_add rfl (by decide) (by omega) (by omega)
                    have hTq_237 : TS q_237 := by rw [eq_237]; exact ts_f i_212 (ti_rg _).1 (ti_rg _).2
                    have hFq_237 : dFr [1, 2] [0, 6, 13, 32] q q_237 := by rw [eq_237]; exact hFq_210.f (by decide)
                    try have t_240 : Int32.toInt (x2_20 + 1) = Int32.toInt x2_20 + 1 := ti_add rfl (by decide) (by omega) (by omega)
                    exact hk_16 (q_237, (q.1 0 13), (x2_20 + 1), (x3_21 + 2)) (show (TS q_237) ∧ (dFr [2] [6] q_14 q_237) ∧ ((q.1 0 13) = (q.1 0 13)) ∧ (0 ≤ Int32.toInt (x3_21 + 2)) ∧ (Int32.toInt (x3_21 + 2) ≤ 402) from ⟨hTq_237, (by rw [eq_237]; exact (((((((dFr.rf : dFr [2] [6] q_14 q_14)).t a_23 (by decide) (by decide)) : dFr [2] [6] q_14 q_18)).t i_213 (by decide) (by decide))).f (by decide)), rfl, by omega, by omega⟩) (show (402 - Int32.toInt (x3_21 + 2)).toNat < (402 - Int32.toInt x3_21).toNat by omega)
            · refine dOk_G (dg_ok (show 0 ≤ Int32.toInt x3_21 by omega) (show Int32.toInt x3_21 < ((400 : Nat) : Int) by omega)) ?_
              refine dOk_L (fun v_241 ev_241 => ?_)
              have w_242 : Int32.toInt v_241 = Int32.toInt v_106 := by rw [ev_241, ev_106]
              refine dOk_B (ok_placeOf q_18 v_241 a_22) (fun r_243 q_244 h_245 => ?_)
              have h_245 : (q_244 = q_18) ∧ (-1 ≤ Int32.toInt r_243 ∧ Int32.toInt r_243 ≤ 5) := h_245
              obtain ⟨i_246, i_247⟩ := h_245
              subst q_244
              refine dOk_eq (A := Int32.toInt r_243) (B := (-1)) rfl (by decide) (fun c_248z c_248 => ?_) (fun c_249z c_249 => ?_)
              · unfold zX10_row_93
                refine dOk_eq (A := 1) (B := 0) (by decide) (by decide) (fun c_251z c_251 => ?_) (fun c_252z c_252 => ?_)
                · unfold zX10_row_118
                  refine dOk_eq (A := 1) (B := 0) (by decide) (by decide) (fun c_254z c_254 => ?_) (fun c_255z c_255 => ?_)
                  · unfold zX10_row_129
                    refine dOk_eq (A := 1) (B := 0) (by decide) (by decide) (fun c_257z c_257 => ?_) (fun c_258z c_258 => ?_)
                    · unfold zX10_row_146
                      refine dOk_L (fun q_260 eq_260 => ?_)
                      try have t_261 : Int32.toInt (q_18.1 0 6 + 1) = Int32.toInt (q_18.1 0 6) + 1 := ti_add rfl (by decide) (by omega) (by omega)
                      have hTq_260 : TS q_260 := by rw [eq_260]; exact ts_f a_22 (ti_rg _).1 (ti_rg _).2
                      have hFq_260 : dFr [1, 2] [0, 6, 13, 32] q q_260 := by rw [eq_260]; exact hFq_18.f (by decide)
                      try have t_262 : Int32.toInt (x2_20 + 0) = Int32.toInt x2_20 + 0 := ti_add rfl (by decide) (by omega) (by omega)
                      exact hk_16 (q_260, (q.1 0 13), (x2_20 + 0), (x3_21 + 2)) (show (TS q_260) ∧ (dFr [2] [6] q_14 q_260) ∧ ((q.1 0 13) = (q.1 0 13)) ∧ (0 ≤ Int32.toInt (x3_21 + 2)) ∧ (Int32.toInt (x3_21 + 2) ≤ 402) from ⟨hTq_260, (by rw [eq_260]; exact ((((dFr.rf : dFr [2] [6] q_14 q_14)).t a_23 (by decide) (by decide))).f (by decide)), rfl, by omega, by omega⟩) (show (402 - Int32.toInt (x3_21 + 2)).toNat < (402 - Int32.toInt x3_21).toNat by omega)
                    · unfold zX10_row_146
                      refine dOk_L (fun q_263 eq_263 => ?_)
                      try have t_264 : Int32.toInt (q_18.1 0 6 + 0) = Int32.toInt (q_18.1 0 6) + 0 := ti_add rfl (by decide) (by omega) (by omega)
                      have hTq_263 : TS q_263 := by rw [eq_263]; exact ts_f a_22 (ti_rg _).1 (ti_rg _).2
                      have hFq_263 : dFr [1, 2] [0, 6, 13, 32] q q_263 := by rw [eq_263]; exact hFq_18.f (by decide)
                      try have t_265 : Int32.toInt (x2_20 + 0) = Int32.toInt x2_20 + 0 := ti_add rfl (by decide) (by omega) (by omega)
                      exact hk_16 (q_263, (q.1 0 13), (x2_20 + 0), (x3_21 + 2)) (show (TS q_263) ∧ (dFr [2] [6] q_14 q_263) ∧ ((q.1 0 13) = (q.1 0 13)) ∧ (0 ≤ Int32.toInt (x3_21 + 2)) ∧ (Int32.toInt (x3_21 + 2) ≤ 402) from ⟨hTq_263, (by rw [eq_263]; exact ((((dFr.rf : dFr [2] [6] q_14 q_14)).t a_23 (by decide) (by decide))).f (by decide)), rfl, by omega, by omega⟩) (show (402 - Int32.toInt (x3_21 + 2)).toNat < (402 - Int32.toInt x3_21).toNat by omega)
                  · unfold zX10_row_129
                    refine dOk_eq (A := 1) (B := 0) (by decide) (by decide) (fun c_266z c_266 => ?_) (fun c_267z c_267 => ?_)
                    · unfold zX10_row_146
                      refine dOk_L (fun q_269 eq_269 => ?_)
                      try have t_270 : Int32.toInt (q_18.1 0 6 + 1) = Int32.toInt (q_18.1 0 6) + 1 := ti_add rfl (by decide) (by omega) (by omega)
                      have hTq_269 : TS q_269 := by rw [eq_269]; exact ts_f a_22 (ti_rg _).1 (ti_rg _).2
                      have hFq_269 : dFr [1, 2] [0, 6, 13, 32] q q_269 := by rw [eq_269]; exact hFq_18.f (by decide)
                      try have t_271 : Int32.toInt (x2_20 + 1) = Int32.toInt x2_20 + 1 := ti_add rfl (by decide) (by omega) (by omega)
                      exact hk_16 (q_269, (q.1 0 13), (x2_20 + 1), (x3_21 + 2)) (show (TS q_269) ∧ (dFr [2] [6] q_14 q_269) ∧ ((q.1 0 13) = (q.1 0 13)) ∧ (0 ≤ Int32.toInt (x3_21 + 2)) ∧ (Int32.toInt (x3_21 + 2) ≤ 402) from ⟨hTq_269, (by rw [eq_269]; exact ((((dFr.rf : dFr [2] [6] q_14 q_14)).t a_23 (by decide) (by decide))).f (by decide)), rfl, by omega, by omega⟩) (show (402 - Int32.toInt (x3_21 + 2)).toNat < (402 - Int32.toInt x3_21).toNat by omega)
                    · unfold zX10_row_146
                      refine dOk_L (fun q_272 eq_272 => ?_)
                      try have t_273 : Int32.toInt (q_18.1 0 6 + 0) = Int32.toInt (q_18.1 0 6) + 0 := ti_add rfl (by decide) (by omega) (by omega)
                      have hTq_272 : TS q_272 := by rw [eq_272]; exact ts_f a_22 (ti_rg _).1 (ti_rg _).2
                      have hFq_272 : dFr [1, 2] [0, 6, 13, 32] q q_272 := by rw [eq_272]; exact hFq_18.f (by decide)
                      try have t_274 : Int32.toInt (x2_20 + 1) = Int32.toInt x2_20 + 1 := ti_add rfl (by decide) (by omega) (by omega)
                      exact hk_16 (q_272, (q.1 0 13), (x2_20 + 1), (x3_21 + 2)) (show (TS q_272) ∧ (dFr [2] [6] q_14 q_272) ∧ ((q.1 0 13) = (q.1 0 13)) ∧ (0 ≤ Int32.toInt (x3_21 + 2)) ∧ (Int32.toInt (x3_21 + 2) ≤ 402) from ⟨hTq_272, (by rw [eq_272]; exact ((((dFr.rf : dFr [2] [6] q_14 q_14)).t a_23 (by decide) (by decide))).f (by decide)), rfl, by omega, by omega⟩) (show (402 - Int32.toInt (x3_21 + 2)).toNat < (402 - Int32.toInt x3_21).toNat by omega)
                · refine dOk_G (dg_ok (show 0 ≤ Int32.toInt x3_21 by omega) (show Int32.toInt x3_21 < ((400 : Nat) : Int) by omega)) ?_
                  refine dOk_L (fun v_275 ev_275 => ?_)
                  have w_276 : Int32.toInt v_275 = Int32.toInt v_106 := by rw [ev_275, ev_106]
                  refine dOk_G (dg_ok (show 0 ≤ Int32.toInt (x3_21 + 1) by omega) (show Int32.toInt (x3_21 + 1) < ((400 : Nat) : Int) by omega)) ?_
                  refine dOk_L (fun v_277 ev_277 => ?_)
                  have w_278 : Int32.toInt v_277 = Int32.toInt v_175 := by rw [ev_277, ev_175]
                  refine dOk_V (ok_adds q_18 v_275 v_277 a_22 (show Int32.toInt (q_18.1 2 29) < 6 by omega) (show 0 ≤ Int32.toInt v_275 ∧ Int32.toInt v_275 ≤ 5 by omega) (show 0 ≤ Int32.toInt v_277 ∧ Int32.toInt v_277 ≤ 1 by omega)) (fun q_279 h_280 => ?_)
                  have h_280 : (TS q_279) ∧ (dFr [2] [] q_18 q_279) ∧ (Int32.toInt (q_279.1 2 29) = Int32.toInt (q_18.1 2 29) + 1) := h_280
                  obtain ⟨i_281, i_282, i_283⟩ := h_280
                  have hFq_279 : dFr [1, 2] [0, 6, 13, 32] q q_279 := hFq_18.t i_282 (by decide) (by decide)
                  have f_284 : 0 ≤ Int32.toInt (q_279.1 2 29) ∧ Int32.toInt (q_279.1 2 29) ≤ 6 := i_281.1 2 29
                  unfold zX10_row_118
                  refine dOk_eq (A := 1) (B := 0) (by decide) (by decide) (fun c_285z c_285 => ?_) (fun c_286z c_286 => ?_)
                  · unfold zX10_row_129
                    refine dOk_eq (A := 1) (B := 0) (by decide) (by decide) (fun c_288z c_288 => ?_) (fun c_289z c_289 => ?_)
                    · unfold zX10_row_146
                      refine dOk_L (fun q_291 eq_291 => ?_)
                      have w_292 : Int32.toInt (q_279.1 0 6) = Int32.toInt (q_18.1 0 6) := by rw [i_282.2 6 (by decide)]
                      try have t_293 : Int32.toInt (q_279.1 0 6 + 1) = Int32.toInt (q_279.1 0 6) + 1 := ti_add rfl (by decide) (by omega) (by omega)
                      have hTq_291 : TS q_291 := by rw [eq_291]; exact ts_f i_281 (ti_rg _).1 (ti_rg _).2
                      have hFq_291 : dFr [1, 2] [0, 6, 13, 32] q q_291 := by rw [eq_291]; exact hFq_279.f (by decide)
                      try have t_294 : Int32.toInt (x2_20 + 0) = Int32.toInt x2_20 + 0 := ti_add rfl (by decide) (by omega) (by omega)
                      exact hk_16 (q_291, (q.1 0 13), (x2_20 + 0), (x3_21 + 2)) (show (TS q_291) ∧ (dFr [2] [6] q_14 q_291) ∧ ((q.1 0 13) = (q.1 0 13)) ∧ (0 ≤ Int32.toInt (x3_21 + 2)) ∧ (Int32.toInt (x3_21 + 2) ≤ 402) from ⟨hTq_291, (by rw [eq_291]; exact (((((((dFr.rf : dFr [2] [6] q_14 q_14)).t a_23 (by decide) (by decide)) : dFr [2] [6] q_14 q_18)).t i_282 (by decide) (by decide))).f (by decide)), rfl, by omega, by omega⟩) (show (402 - Int32.toInt (x3_21 + 2)).toNat < (402 - Int32.toInt x3_21).toNat by omega)
                    · unfold zX10_row_146
                      refine dOk_L (fun q_295 eq_295 => ?_)
                      have w_296 : Int32.toInt (q_279.1 0 6) = Int32.toInt (q_18.1 0 6) := by rw [i_282.2 6 (by decide)]
                      try have t_297 : Int32.toInt (q_279.1 0 6 + 0) = Int32.toInt (q_279.1 0 6) + 0 := ti_add rfl (by decide) (by omega) (by omega)
                      have hTq_295 : TS q_295 := by rw [eq_295]; exact ts_f i_281 (ti_rg _).1 (ti_rg _).2
                      have hFq_295 : dFr [1, 2] [0, 6, 13, 32] q q_295 := by rw [eq_295]; exact hFq_279.f (by decide)
                      try have t_298 : Int32.toInt (x2_20 + 0) = Int32.toInt x2_20 + 0 := ti_add rfl (by decide) (by omega) (by omega)
                      exact hk_16 (q_295, (q.1 0 13), (x2_20 + 0), (x3_21 + 2)) (show (TS q_295) ∧ (dFr [2] [6] q_14 q_295) ∧ ((q.1 0 13) = (q.1 0 13)) ∧ (0 ≤ Int32.toInt (x3_21 + 2)) ∧ (Int32.toInt (x3_21 + 2) ≤ 402) from ⟨hTq_295, (by rw [eq_295]; exact (((((((dFr.rf : dFr [2] [6] q_14 q_14)).t a_23 (by decide) (by decide)) : dFr [2] [6] q_14 q_18)).t i_282 (by decide) (by decide))).f (by decide)), rfl, by omega, by omega⟩) (show (402 - Int32.toInt (x3_21 + 2)).toNat < (402 - Int32.toInt x3_21).toNat by omega)
                  · unfold zX10_row_129
                    refine dOk_eq (A := 1) (B := 0) (by decide) (by decide) (fun c_299z c_299 => ?_) (fun c_300z c_300 => ?_)
                    · unfold zX10_row_146
                      refine dOk_L (fun q_302 eq_302 => ?_)
                      have w_303 : Int32.toInt (q_279.1 0 6) = Int32.toInt (q_18.1 0 6) := by rw [i_282.2 6 (by decide)]
                      try have t_304 : Int32.toInt (q_279.1 0 6 + 1) = Int32.toInt (q_279.1 0 6) + 1 := ti_add rfl (by decide) (by omega) (by omega)
                      have hTq_302 : TS q_302 := by rw [eq_302]; exact ts_f i_281 (ti_rg _).1 (ti_rg _).2
                      have hFq_302 : dFr [1, 2] [0, 6, 13, 32] q q_302 := by rw [eq_302]; exact hFq_279.f (by decide)
                      try have t_305 : Int32.toInt (x2_20 + 1) = Int32.toInt x2_20 + 1 := ti_add rfl (by decide) (by omega) (by omega)
                      exact hk_16 (q_302, (q.1 0 13), (x2_20 + 1), (x3_21 + 2)) (show (TS q_302) ∧ (dFr [2] [6] q_14 q_302) ∧ ((q.1 0 13) = (q.1 0 13)) ∧ (0 ≤ Int32.toInt (x3_21 + 2)) ∧ (Int32.toInt (x3_21 + 2) ≤ 402) from ⟨hTq_302, (by rw [eq_302]; exact (((((((dFr.rf : dFr [2] [6] q_14 q_14)).t a_23 (by decide) (by decide)) : dFr [2] [6] q_14 q_18)).t i_282 (by decide) (by decide))).f (by decide)), rfl, by omega, by omega⟩) (show (402 - Int32.toInt (x3_21 + 2)).toNat < (402 - Int32.toInt x3_21).toNat by omega)
                    · unfold zX10_row_146
                      refine dOk_L (fun q_306 eq_306 => ?_)
                      have w_307 : Int32.toInt (q_279.1 0 6) = Int32.toInt (q_18.1 0 6) := by rw [i_282.2 6 (by decide)]
                      try have t_308 : Int32.toInt (q_279.1 0 6 + 0) = Int32.toInt (q_279.1 0 6) + 0 := ti_add rfl (by decide) (by omega) (by omega)
                      have hTq_306 : TS q_306 := by rw [eq_306]; exact ts_f i_281 (ti_rg _).1 (ti_rg _).2
                      have hFq_306 : dFr [1, 2] [0, 6, 13, 32] q q_306 := by rw [eq_306]; exact hFq_279.f (by decide)
                      try have t_309 : Int32.toInt (x2_20 + 1) = Int32.toInt x2_20 + 1 := ti_add rfl (by decide) (by omega) (by omega)
                      exact hk_16 (q_306, (q.1 0 13), (x2_20 + 1), (x3_21 + 2)) (show (TS q_306) ∧ (dFr [2] [6] q_14 q_306) ∧ ((q.1 0 13) = (q.1 0 13)) ∧ (0 ≤ Int32.toInt (x3_21 + 2)) ∧ (Int32.toInt (x3_21 + 2) ≤ 402) from ⟨hTq_306, (by rw [eq_306]; exact (((((((dFr.rf : dFr [2] [6] q_14 q_14)).t a_23 (by decide) (by decide)) : dFr [2] [6] q_14 q_18)).t i_282 (by decide) (by decide))).f (by decide)), rfl, by omega, by omega⟩) (show (402 - Int32.toInt (x3_21 + 2)).toNat < (402 - Int32.toInt x3_21).toNat by omega)
              · unfold zX10_row_92
                unfold zX10_row_93
                refine dOk_eq (A := 0) (B := 0) (by decide) (by decide) (fun c_310z c_310 => ?_) (fun c_311z c_311 => ?_)
                · unfold zX10_row_118
                  refine dOk_eq (A := 0) (B := 0) (by decide) (by decide) (fun c_313z c_313 => ?_) (fun c_314z c_314 => ?_)
                  · unfold zX10_row_129
                    refine dOk_eq (A := 0) (B := 0) (by decide) (by decide) (fun c_316z c_316 => ?_) (fun c_317z c_317 => ?_)
                    · unfold zX10_row_146
                      refine dOk_L (fun q_319 eq_319 => ?_)
                      try have t_320 : Int32.toInt (q_18.1 0 6 + 1) = Int32.toInt (q_18.1 0 6) + 1 := ti_add rfl (by decide) (by omega) (by omega)
                      have hTq_319 : TS q_319 := by rw [eq_319]; exact ts_f a_22 (ti_rg _).1 (ti_rg _).2
                      have hFq_319 : dFr [1, 2] [0, 6, 13, 32] q q_319 := by rw [eq_319]; exact hFq_18.f (by decide)
                      try have t_321 : Int32.toInt (x2_20 + 0) = Int32.toInt x2_20 + 0 := ti_add rfl (by decide) (by omega) (by omega)
                      exact hk_16 (q_319, (q.1 0 13), (x2_20 + 0), (x3_21 + 2)) (show (TS q_319) ∧ (dFr [2] [6] q_14 q_319) ∧ ((q.1 0 13) = (q.1 0 13)) ∧ (0 ≤ Int32.toInt (x3_21 + 2)) ∧ (Int32.toInt (x3_21 + 2) ≤ 402) from ⟨hTq_319, (by rw [eq_319]; exact ((((dFr.rf : dFr [2] [6] q_14 q_14)).t a_23 (by decide) (by decide))).f (by decide)), rfl, by omega, by omega⟩) (show (402 - Int32.toInt (x3_21 + 2)).toNat < (402 - Int32.toInt x3_21).toNat by omega)
                    · unfold zX10_row_146
                      refine dOk_L (fun q_322 eq_322 => ?_)
                      try have t_323 : Int32.toInt (q_18.1 0 6 + 0) = Int32.toInt (q_18.1 0 6) + 0 := ti_add rfl (by decide) (by omega) (by omega)
                      have hTq_322 : TS q_322 := by rw [eq_322]; exact ts_f a_22 (ti_rg _).1 (ti_rg _).2
                      have hFq_322 : dFr [1, 2] [0, 6, 13, 32] q q_322 := by rw [eq_322]; exact hFq_18.f (by decide)
                      try have t_324 : Int32.toInt (x2_20 + 0) = Int32.toInt x2_20 + 0 := ti_add rfl (by decide) (by omega) (by omega)
                      exact hk_16 (q_322, (q.1 0 13), (x2_20 + 0), (x3_21 + 2)) (show (TS q_322) ∧ (dFr [2] [6] q_14 q_322) ∧ ((q.1 0 13) = (q.1 0 13)) ∧ (0 ≤ Int32.toInt (x3_21 + 2)) ∧ (Int32.toInt (x3_21 + 2) ≤ 402) from ⟨hTq_322, (by rw [eq_322]; exact ((((dFr.rf : dFr [2] [6] q_14 q_14)).t a_23 (by decide) (by decide))).f (by decide)), rfl, by omega, by omega⟩) (show (402 - Int32.toInt (x3_21 + 2)).toNat < (402 - Int32.toInt x3_21).toNat by omega)
                  · unfold zX10_row_129
                    refine dOk_eq (A := 0) (B := 0) (by decide) (by decide) (fun c_325z c_325 => ?_) (fun c_326z c_326 => ?_)
                    · unfold zX10_row_146
                      refine dOk_L (fun q_328 eq_328 => ?_)
                      try have t_329 : Int32.toInt (q_18.1 0 6 + 1) = Int32.toInt (q_18.1 0 6) + 1 := ti_add rfl (by decide) (by omega) (by omega)
                      have hTq_328 : TS q_328 := by rw [eq_328]; exact ts_f a_22 (ti_rg _).1 (ti_rg _).2
                      have hFq_328 : dFr [1, 2] [0, 6, 13, 32] q q_328 := by rw [eq_328]; exact hFq_18.f (by decide)
                      try have t_330 : Int32.toInt (x2_20 + 1) = Int32.toInt x2_20 + 1 := ti_add rfl (by decide) (by omega) (by omega)
                      exact hk_16 (q_328, (q.1 0 13), (x2_20 + 1), (x3_21 + 2)) (show (TS q_328) ∧ (dFr [2] [6] q_14 q_328) ∧ ((q.1 0 13) = (q.1 0 13)) ∧ (0 ≤ Int32.toInt (x3_21 + 2)) ∧ (Int32.toInt (x3_21 + 2) ≤ 402) from ⟨hTq_328, (by rw [eq_328]; exact ((((dFr.rf : dFr [2] [6] q_14 q_14)).t a_23 (by decide) (by decide))).f (by decide)), rfl, by omega, by omega⟩) (show (402 - Int32.toInt (x3_21 + 2)).toNat < (402 - Int32.toInt x3_21).toNat by omega)
                    · unfold zX10_row_146
                      refine dOk_L (fun q_331 eq_331 => ?_)
                      try have t_332 : Int32.toInt (q_18.1 0 6 + 0) = Int32.toInt (q_18.1 0 6) + 0 := ti_add rfl (by decide) (by omega) (by omega)
                      have hTq_331 : TS q_331 := by rw [eq_331]; exact ts_f a_22 (ti_rg _).1 (ti_rg _).2
                      have hFq_331 : dFr [1, 2] [0, 6, 13, 32] q q_331 := by rw [eq_331]; exact hFq_18.f (by decide)
                      try have t_333 : Int32.toInt (x2_20 + 1) = Int32.toInt x2_20 + 1 := ti_add rfl (by decide) (by omega) (by omega)
                      exact hk_16 (q_331, (q.1 0 13), (x2_20 + 1), (x3_21 + 2)) (show (TS q_331) ∧ (dFr [2] [6] q_14 q_331) ∧ ((q.1 0 13) = (q.1 0 13)) ∧ (0 ≤ Int32.toInt (x3_21 + 2)) ∧ (Int32.toInt (x3_21 + 2) ≤ 402) from ⟨hTq_331, (by rw [eq_331]; exact ((((dFr.rf : dFr [2] [6] q_14 q_14)).t a_23 (by decide) (by decide))).f (by decide)), rfl, by omega, by omega⟩) (show (402 - Int32.toInt (x3_21 + 2)).toNat < (402 - Int32.toInt x3_21).toNat by omega)
                · refine dOk_G (dg_ok (show 0 ≤ Int32.toInt x3_21 by omega) (show Int32.toInt x3_21 < ((400 : Nat) : Int) by omega)) ?_
                  refine dOk_L (fun v_334 ev_334 => ?_)
                  have w_335 : Int32.toInt v_334 = Int32.toInt v_106 := by rw [ev_334, ev_106]
                  refine dOk_G (dg_ok (show 0 ≤ Int32.toInt (x3_21 + 1) by omega) (show Int32.toInt (x3_21 + 1) < ((400 : Nat) : Int) by omega)) ?_
                  refine dOk_L (fun v_336 ev_336 => ?_)
                  have w_337 : Int32.toInt v_336 = Int32.toInt v_175 := by rw [ev_336, ev_175]
                  refine dOk_V (ok_adds q_18 v_334 v_336 a_22 (show Int32.toInt (q_18.1 2 29) < 6 by omega) (show 0 ≤ Int32.toInt v_334 ∧ Int32.toInt v_334 ≤ 5 by omega) (show 0 ≤ Int32.toInt v_336 ∧ Int32.toInt v_336 ≤ 1 by omega)) (fun q_338 h_339 => ?_)
                  have h_339 : (TS q_338) ∧ (dFr [2] [] q_18 q_338) ∧ (Int32.toInt (q_338.1 2 29) = Int32.toInt (q_18.1 2 29) + 1) := h_339
                  obtain ⟨i_340, i_341, i_342⟩ := h_339
                  have hFq_338 : dFr [1, 2] [0, 6, 13, 32] q q_338 := hFq_18.t i_341 (by decide) (by decide)
                  have f_343 : 0 ≤ Int32.toInt (q_338.1 2 29) ∧ Int32.toInt (q_338.1 2 29) ≤ 6 := i_340.1 2 29
                  unfold zX10_row_118
                  refine dOk_eq (A := 0) (B := 0) (by decide) (by decide) (fun c_344z c_344 => ?_) (fun c_345z c_345 => ?_)
                  · unfold zX10_row_129
                    refine dOk_eq (A := 0) (B := 0) (by decide) (by decide) (fun c_347z c_347 => ?_) (fun c_348z c_348 => ?_)
                    · unfold zX10_row_146
                      refine dOk_L (fun q_350 eq_350 => ?_)
                      have w_351 : Int32.toInt (q_338.1 0 6) = Int32.toInt (q_18.1 0 6) := by rw [i_341.2 6 (by decide)]
                      try have t_352 : Int32.toInt (q_338.1 0 6 + 1) = Int32.toInt (q_338.1 0 6) + 1 := ti_add rfl (by decide) (by omega) (by omega)
                      have hTq_350 : TS q_350 := by rw [eq_350]; exact ts_f i_340 (ti_rg _).1 (ti_rg _).2
                      have hFq_350 : dFr [1, 2] [0, 6, 13, 32] q q_350 := by rw [eq_350]; exact hFq_338.f (by decide)
                      try have t_353 : Int32.toInt (x2_20 + 0) = Int32.toInt x2_20 + 0 := ti_add rfl (by decide) (by omega) (by omega)
                      exact hk_16 (q_350, (q.1 0 13), (x2_20 + 0), (x3_21 + 2)) (show (TS q_350) ∧ (dFr [2] [6] q_14 q_350) ∧ ((q.1 0 13) = (q.1 0 13)) ∧ (0 ≤ Int32.toInt (x3_21 + 2)) ∧ (Int32.toInt (x3_21 + 2) ≤ 402) from ⟨hTq_350, (by rw [eq_350]; exact (((((((dFr.rf : dFr [2] [6] q_14 q_14)).t a_23 (by decide) (by decide)) : dFr [2] [6] q_14 q_18)).t i_341 (by decide) (by decide))).f (by decide)), rfl, by omega, by omega⟩) (show (402 - Int32.toInt (x3_21 + 2)).toNat < (402 - Int32.toInt x3_21).toNat by omega)
                    · unfold zX10_row_146
                      refine dOk_L (fun q_354 eq_354 => ?_)
                      have w_355 : Int32.toInt (q_338.1 0 6) = Int32.toInt (q_18.1 0 6) := by rw [i_341.2 6 (by decide)]
                      try have t_356 : Int32.toInt (q_338.1 0 6 + 0) = Int32.toInt (q_338.1 0 6) + 0 := ti_add rfl (by decide) (by omega) (by omega)
                      have hTq_354 : TS q_354 := by rw [eq_354]; exact ts_f i_340 (ti_rg _).1 (ti_rg _).2
                      have hFq_354 : dFr [1, 2] [0, 6, 13, 32] q q_354 := by rw [eq_354]; exact hFq_338.f (by decide)
                      try have t_357 : Int32.toInt (x2_20 + 0) = Int32.toInt x2_20 + 0 := ti_add rfl (by decide) (by omega) (by omega)
                      exact hk_16 (q_354, (q.1 0 13), (x2_20 + 0), (x3_21 + 2)) (show (TS q_354) ∧ (dFr [2] [6] q_14 q_354) ∧ ((q.1 0 13) = (q.1 0 13)) ∧ (0 ≤ Int32.toInt (x3_21 + 2)) ∧ (Int32.toInt (x3_21 + 2) ≤ 402) from ⟨hTq_354, (by rw [eq_354]; exact (((((((dFr.rf : dFr [2] [6] q_14 q_14)).t a_23 (by decide) (by decide)) : dFr [2] [6] q_14 q_18)).t i_341 (by decide) (by decide))).f (by decide)), rfl, by omega, by omega⟩) (show (402 - Int32.toInt (x3_21 + 2)).toNat < (402 - Int32.toInt x3_21).toNat by omega)
                  · unfold zX10_row_129
                    refine dOk_eq (A := 0) (B := 0) (by decide) (by decide) (fun c_358z c_358 => ?_) (fun c_359z c_359 => ?_)
                    · unfold zX10_row_146
                      refine dOk_L (fun q_361 eq_361 => ?_)
                      have w_362 : Int32.toInt (q_338.1 0 6) = Int32.toInt (q_18.1 0 6) := by rw [i_341.2 6 (by decide)]
                      try have t_363 : Int32.toInt (q_338.1 0 6 + 1) = Int32.toInt (q_338.1 0 6) + 1 := ti_add rfl (by decide) (by omega) (by omega)
                      have hTq_361 : TS q_361 := by rw [eq_361]; exact ts_f i_340 (ti_rg _).1 (ti_rg _).2
                      have hFq_361 : dFr [1, 2] [0, 6, 13, 32] q q_361 := by rw [eq_361]; exact hFq_338.f (by decide)
                      try have t_364 : Int32.toInt (x2_20 + 1) = Int32.toInt x2_20 + 1 := ti_add rfl (by decide) (by omega) (by omega)
                      exact hk_16 (q_361, (q.1 0 13), (x2_20 + 1), (x3_21 + 2)) (show (TS q_361) ∧ (dFr [2] [6] q_14 q_361) ∧ ((q.1 0 13) = (q.1 0 13)) ∧ (0 ≤ Int32.toInt (x3_21 + 2)) ∧ (Int32.toInt (x3_21 + 2) ≤ 402) from ⟨hTq_361, (by rw [eq_361]; exact (((((((dFr.rf : dFr [2] [6] q_14 q_14)).t a_23 (by decide) (by decide)) : dFr [2] [6] q_14 q_18)).t i_341 (by decide) (by decide))).f (by decide)), rfl, by omega, by omega⟩) (show (402 - Int32.toInt (x3_21 + 2)).toNat < (402 - Int32.toInt x3_21).toNat by omega)
                    · unfold zX10_row_146
                      refine dOk_L (fun q_365 eq_365 => ?_)
                      have w_366 : Int32.toInt (q_338.1 0 6) = Int32.toInt (q_18.1 0 6) := by rw [i_341.2 6 (by decide)]
                      try have t_367 : Int32.toInt (q_338.1 0 6 + 0) = Int32.toInt (q_338.1 0 6) + 0 := ti_add rfl (by decide) (by omega) (by omega)
                      have hTq_365 : TS q_365 := by rw [eq_365]; exact ts_f i_340 (ti_rg _).1 (ti_rg _).2
                      have hFq_365 : dFr [1, 2] [0, 6, 13, 32] q q_365 := by rw [eq_365]; exact hFq_338.f (by decide)
                      try have t_368 : Int32.toInt (x2_20 + 1) = Int32.toInt x2_20 + 1 := ti_add rfl (by decide) (by omega) (by omega)
                      exact hk_16 (q_365, (q.1 0 13), (x2_20 + 1), (x3_21 + 2)) (show (TS q_365) ∧ (dFr [2] [6] q_14 q_365) ∧ ((q.1 0 13) = (q.1 0 13)) ∧ (0 ≤ Int32.toInt (x3_21 + 2)) ∧ (Int32.toInt (x3_21 + 2) ≤ 402) from ⟨hTq_365, (by rw [eq_365]; exact (((((((dFr.rf : dFr [2] [6] q_14 q_14)).t a_23 (by decide) (by decide)) : dFr [2] [6] q_14 q_18)).t i_341 (by decide) (by decide))).f (by decide)), rfl, by omega, by omega⟩) (show (402 - Int32.toInt (x3_21 + 2)).toNat < (402 - Int32.toInt x3_21).toNat by omega)
    · exact (show (TS q_14) ∧ (dFr [2] [6] q_14 q_14) ∧ ((q.1 0 13) = (q.1 0 13)) ∧ (0 ≤ Int32.toInt 0) ∧ (Int32.toInt 0 ≤ 402) from ⟨hTq_14, dFr.rf, rfl, by omega, by omega⟩)
    · show (402 - Int32.toInt 0).toNat < 1000000000000
      omega
