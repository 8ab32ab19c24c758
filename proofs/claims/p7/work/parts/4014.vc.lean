set_option maxHeartbeats 4000000 in
set_option maxRecDepth 100000 in
theorem ok_row (q : dS) (hT : TS q) : dOk (zX10_row q) (fun (o : Int32 × dS) => (TS o.2) ∧ (dFr [1, 2] [0, 6, 13, 32] q o.2)) := by
  unfold zX10_row
  refine dOk_L (fun q_1 eq_1 => ?_)
  have hTq_1 : TS q_1 := by rw [eq_1]; exact ts_f hT (show 0 ≤ (0 : Int) by omega) (show (0 : Int) ≤ 400 by omega)
  have hFq_1 : dFr [1, 2] [0, 6, 13, 32] q q_1 := by rw [eq_1]; exact (dFr.rf (q := q)).f (by decide)
  have f_2 : 0 ≤ Int32.toInt (q.1 0 13) ∧ Int32.toInt (q.1 0 13) ≤ 400 := hT.1 0 13
  refine dOk_eq (A := Int32.toInt (q.1 0 13)) (B := 0) rfl (by decide) (fun c_3z c_3 => ?_) (fun c_4z c_4 => ?_)
  · refine dOk_B (ok_refuses q_1 (-6) hTq_1 (show (-6) ≤ (-6 : Int) by omega) (show (-6 : Int) ≤ 0 by omega)) (fun r_6 q_7 h_8 => ?_)
    replace h_8 : (TS q_7) ∧ (dFr [1] [0] q_1 q_7) ∧ (Int32.toInt r_6 = (-6 : Int)) := h_8
    obtain ⟨i_9, i_10, i_11⟩ := h_8
    have hFq_7 : dFr [1, 2] [0, 6, 13, 32] q q_7 := hFq_1.t i_10 (by decide) (by decide)
    exact dOk_some (show (TS q_7) ∧ (dFr [1, 2] [0, 6, 13, 32] q q_7) from ⟨i_9, hFq_7⟩)
  · refine dOk_L (fun q_12 eq_12 => ?_)
    try have t_13 : Int32.toInt (q.1 0 13 - q.1 0 13 / 2 * 2) = Int32.toInt (q.1 0 13) % 2 := ti_rem rfl (by decide) (by omega) (by omega)
    have hTq_12 : TS q_12 := by rw [eq_12]; exact ts_f hTq_1 (ti_rg _).1 (ti_rg _).2
    have hFq_12 : dFr [1, 2] [0, 6, 13, 32] q q_12 := by rw [eq_12]; exact hFq_1.f (by decide)
    unfold zX10_row_32
    refine dFix_ok (fun (a : dS × Int32 × Int32 × Int32) => (TS a.1) ∧ (dFr [2] [6] q_12 a.1) ∧ (a.2.1 = (q.1 0 13)) ∧ (0 ≤ Int32.toInt a.2.2.2) ∧ (Int32.toInt a.2.2.2 ≤ 402)) (fun (a : dS × Int32 × Int32 × Int32) => (402 - Int32.toInt a.2.2.2).toNat) ?_ _ ?_ _ (dF_gt ?_)
    · intro a ha k_15 hk_14
      obtain ⟨q_16, x1_17, x2_18, x3_19⟩ := a
      replace ha : (TS q_16) ∧ (dFr [2] [6] q_12 q_16) ∧ (x1_17 = (q.1 0 13)) ∧ (0 ≤ Int32.toInt x3_19) ∧ (Int32.toInt x3_19 ≤ 402) := ha
      obtain ⟨a_20, a_21, a_22, a_23, a_24⟩ := ha
      show dOk (zX10_row_32b  (fun q x1 x2 x3 => k_15 (q, x1, x2, x3)) q_16 x1_17 x2_18 x3_19) _
      unfold zX10_row_32b
      have hFq_16 : dFr [1, 2] [0, 6, 13, 32] q q_16 := hFq_12.t a_21 (by decide) (by decide)
      subst x1_17
      try have t_25 : Int32.toInt (x3_19 + 2) = Int32.toInt x3_19 + 2 := ti_add rfl (by decide) (by omega) (by omega)
      refine dOk_lt (A := Int32.toInt (q.1 0 13)) (B := Int32.toInt (x3_19 + 2)) rfl rfl (fun c_26 => ?_) (fun c_27 => ?_)
      · refine dOk_B (ok_settled q_16 x2_18 a_20) (fun r_28 q_29 h_30 => ?_)
        replace h_30 : (TS q_29) ∧ (dFr [] [0, 32] q_16 q_29) ∧ (Int32.toInt r_28 = Int32.toInt x2_18) := h_30
        obtain ⟨i_31, i_32, i_33⟩ := h_30
        have hFq_29 : dFr [1, 2] [0, 6, 13, 32] q q_29 := hFq_16.t i_32 (by decide) (by decide)
        exact dOk_some (show (TS q_29) ∧ (dFr [1, 2] [0, 6, 13, 32] q q_29) from ⟨i_31, hFq_29⟩)
      · refine dOk_B (ok_size q_16 a_20) (fun r_34 q_35 h_36 => ?_)
        replace h_36 : (q_35 = q_16) ∧ (Int32.toInt r_34 = Int32.toInt (q_16.1 2 29)) ∧ (0 ≤ Int32.toInt r_34 ∧ Int32.toInt r_34 ≤ 6) := h_36
        obtain ⟨i_37, i_38, i_39⟩ := h_36
        subst q_35
        have f_40 : 0 ≤ Int32.toInt (q_16.1 2 29) ∧ Int32.toInt (q_16.1 2 29) ≤ 6 := a_20.1 2 29
        refine dOk_le (A := 6) (B := Int32.toInt r_34) (by decide) rfl (fun c_41 => ?_) (fun c_42 => ?_)
        · unfold zX10_row_92
          unfold zX10_row_93
          refine dOk_eq (A := 0) (B := 0) (by decide) (by decide) (fun c_43z c_43 => ?_) (fun c_44z c_44 => ?_)
          · unfold zX10_row_118
            refine dOk_eq (A := 0) (B := 0) (by decide) (by decide) (fun c_46z c_46 => ?_) (fun c_47z c_47 => ?_)
            · unfold zX10_row_129
              refine dOk_eq (A := 0) (B := 0) (by decide) (by decide) (fun c_49z c_49 => ?_) (fun c_50z c_50 => ?_)
              · unfold zX10_row_146
                refine dOk_L (fun q_52 eq_52 => ?_)
                try have t_53 : Int32.toInt (q_16.1 0 6 + 1) = Int32.toInt (q_16.1 0 6) + 1 := ti_add rfl (by decide) (by omega) (by omega)
                have hTq_52 : TS q_52 := by rw [eq_52]; exact ts_f a_20 (ti_rg _).1 (ti_rg _).2
                have hFq_52 : dFr [1, 2] [0, 6, 13, 32] q q_52 := by rw [eq_52]; exact hFq_16.f (by decide)
                try have t_54 : Int32.toInt (x2_18 + 0) = Int32.toInt x2_18 + 0 := ti_add rfl (by decide) (by omega) (by omega)
                exact hk_14 (q_52, (q.1 0 13), (x2_18 + 0), (x3_19 + 2)) (show (TS q_52) ∧ (dFr [2] [6] q_12 q_52) ∧ ((q.1 0 13) = (q.1 0 13)) ∧ (0 ≤ Int32.toInt (x3_19 + 2)) ∧ (Int32.toInt (x3_19 + 2) ≤ 402) from ⟨hTq_52, (by rw [eq_52]; exact (((dFr.rf : dFr [2] [6] q_12 q_12).t a_21 (by decide) (by decide)) : dFr [2] [6] q_12 q_16).f (by decide)), rfl, by omega, by omega⟩) (show (402 - Int32.toInt (x3_19 + 2)).toNat < (402 - Int32.toInt x3_19).toNat by omega)
              · unfold zX10_row_146
                refine dOk_L (fun q_55 eq_55 => ?_)
                try have t_56 : Int32.toInt (q_16.1 0 6 + 0) = Int32.toInt (q_16.1 0 6) + 0 := ti_add rfl (by decide) (by omega) (by omega)
                have hTq_55 : TS q_55 := by rw [eq_55]; exact ts_f a_20 (ti_rg _).1 (ti_rg _).2
                have hFq_55 : dFr [1, 2] [0, 6, 13, 32] q q_55 := by rw [eq_55]; exact hFq_16.f (by decide)
                try have t_57 : Int32.toInt (x2_18 + 0) = Int32.toInt x2_18 + 0 := ti_add rfl (by decide) (by omega) (by omega)
                exact hk_14 (q_55, (q.1 0 13), (x2_18 + 0), (x3_19 + 2)) (show (TS q_55) ∧ (dFr [2] [6] q_12 q_55) ∧ ((q.1 0 13) = (q.1 0 13)) ∧ (0 ≤ Int32.toInt (x3_19 + 2)) ∧ (Int32.toInt (x3_19 + 2) ≤ 402) from ⟨hTq_55, (by rw [eq_55]; exact (((dFr.rf : dFr [2] [6] q_12 q_12).t a_21 (by decide) (by decide)) : dFr [2] [6] q_12 q_16).f (by decide)), rfl, by omega, by omega⟩) (show (402 - Int32.toInt (x3_19 + 2)).toNat < (402 - Int32.toInt x3_19).toNat by omega)
            · unfold zX10_row_129
              refine dOk_eq (A := 0) (B := 0) (by decide) (by decide) (fun c_58z c_58 => ?_) (fun c_59z c_59 => ?_)
              · unfold zX10_row_146
                refine dOk_L (fun q_61 eq_61 => ?_)
                try have t_62 : Int32.toInt (q_16.1 0 6 + 1) = Int32.toInt (q_16.1 0 6) + 1 := ti_add rfl (by decide) (by omega) (by omega)
                have hTq_61 : TS q_61 := by rw [eq_61]; exact ts_f a_20 (ti_rg _).1 (ti_rg _).2
                have hFq_61 : dFr [1, 2] [0, 6, 13, 32] q q_61 := by rw [eq_61]; exact hFq_16.f (by decide)
                try have t_63 : Int32.toInt (x2_18 + 1) = Int32.toInt x2_18 + 1 := ti_add rfl (by decide) (by omega) (by omega)
                exact hk_14 (q_61, (q.1 0 13), (x2_18 + 1), (x3_19 + 2)) (show (TS q_61) ∧ (dFr [2] [6] q_12 q_61) ∧ ((q.1 0 13) = (q.1 0 13)) ∧ (0 ≤ Int32.toInt (x3_19 + 2)) ∧ (Int32.toInt (x3_19 + 2) ≤ 402) from ⟨hTq_61, (by rw [eq_61]; exact (((dFr.rf : dFr [2] [6] q_12 q_12).t a_21 (by decide) (by decide)) : dFr [2] [6] q_12 q_16).f (by decide)), rfl, by omega, by omega⟩) (show (402 - Int32.toInt (x3_19 + 2)).toNat < (402 - Int32.toInt x3_19).toNat by omega)
              · unfold zX10_row_146
                refine dOk_L (fun q_64 eq_64 => ?_)
                try have t_65 : Int32.toInt (q_16.1 0 6 + 0) = Int32.toInt (q_16.1 0 6) + 0 := ti_add rfl (by decide) (by omega) (by omega)
                have hTq_64 : TS q_64 := by rw [eq_64]; exact ts_f a_20 (ti_rg _).1 (ti_rg _).2
                have hFq_64 : dFr [1, 2] [0, 6, 13, 32] q q_64 := by rw [eq_64]; exact hFq_16.f (by decide)
                try have t_66 : Int32.toInt (x2_18 + 1) = Int32.toInt x2_18 + 1 := ti_add rfl (by decide) (by omega) (by omega)
                exact hk_14 (q_64, (q.1 0 13), (x2_18 + 1), (x3_19 + 2)) (show (TS q_64) ∧ (dFr [2] [6] q_12 q_64) ∧ ((q.1 0 13) = (q.1 0 13)) ∧ (0 ≤ Int32.toInt (x3_19 + 2)) ∧ (Int32.toInt (x3_19 + 2) ≤ 402) from ⟨hTq_64, (by rw [eq_64]; exact (((dFr.rf : dFr [2] [6] q_12 q_12).t a_21 (by decide) (by decide)) : dFr [2] [6] q_12 q_16).f (by decide)), rfl, by omega, by omega⟩) (show (402 - Int32.toInt (x3_19 + 2)).toNat < (402 - Int32.toInt x3_19).toNat by omega)
          · refine dOk_G (dg_ok (show 0 ≤ Int32.toInt x3_19 by omega) (show Int32.toInt x3_19 < ((400 : Nat) : Int) by omega)) ?_
            have n_67 : ((Int32.toNatClampNeg x3_19 : Nat) : Int) = Int32.toInt x3_19 := cl_eq (by omega)
            refine dOk_L (fun v_68 ev_68 => ?_)
            try have t_69 : Int32.toInt (x3_19 + 1) = Int32.toInt x3_19 + 1 := ti_add rfl (by decide) (by omega) (by omega)
            refine dOk_G (dg_ok (show 0 ≤ Int32.toInt (x3_19 + 1) by omega) (show Int32.toInt (x3_19 + 1) < ((400 : Nat) : Int) by omega)) ?_
            have n_70 : ((Int32.toNatClampNeg (x3_19 + 1) : Nat) : Int) = Int32.toInt (x3_19 + 1) := cl_eq (by omega)
            refine dOk_L (fun v_71 ev_71 => ?_)
            refine dOk_V (ok_adds q_16 v_68 v_71 a_20 (show Int32.toInt (q_16.1 2 29) < 6 by omega) (show 0 ≤ Int32.toInt v_68 ∧ Int32.toInt v_68 ≤ 5 by omega) (show 0 ≤ Int32.toInt v_71 ∧ Int32.toInt v_71 ≤ 1 by omega)) (fun q_72 h_73 => ?_)
            replace h_73 : (TS q_72) ∧ (dFr [2] [] q_16 q_72) ∧ (Int32.toInt (q_72.1 2 29) = Int32.toInt (q_16.1 2 29) + 1) := h_73
            obtain ⟨i_74, i_75, i_76⟩ := h_73
            have hFq_72 : dFr [1, 2] [0, 6, 13, 32] q q_72 := hFq_16.t i_75 (by decide) (by decide)
            have f_77 : 0 ≤ Int32.toInt (q_72.1 2 29) ∧ Int32.toInt (q_72.1 2 29) ≤ 6 := i_74.1 2 29
            unfold zX10_row_118
            refine dOk_eq (A := 0) (B := 0) (by decide) (by decide) (fun c_78z c_78 => ?_) (fun c_79z c_79 => ?_)
            · unfold zX10_row_129
              refine dOk_eq (A := 0) (B := 0) (by decide) (by decide) (fun c_81z c_81 => ?_) (fun c_82z c_82 => ?_)
              · unfold zX10_row_146
                refine dOk_L (fun q_84 eq_84 => ?_)
                have w_85 : Int32.toInt (q_72.1 0 6) = Int32.toInt (q_16.1 0 6) := by rw [i_75.2 6 (by decide)]
                try have t_86 : Int32.toInt (q_72.1 0 6 + 1) = Int32.toInt (q_72.1 0 6) + 1 := ti_add rfl (by decide) (by omega) (by omega)
                have hTq_84 : TS q_84 := by rw [eq_84]; exact ts_f i_74 (ti_rg _).1 (ti_rg _).2
                have hFq_84 : dFr [1, 2] [0, 6, 13, 32] q q_84 := by rw [eq_84]; exact hFq_72.f (by decide)
                try have t_87 : Int32.toInt (x2_18 + 0) = Int32.toInt x2_18 + 0 := ti_add rfl (by decide) (by omega) (by omega)
                exact hk_14 (q_84, (q.1 0 13), (x2_18 + 0), (x3_19 + 2)) (show (TS q_84) ∧ (dFr [2] [6] q_12 q_84) ∧ ((q.1 0 13) = (q.1 0 13)) ∧ (0 ≤ Int32.toInt (x3_19 + 2)) ∧ (Int32.toInt (x3_19 + 2) ≤ 402) from ⟨hTq_84, (by rw [eq_84]; exact (((((dFr.rf : dFr [2] [6] q_12 q_12).t a_21 (by decide) (by decide)) : dFr [2] [6] q_12 q_16).t i_75 (by decide) (by decide)) : dFr [2] [6] q_12 q_72).f (by decide)), rfl, by omega, by omega⟩) (show (402 - Int32.toInt (x3_19 + 2)).toNat < (402 - Int32.toInt x3_19).toNat by omega)
              · unfold zX10_row_146
                refine dOk_L (fun q_88 eq_88 => ?_)
                have w_89 : Int32.toInt (q_72.1 0 6) = Int32.toInt (q_16.1 0 6) := by rw [i_75.2 6 (by decide)]
                try have t_90 : Int32.toInt (q_72.1 0 6 + 0) = Int32.toInt (q_72.1 0 6) + 0 := ti_add rfl (by decide) (by omega) (by omega)
                have hTq_88 : TS q_88 := by rw [eq_88]; exact ts_f i_74 (ti_rg _).1 (ti_rg _).2
                have hFq_88 : dFr [1, 2] [0, 6, 13, 32] q q_88 := by rw [eq_88]; exact hFq_72.f (by decide)
                try have t_91 : Int32.toInt (x2_18 + 0) = Int32.toInt x2_18 + 0 := ti_add rfl (by decide) (by omega) (by omega)
                exact hk_14 (q_88, (q.1 0 13), (x2_18 + 0), (x3_19 + 2)) (show (TS q_88) ∧ (dFr [2] [6] q_12 q_88) ∧ ((q.1 0 13) = (q.1 0 13)) ∧ (0 ≤ Int32.toInt (x3_19 + 2)) ∧ (Int32.toInt (x3_19 + 2) ≤ 402) from ⟨hTq_88, (by rw [eq_88]; exact (((((dFr.rf : dFr [2] [6] q_12 q_12).t a_21 (by decide) (by decide)) : dFr [2] [6] q_12 q_16).t i_75 (by decide) (by decide)) : dFr [2] [6] q_12 q_72).f (by decide)), rfl, by omega, by omega⟩) (show (402 - Int32.toInt (x3_19 + 2)).toNat < (402 - Int32.toInt x3_19).toNat by omega)
            · unfold zX10_row_129
              refine dOk_eq (A := 0) (B := 0) (by decide) (by decide) (fun c_92z c_92 => ?_) (fun c_93z c_93 => ?_)
              · unfold zX10_row_146
                refine dOk_L (fun q_95 eq_95 => ?_)
                have w_96 : Int32.toInt (q_72.1 0 6) = Int32.toInt (q_16.1 0 6) := by rw [i_75.2 6 (by decide)]
                try have t_97 : Int32.toInt (q_72.1 0 6 + 1) = Int32.toInt (q_72.1 0 6) + 1 := ti_add rfl (by decide) (by omega) (by omega)
                have hTq_95 : TS q_95 := by rw [eq_95]; exact ts_f i_74 (ti_rg _).1 (ti_rg _).2
                have hFq_95 : dFr [1, 2] [0, 6, 13, 32] q q_95 := by rw [eq_95]; exact hFq_72.f (by decide)
                try have t_98 : Int32.toInt (x2_18 + 1) = Int32.toInt x2_18 + 1 := ti_add rfl (by decide) (by omega) (by omega)
                exact hk_14 (q_95, (q.1 0 13), (x2_18 + 1), (x3_19 + 2)) (show (TS q_95) ∧ (dFr [2] [6] q_12 q_95) ∧ ((q.1 0 13) = (q.1 0 13)) ∧ (0 ≤ Int32.toInt (x3_19 + 2)) ∧ (Int32.toInt (x3_19 + 2) ≤ 402) from ⟨hTq_95, (by rw [eq_95]; exact (((((dFr.rf : dFr [2] [6] q_12 q_12).t a_21 (by decide) (by decide)) : dFr [2] [6] q_12 q_16).t i_75 (by decide) (by decide)) : dFr [2] [6] q_12 q_72).f (by decide)), rfl, by omega, by omega⟩) (show (402 - Int32.toInt (x3_19 + 2)).toNat < (402 - Int32.toInt x3_19).toNat by omega)
              · unfold zX10_row_146
                refine dOk_L (fun q_99 eq_99 => ?_)
                have w_100 : Int32.toInt (q_72.1 0 6) = Int32.toInt (q_16.1 0 6) := by rw [i_75.2 6 (by decide)]
                try have t_101 : Int32.toInt (q_72.1 0 6 + 0) = Int32.toInt (q_72.1 0 6) + 0 := ti_add rfl (by decide) (by omega) (by omega)
                have hTq_99 : TS q_99 := by rw [eq_99]; exact ts_f i_74 (ti_rg _).1 (ti_rg _).2
                have hFq_99 : dFr [1, 2] [0, 6, 13, 32] q q_99 := by rw [eq_99]; exact hFq_72.f (by decide)
                try have t_102 : Int32.toInt (x2_18 + 1) = Int32.toInt x2_18 + 1 := ti_add rfl (by decide) (by omega) (by omega)
                exact hk_14 (q_99, (q.1 0 13), (x2_18 + 1), (x3_19 + 2)) (show (TS q_99) ∧ (dFr [2] [6] q_12 q_99) ∧ ((q.1 0 13) = (q.1 0 13)) ∧ (0 ≤ Int32.toInt (x3_19 + 2)) ∧ (Int32.toInt (x3_19 + 2) ≤ 402) from ⟨hTq_99, (by rw [eq_99]; exact (((((dFr.rf : dFr [2] [6] q_12 q_12).t a_21 (by decide) (by decide)) : dFr [2] [6] q_12 q_16).t i_75 (by decide) (by decide)) : dFr [2] [6] q_12 q_72).f (by decide)), rfl, by omega, by omega⟩) (show (402 - Int32.toInt (x3_19 + 2)).toNat < (402 - Int32.toInt x3_19).toNat by omega)
        · refine dOk_G (dg_ok (show 0 ≤ Int32.toInt x3_19 by omega) (show Int32.toInt x3_19 < ((400 : Nat) : Int) by omega)) ?_
          have n_103 : ((Int32.toNatClampNeg x3_19 : Nat) : Int) = Int32.toInt x3_19 := cl_eq (by omega)
          refine dOk_L (fun v_104 ev_104 => ?_)
          refine dOk_V (ok_isRank v_104) (fun r_105 h_106 => ?_)
          replace h_106 : ((Int32.toInt r_105 = 1 ∧ 0 ≤ Int32.toInt v_104 ∧ Int32.toInt v_104 ≤ 5) ∨ (Int32.toInt r_105 = 0 ∧ (Int32.toInt v_104 < 0 ∨ 5 < Int32.toInt v_104))) := h_106
          have i_107 := h_106
          refine dOk_eq (A := Int32.toInt r_105) (B := 0) rfl (by decide) (fun c_108z c_108 => ?_) (fun c_109z c_109 => ?_)
          · unfold zX10_row_92
            unfold zX10_row_93
            refine dOk_eq (A := 0) (B := 0) (by decide) (by decide) (fun c_111z c_111 => ?_) (fun c_112z c_112 => ?_)
            · unfold zX10_row_118
              refine dOk_eq (A := 0) (B := 0) (by decide) (by decide) (fun c_114z c_114 => ?_) (fun c_115z c_115 => ?_)
              · unfold zX10_row_129
                refine dOk_eq (A := 0) (B := 0) (by decide) (by decide) (fun c_117z c_117 => ?_) (fun c_118z c_118 => ?_)
                · unfold zX10_row_146
                  refine dOk_L (fun q_120 eq_120 => ?_)
                  try have t_121 : Int32.toInt (q_16.1 0 6 + 1) = Int32.toInt (q_16.1 0 6) + 1 := ti_add rfl (by decide) (by omega) (by omega)
                  have hTq_120 : TS q_120 := by rw [eq_120]; exact ts_f a_20 (ti_rg _).1 (ti_rg _).2
                  have hFq_120 : dFr [1, 2] [0, 6, 13, 32] q q_120 := by rw [eq_120]; exact hFq_16.f (by decide)
                  try have t_122 : Int32.toInt (x2_18 + 0) = Int32.toInt x2_18 + 0 := ti_add rfl (by decide) (by omega) (by omega)
                  exact hk_14 (q_120, (q.1 0 13), (x2_18 + 0), (x3_19 + 2)) (show (TS q_120) ∧ (dFr [2] [6] q_12 q_120) ∧ ((q.1 0 13) = (q.1 0 13)) ∧ (0 ≤ Int32.toInt (x3_19 + 2)) ∧ (Int32.toInt (x3_19 + 2) ≤ 402) from ⟨hTq_120, (by rw [eq_120]; exact (((dFr.rf : dFr [2] [6] q_12 q_12).t a_21 (by decide) (by decide)) : dFr [2] [6] q_12 q_16).f (by decide)), rfl, by omega, by omega⟩) (show (402 - Int32.toInt (x3_19 + 2)).toNat < (402 - Int32.toInt x3_19).toNat by omega)
                · unfold zX10_row_146
                  refine dOk_L (fun q_123 eq_123 => ?_)
                  try have t_124 : Int32.toInt (q_16.1 0 6 + 0) = Int32.toInt (q_16.1 0 6) + 0 := ti_add rfl (by decide) (by omega) (by omega)
                  have hTq_123 : TS q_123 := by rw [eq_123]; exact ts_f a_20 (ti_rg _).1 (ti_rg _).2
                  have hFq_123 : dFr [1, 2] [0, 6, 13, 32] q q_123 := by rw [eq_123]; exact hFq_16.f (by decide)
                  try have t_125 : Int32.toInt (x2_18 + 0) = Int32.toInt x2_18 + 0 := ti_add rfl (by decide) (by omega) (by omega)
                  exact hk_14 (q_123, (q.1 0 13), (x2_18 + 0), (x3_19 + 2)) (show (TS q_123) ∧ (dFr [2] [6] q_12 q_123) ∧ ((q.1 0 13) = (q.1 0 13)) ∧ (0 ≤ Int32.toInt (x3_19 + 2)) ∧ (Int32.toInt (x3_19 + 2) ≤ 402) from ⟨hTq_123, (by rw [eq_123]; exact (((dFr.rf : dFr [2] [6] q_12 q_12).t a_21 (by decide) (by decide)) : dFr [2] [6] q_12 q_16).f (by decide)), rfl, by omega, by omega⟩) (show (402 - Int32.toInt (x3_19 + 2)).toNat < (402 - Int32.toInt x3_19).toNat by omega)
              · unfold zX10_row_129
                refine dOk_eq (A := 0) (B := 0) (by decide) (by decide) (fun c_126z c_126 => ?_) (fun c_127z c_127 => ?_)
                · unfold zX10_row_146
                  refine dOk_L (fun q_129 eq_129 => ?_)
                  try have t_130 : Int32.toInt (q_16.1 0 6 + 1) = Int32.toInt (q_16.1 0 6) + 1 := ti_add rfl (by decide) (by omega) (by omega)
                  have hTq_129 : TS q_129 := by rw [eq_129]; exact ts_f a_20 (ti_rg _).1 (ti_rg _).2
                  have hFq_129 : dFr [1, 2] [0, 6, 13, 32] q q_129 := by rw [eq_129]; exact hFq_16.f (by decide)
                  try have t_131 : Int32.toInt (x2_18 + 1) = Int32.toInt x2_18 + 1 := ti_add rfl (by decide) (by omega) (by omega)
                  exact hk_14 (q_129, (q.1 0 13), (x2_18 + 1), (x3_19 + 2)) (show (TS q_129) ∧ (dFr [2] [6] q_12 q_129) ∧ ((q.1 0 13) = (q.1 0 13)) ∧ (0 ≤ Int32.toInt (x3_19 + 2)) ∧ (Int32.toInt (x3_19 + 2) ≤ 402) from ⟨hTq_129, (by rw [eq_129]; exact (((dFr.rf : dFr [2] [6] q_12 q_12).t a_21 (by decide) (by decide)) : dFr [2] [6] q_12 q_16).f (by decide)), rfl, by omega, by omega⟩) (show (402 - Int32.toInt (x3_19 + 2)).toNat < (402 - Int32.toInt x3_19).toNat by omega)
                · unfold zX10_row_146
                  refine dOk_L (fun q_132 eq_132 => ?_)
                  try have t_133 : Int32.toInt (q_16.1 0 6 + 0) = Int32.toInt (q_16.1 0 6) + 0 := ti_add rfl (by decide) (by omega) (by omega)
                  have hTq_132 : TS q_132 := by rw [eq_132]; exact ts_f a_20 (ti_rg _).1 (ti_rg _).2
                  have hFq_132 : dFr [1, 2] [0, 6, 13, 32] q q_132 := by rw [eq_132]; exact hFq_16.f (by decide)
                  try have t_134 : Int32.toInt (x2_18 + 1) = Int32.toInt x2_18 + 1 := ti_add rfl (by decide) (by omega) (by omega)
                  exact hk_14 (q_132, (q.1 0 13), (x2_18 + 1), (x3_19 + 2)) (show (TS q_132) ∧ (dFr [2] [6] q_12 q_132) ∧ ((q.1 0 13) = (q.1 0 13)) ∧ (0 ≤ Int32.toInt (x3_19 + 2)) ∧ (Int32.toInt (x3_19 + 2) ≤ 402) from ⟨hTq_132, (by rw [eq_132]; exact (((dFr.rf : dFr [2] [6] q_12 q_12).t a_21 (by decide) (by decide)) : dFr [2] [6] q_12 q_16).f (by decide)), rfl, by omega, by omega⟩) (show (402 - Int32.toInt (x3_19 + 2)).toNat < (402 - Int32.toInt x3_19).toNat by omega)
            · refine dOk_G (dg_ok (show 0 ≤ Int32.toInt x3_19 by omega) (show Int32.toInt x3_19 < ((400 : Nat) : Int) by omega)) ?_
              refine dOk_L (fun v_135 ev_135 => ?_)
              have w_136 : Int32.toInt v_135 = Int32.toInt v_104 := by rw [ev_135, ev_104]
              try have t_137 : Int32.toInt (x3_19 + 1) = Int32.toInt x3_19 + 1 := ti_add rfl (by decide) (by omega) (by omega)
              refine dOk_G (dg_ok (show 0 ≤ Int32.toInt (x3_19 + 1) by omega) (show Int32.toInt (x3_19 + 1) < ((400 : Nat) : Int) by omega)) ?_
              have n_138 : ((Int32.toNatClampNeg (x3_19 + 1) : Nat) : Int) = Int32.toInt (x3_19 + 1) := cl_eq (by omega)
              refine dOk_L (fun v_139 ev_139 => ?_)
              refine dOk_V (ok_adds q_16 v_135 v_139 a_20 (show Int32.toInt (q_16.1 2 29) < 6 by omega) (show 0 ≤ Int32.toInt v_135 ∧ Int32.toInt v_135 ≤ 5 by omega) (show 0 ≤ Int32.toInt v_139 ∧ Int32.toInt v_139 ≤ 1 by omega)) (fun q_140 h_141 => ?_)
              replace h_141 : (TS q_140) ∧ (dFr [2] [] q_16 q_140) ∧ (Int32.toInt (q_140.1 2 29) = Int32.toInt (q_16.1 2 29) + 1) := h_141
              obtain ⟨i_142, i_143, i_144⟩ := h_141
              have hFq_140 : dFr [1, 2] [0, 6, 13, 32] q q_140 := hFq_16.t i_143 (by decide) (by decide)
              have f_145 : 0 ≤ Int32.toInt (q_140.1 2 29) ∧ Int32.toInt (q_140.1 2 29) ≤ 6 := i_142.1 2 29
              unfold zX10_row_118
              refine dOk_eq (A := 0) (B := 0) (by decide) (by decide) (fun c_146z c_146 => ?_) (fun c_147z c_147 => ?_)
              · unfold zX10_row_129
                refine dOk_eq (A := 0) (B := 0) (by decide) (by decide) (fun c_149z c_149 => ?_) (fun c_150z c_150 => ?_)
                · unfold zX10_row_146
                  refine dOk_L (fun q_152 eq_152 => ?_)
                  have w_153 : Int32.toInt (q_140.1 0 6) = Int32.toInt (q_16.1 0 6) := by rw [i_143.2 6 (by decide)]
                  try have t_154 : Int32.toInt (q_140.1 0 6 + 1) = Int32.toInt (q_140.1 0 6) + 1 := ti_add rfl (by decide) (by omega) (by omega)
                  have hTq_152 : TS q_152 := by rw [eq_152]; exact ts_f i_142 (ti_rg _).1 (ti_rg _).2
                  have hFq_152 : dFr [1, 2] [0, 6, 13, 32] q q_152 := by rw [eq_152]; exact hFq_140.f (by decide)
                  try have t_155 : Int32.toInt (x2_18 + 0) = Int32.toInt x2_18 + 0 := ti_add rfl (by decide) (by omega) (by omega)
                  exact hk_14 (q_152, (q.1 0 13), (x2_18 + 0), (x3_19 + 2)) (show (TS q_152) ∧ (dFr [2] [6] q_12 q_152) ∧ ((q.1 0 13) = (q.1 0 13)) ∧ (0 ≤ Int32.toInt (x3_19 + 2)) ∧ (Int32.toInt (x3_19 + 2) ≤ 402) from ⟨hTq_152, (by rw [eq_152]; exact (((((dFr.rf : dFr [2] [6] q_12 q_12).t a_21 (by decide) (by decide)) : dFr [2] [6] q_12 q_16).t i_143 (by decide) (by decide)) : dFr [2] [6] q_12 q_140).f (by decide)), rfl, by omega, by omega⟩) (show (402 - Int32.toInt (x3_19 + 2)).toNat < (402 - Int32.toInt x3_19).toNat by omega)
                · unfold zX10_row_146
                  refine dOk_L (fun q_156 eq_156 => ?_)
                  have w_157 : Int32.toInt (q_140.1 0 6) = Int32.toInt (q_16.1 0 6) := by rw [i_143.2 6 (by decide)]
                  try have t_158 : Int32.toInt (q_140.1 0 6 + 0) = Int32.toInt (q_140.1 0 6) + 0 := ti_add rfl (by decide) (by omega) (by omega)
                  have hTq_156 : TS q_156 := by rw [eq_156]; exact ts_f i_142 (ti_rg _).1 (ti_rg _).2
                  have hFq_156 : dFr [1, 2] [0, 6, 13, 32] q q_156 := by rw [eq_156]; exact hFq_140.f (by decide)
                  try have t_159 : Int32.toInt (x2_18 + 0) = Int32.toInt x2_18 + 0 := ti_add rfl (by decide) (by omega) (by omega)
                  exact hk_14 (q_156, (q.1 0 13), (x2_18 + 0), (x3_19 + 2)) (show (TS q_156) ∧ (dFr [2] [6] q_12 q_156) ∧ ((q.1 0 13) = (q.1 0 13)) ∧ (0 ≤ Int32.toInt (x3_19 + 2)) ∧ (Int32.toInt (x3_19 + 2) ≤ 402) from ⟨hTq_156, (by rw [eq_156]; exact (((((dFr.rf : dFr [2] [6] q_12 q_12).t a_21 (by decide) (by decide)) : dFr [2] [6] q_12 q_16).t i_143 (by decide) (by decide)) : dFr [2] [6] q_12 q_140).f (by decide)), rfl, by omega, by omega⟩) (show (402 - Int32.toInt (x3_19 + 2)).toNat < (402 - Int32.toInt x3_19).toNat by omega)
              · unfold zX10_row_129
                refine dOk_eq (A := 0) (B := 0) (by decide) (by decide) (fun c_160z c_160 => ?_) (fun c_161z c_161 => ?_)
                · unfold zX10_row_146
                  refine dOk_L (fun q_163 eq_163 => ?_)
                  have w_164 : Int32.toInt (q_140.1 0 6) = Int32.toInt (q_16.1 0 6) := by rw [i_143.2 6 (by decide)]
                  try have t_165 : Int32.toInt (q_140.1 0 6 + 1) = Int32.toInt (q_140.1 0 6) + 1 := ti_add rfl (by decide) (by omega) (by omega)
                  have hTq_163 : TS q_163 := by rw [eq_163]; exact ts_f i_142 (ti_rg _).1 (ti_rg _).2
                  have hFq_163 : dFr [1, 2] [0, 6, 13, 32] q q_163 := by rw [eq_163]; exact hFq_140.f (by decide)
                  try have t_166 : Int32.toInt (x2_18 + 1) = Int32.toInt x2_18 + 1 := ti_add rfl (by decide) (by omega) (by omega)
                  exact hk_14 (q_163, (q.1 0 13), (x2_18 + 1), (x3_19 + 2)) (show (TS q_163) ∧ (dFr [2] [6] q_12 q_163) ∧ ((q.1 0 13) = (q.1 0 13)) ∧ (0 ≤ Int32.toInt (x3_19 + 2)) ∧ (Int32.toInt (x3_19 + 2) ≤ 402) from ⟨hTq_163, (by rw [eq_163]; exact (((((dFr.rf : dFr [2] [6] q_12 q_12).t a_21 (by decide) (by decide)) : dFr [2] [6] q_12 q_16).t i_143 (by decide) (by decide)) : dFr [2] [6] q_12 q_140).f (by decide)), rfl, by omega, by omega⟩) (show (402 - Int32.toInt (x3_19 + 2)).toNat < (402 - Int32.toInt x3_19).toNat by omega)
                · unfold zX10_row_146
                  refine dOk_L (fun q_167 eq_167 => ?_)
                  have w_168 : Int32.toInt (q_140.1 0 6) = Int32.toInt (q_16.1 0 6) := by rw [i_143.2 6 (by decide)]
                  try have t_169 : Int32.toInt (q_140.1 0 6 + 0) = Int32.toInt (q_140.1 0 6) + 0 := ti_add rfl (by decide) (by omega) (by omega)
                  have hTq_167 : TS q_167 := by rw [eq_167]; exact ts_f i_142 (ti_rg _).1 (ti_rg _).2
                  have hFq_167 : dFr [1, 2] [0, 6, 13, 32] q q_167 := by rw [eq_167]; exact hFq_140.f (by decide)
                  try have t_170 : Int32.toInt (x2_18 + 1) = Int32.toInt x2_18 + 1 := ti_add rfl (by decide) (by omega) (by omega)
                  exact hk_14 (q_167, (q.1 0 13), (x2_18 + 1), (x3_19 + 2)) (show (TS q_167) ∧ (dFr [2] [6] q_12 q_167) ∧ ((q.1 0 13) = (q.1 0 13)) ∧ (0 ≤ Int32.toInt (x3_19 + 2)) ∧ (Int32.toInt (x3_19 + 2) ≤ 402) from ⟨hTq_167, (by rw [eq_167]; exact (((((dFr.rf : dFr [2] [6] q_12 q_12).t a_21 (by decide) (by decide)) : dFr [2] [6] q_12 q_16).t i_143 (by decide) (by decide)) : dFr [2] [6] q_12 q_140).f (by decide)), rfl, by omega, by omega⟩) (show (402 - Int32.toInt (x3_19 + 2)).toNat < (402 - Int32.toInt x3_19).toNat by omega)
          · try have t_171 : Int32.toInt (x3_19 + 1) = Int32.toInt x3_19 + 1 := ti_add rfl (by decide) (by omega) (by omega)
            refine dOk_G (dg_ok (show 0 ≤ Int32.toInt (x3_19 + 1) by omega) (show Int32.toInt (x3_19 + 1) < ((400 : Nat) : Int) by omega)) ?_
            have n_172 : ((Int32.toNatClampNeg (x3_19 + 1) : Nat) : Int) = Int32.toInt (x3_19 + 1) := cl_eq (by omega)
            refine dOk_L (fun v_173 ev_173 => ?_)
            refine dOk_V (ok_isBit v_173) (fun r_174 h_175 => ?_)
            replace h_175 : ((Int32.toInt r_174 = 1 ∧ 0 ≤ Int32.toInt v_173 ∧ Int32.toInt v_173 ≤ 1) ∨ (Int32.toInt r_174 = 0 ∧ (Int32.toInt v_173 < 0 ∨ 1 < Int32.toInt v_173))) := h_175
            have i_176 := h_175
            refine dOk_eq (A := Int32.toInt r_174) (B := 0) rfl (by decide) (fun c_177z c_177 => ?_) (fun c_178z c_178 => ?_)
            · unfold zX10_row_92
              unfold zX10_row_93
              refine dOk_eq (A := 0) (B := 0) (by decide) (by decide) (fun c_180z c_180 => ?_) (fun c_181z c_181 => ?_)
              · unfold zX10_row_118
                refine dOk_eq (A := 0) (B := 0) (by decide) (by decide) (fun c_183z c_183 => ?_) (fun c_184z c_184 => ?_)
                · unfold zX10_row_129
                  refine dOk_eq (A := 0) (B := 0) (by decide) (by decide) (fun c_186z c_186 => ?_) (fun c_187z c_187 => ?_)
                  · unfold zX10_row_146
                    refine dOk_L (fun q_189 eq_189 => ?_)
                    try have t_190 : Int32.toInt (q_16.1 0 6 + 1) = Int32.toInt (q_16.1 0 6) + 1 := ti_add rfl (by decide) (by omega) (by omega)
                    have hTq_189 : TS q_189 := by rw [eq_189]; exact ts_f a_20 (ti_rg _).1 (ti_rg _).2
                    have hFq_189 : dFr [1, 2] [0, 6, 13, 32] q q_189 := by rw [eq_189]; exact hFq_16.f (by decide)
                    try have t_191 : Int32.toInt (x2_18 + 0) = Int32.toInt x2_18 + 0 := ti_add rfl (by decide) (by omega) (by omega)
                    exact hk_14 (q_189, (q.1 0 13), (x2_18 + 0), (x3_19 + 2)) (show (TS q_189) ∧ (dFr [2] [6] q_12 q_189) ∧ ((q.1 0 13) = (q.1 0 13)) ∧ (0 ≤ Int32.toInt (x3_19 + 2)) ∧ (Int32.toInt (x3_19 + 2) ≤ 402) from ⟨hTq_189, (by rw [eq_189]; exact (((dFr.rf : dFr [2] [6] q_12 q_12).t a_21 (by decide) (by decide)) : dFr [2] [6] q_12 q_16).f (by decide)), rfl, by omega, by omega⟩) (show (402 - Int32.toInt (x3_19 + 2)).toNat < (402 - Int32.toInt x3_19).toNat by omega)
                  · unfold zX10_row_146
                    refine dOk_L (fun q_192 eq_192 => ?_)
                    try have t_193 : Int32.toInt (q_16.1 0 6 + 0) = Int32.toInt (q_16.1 0 6) + 0 := ti_add rfl (by decide) (by omega) (by omega)
                    have hTq_192 : TS q_192 := by rw [eq_192]; exact ts_f a_20 (ti_rg _).1 (ti_rg _).2
                    have hFq_192 : dFr [1, 2] [0, 6, 13, 32] q q_192 := by rw [eq_192]; exact hFq_16.f (by decide)
                    try have t_194 : Int32.toInt (x2_18 + 0) = Int32.toInt x2_18 + 0 := ti_add rfl (by decide) (by omega) (by omega)
                    exact hk_14 (q_192, (q.1 0 13), (x2_18 + 0), (x3_19 + 2)) (show (TS q_192) ∧ (dFr [2] [6] q_12 q_192) ∧ ((q.1 0 13) = (q.1 0 13)) ∧ (0 ≤ Int32.toInt (x3_19 + 2)) ∧ (Int32.toInt (x3_19 + 2) ≤ 402) from ⟨hTq_192, (by rw [eq_192]; exact (((dFr.rf : dFr [2] [6] q_12 q_12).t a_21 (by decide) (by decide)) : dFr [2] [6] q_12 q_16).f (by decide)), rfl, by omega, by omega⟩) (show (402 - Int32.toInt (x3_19 + 2)).toNat < (402 - Int32.toInt x3_19).toNat by omega)
                · unfold zX10_row_129
                  refine dOk_eq (A := 0) (B := 0) (by decide) (by decide) (fun c_195z c_195 => ?_) (fun c_196z c_196 => ?_)
                  · unfold zX10_row_146
                    refine dOk_L (fun q_198 eq_198 => ?_)
                    try have t_199 : Int32.toInt (q_16.1 0 6 + 1) = Int32.toInt (q_16.1 0 6) + 1 := ti_add rfl (by decide) (by omega) (by omega)
                    have hTq_198 : TS q_198 := by rw [eq_198]; exact ts_f a_20 (ti_rg _).1 (ti_rg _).2
                    have hFq_198 : dFr [1, 2] [0, 6, 13, 32] q q_198 := by rw [eq_198]; exact hFq_16.f (by decide)
                    try have t_200 : Int32.toInt (x2_18 + 1) = Int32.toInt x2_18 + 1 := ti_add rfl (by decide) (by omega) (by omega)
                    exact hk_14 (q_198, (q.1 0 13), (x2_18 + 1), (x3_19 + 2)) (show (TS q_198) ∧ (dFr [2] [6] q_12 q_198) ∧ ((q.1 0 13) = (q.1 0 13)) ∧ (0 ≤ Int32.toInt (x3_19 + 2)) ∧ (Int32.toInt (x3_19 + 2) ≤ 402) from ⟨hTq_198, (by rw [eq_198]; exact (((dFr.rf : dFr [2] [6] q_12 q_12).t a_21 (by decide) (by decide)) : dFr [2] [6] q_12 q_16).f (by decide)), rfl, by omega, by omega⟩) (show (402 - Int32.toInt (x3_19 + 2)).toNat < (402 - Int32.toInt x3_19).toNat by omega)
                  · unfold zX10_row_146
                    refine dOk_L (fun q_201 eq_201 => ?_)
                    try have t_202 : Int32.toInt (q_16.1 0 6 + 0) = Int32.toInt (q_16.1 0 6) + 0 := ti_add rfl (by decide) (by omega) (by omega)
                    have hTq_201 : TS q_201 := by rw [eq_201]; exact ts_f a_20 (ti_rg _).1 (ti_rg _).2
                    have hFq_201 : dFr [1, 2] [0, 6, 13, 32] q q_201 := by rw [eq_201]; exact hFq_16.f (by decide)
                    try have t_203 : Int32.toInt (x2_18 + 1) = Int32.toInt x2_18 + 1 := ti_add rfl (by decide) (by omega) (by omega)
                    exact hk_14 (q_201, (q.1 0 13), (x2_18 + 1), (x3_19 + 2)) (show (TS q_201) ∧ (dFr [2] [6] q_12 q_201) ∧ ((q.1 0 13) = (q.1 0 13)) ∧ (0 ≤ Int32.toInt (x3_19 + 2)) ∧ (Int32.toInt (x3_19 + 2) ≤ 402) from ⟨hTq_201, (by rw [eq_201]; exact (((dFr.rf : dFr [2] [6] q_12 q_12).t a_21 (by decide) (by decide)) : dFr [2] [6] q_12 q_16).f (by decide)), rfl, by omega, by omega⟩) (show (402 - Int32.toInt (x3_19 + 2)).toNat < (402 - Int32.toInt x3_19).toNat by omega)
              · refine dOk_G (dg_ok (show 0 ≤ Int32.toInt x3_19 by omega) (show Int32.toInt x3_19 < ((400 : Nat) : Int) by omega)) ?_
                refine dOk_L (fun v_204 ev_204 => ?_)
                have w_205 : Int32.toInt v_204 = Int32.toInt v_104 := by rw [ev_204, ev_104]
                refine dOk_G (dg_ok (show 0 ≤ Int32.toInt (x3_19 + 1) by omega) (show Int32.toInt (x3_19 + 1) < ((400 : Nat) : Int) by omega)) ?_
                refine dOk_L (fun v_206 ev_206 => ?_)
                have w_207 : Int32.toInt v_206 = Int32.toInt v_173 := by rw [ev_206, ev_173]
                refine dOk_V (ok_adds q_16 v_204 v_206 a_20 (show Int32.toInt (q_16.1 2 29) < 6 by omega) (show 0 ≤ Int32.toInt v_204 ∧ Int32.toInt v_204 ≤ 5 by omega) (show 0 ≤ Int32.toInt v_206 ∧ Int32.toInt v_206 ≤ 1 by omega)) (fun q_208 h_209 => ?_)
                replace h_209 : (TS q_208) ∧ (dFr [2] [] q_16 q_208) ∧ (Int32.toInt (q_208.1 2 29) = Int32.toInt (q_16.1 2 29) + 1) := h_209
                obtain ⟨i_210, i_211, i_212⟩ := h_209
                have hFq_208 : dFr [1, 2] [0, 6, 13, 32] q q_208 := hFq_16.t i_211 (by decide) (by decide)
                have f_213 : 0 ≤ Int32.toInt (q_208.1 2 29) ∧ Int32.toInt (q_208.1 2 29) ≤ 6 := i_210.1 2 29
                unfold zX10_row_118
                refine dOk_eq (A := 0) (B := 0) (by decide) (by decide) (fun c_214z c_214 => ?_) (fun c_215z c_215 => ?_)
                · unfold zX10_row_129
                  refine dOk_eq (A := 0) (B := 0) (by decide) (by decide) (fun c_217z c_217 => ?_) (fun c_218z c_218 => ?_)
                  · unfold zX10_row_146
                    refine dOk_L (fun q_220 eq_220 => ?_)
                    have w_221 : Int32.toInt (q_208.1 0 6) = Int32.toInt (q_16.1 0 6) := by rw [i_211.2 6 (by decide)]
                    try have t_222 : Int32.toInt (q_208.1 0 6 + 1) = Int32.toInt (q_208.1 0 6) + 1 := ti_add rfl (by decide) (by omega) (by omega)
                    have hTq_220 : TS q_220 := by rw [eq_220]; exact ts_f i_210 (ti_rg _).1 (ti_rg _).2
                    have hFq_220 : dFr [1, 2] [0, 6, 13, 32] q q_220 := by rw [eq_220]; exact hFq_208.f (by decide)
                    try have t_223 : Int32.toInt (x2_18 + 0) = Int32.toInt x2_18 + 0 := ti_add rfl (by decide) (by omega) (by omega)
                    exact hk_14 (q_220, (q.1 0 13), (x2_18 + 0), (x3_19 + 2)) (show (TS q_220) ∧ (dFr [2] [6] q_12 q_220) ∧ ((q.1 0 13) = (q.1 0 13)) ∧ (0 ≤ Int32.toInt (x3_19 + 2)) ∧ (Int32.toInt (x3_19 + 2) ≤ 402) from ⟨hTq_220, (by rw [eq_220]; exact (((((dFr.rf : dFr [2] [6] q_12 q_12).t a_21 (by decide) (by decide)) : dFr [2] [6] q_12 q_16).t i_211 (by decide) (by decide)) : dFr [2] [6] q_12 q_208).f (by decide)), rfl, by omega, by omega⟩) (show (402 - Int32.toInt (x3_19 + 2)).toNat < (402 - Int32.toInt x3_19).toNat by omega)
                  · unfold zX10_row_146
                    refine dOk_L (fun q_224 eq_224 => ?_)
                    have w_225 : Int32.toInt (q_208.1 0 6) = Int32.toInt (q_16.1 0 6) := by rw [i_211.2 6 (by decide)]
                    try have t_226 : Int32.toInt (q_208.1 0 6 + 0) = Int32.toInt (q_208.1 0 6) + 0 := ti_add rfl (by decide) (by omega) (by omega)
                    have hTq_224 : TS q_224 := by rw [eq_224]; exact ts_f i_210 (ti_rg _).1 (ti_rg _).2
                    have hFq_224 : dFr [1, 2] [0, 6, 13, 32] q q_224 := by rw [eq_224]; exact hFq_208.f (by decide)
                    try have t_227 : Int32.toInt (x2_18 + 0) = Int32.toInt x2_18 + 0 := ti_add rfl (by decide) (by omega) (by omega)
                    exact hk_14 (q_224, (q.1 0 13), (x2_18 + 0), (x3_19 + 2)) (show (TS q_224) ∧ (dFr [2] [6] q_12 q_224) ∧ ((q.1 0 13) = (q.1 0 13)) ∧ (0 ≤ Int32.toInt (x3_19 + 2)) ∧ (Int32.toInt (x3_19 + 2) ≤ 402) from ⟨hTq_224, (by rw [eq_224]; exact (((((dFr.rf : dFr [2] [6] q_12 q_12).t a_21 (by decide) (by decide)) : dFr [2] [6] q_12 q_16).t i_211 (by decide) (by decide)) : dFr [2] [6] q_12 q_208).f (by decide)), rfl, by omega, by omega⟩) (show (402 - Int32.toInt (x3_19 + 2)).toNat < (402 - Int32.toInt x3_19).toNat by omega)
                · unfold zX10_row_129
                  refine dOk_eq (A := 0) (B := 0) (by decide) (by decide) (fun c_228z c_228 => ?_) (fun c_229z c_229 => ?_)
                  · unfold zX10_row_146
                    refine dOk_L (fun q_231 eq_231 => ?_)
                    have w_232 : Int32.toInt (q_208.1 0 6) = Int32.toInt (q_16.1 0 6) := by rw [i_211.2 6 (by decide)]
                    try have t_233 : Int32.toInt (q_208.1 0 6 + 1) = Int32.toInt (q_208.1 0 6) + 1 := ti_add rfl (by decide) (by omega) (by omega)
                    have hTq_231 : TS q_231 := by rw [eq_231]; exact ts_f i_210 (ti_rg _).1 (ti_rg _).2
                    have hFq_231 : dFr [1, 2] [0, 6, 13, 32] q q_231 := by rw [eq_231]; exact hFq_208.f (by decide)
                    try have t_234 : Int32.toInt (x2_18 + 1) = Int32.toInt x2_18 + 1 := ti_add rfl (by decide) (by omega) (by omega)
                    exact hk_14 (q_231, (q.1 0 13), (x2_18 + 1), (x3_19 + 2)) (show (TS q_231) ∧ (dFr [2] [6] q_12 q_231) ∧ ((q.1 0 13) = (q.1 0 13)) ∧ (0 ≤ Int32.toInt (x3_19 + 2)) ∧ (Int32.toInt (x3_19 + 2) ≤ 402) from ⟨hTq_231, (by rw [eq_231]; exact (((((dFr.rf : dFr [2] [6] q_12 q_12).t a_21 (by decide) (by decide)) : dFr [2] [6] q_12 q_16).t i_211 (by decide) (by decide)) : dFr [2] [6] q_12 q_208).f (by decide)), rfl, by omega, by omega⟩) (show (402 - Int32.toInt (x3_19 + 2)).toNat < (402 - Int32.toInt x3_19).toNat by omega)
                  · unfold zX10_row_146
                    refine dOk_L (fun q_235 eq_235 => ?_)
                    have w_236 : Int32.toInt (q_208.1 0 6) = Int32.toInt (q_16.1 0 6) := by rw [i_211.2 6 (by decide)]
                    try have t_237 : Int32.toInt (q_208.1 0 6 + 0) = Int32.toInt (q_208.1 0 6) + 0 := ti_add rfl (by decide) (by omega) (by omega)
                    have hTq_235 : TS q_235 := by rw [eq_235]; exact ts_f i_210 (ti_rg _).1 (ti_rg _).2
                    have hFq_235 : dFr [1, 2] [0, 6, 13, 32] q q_235 := by rw [eq_235]; exact hFq_208.f (by decide)
                    try have t_238 : Int32.toInt (x2_18 + 1) = Int32.toInt x2_18 + 1 := ti_add rfl (by decide) (by omega) (by omega)
                    exact hk_14 (q_235, (q.1 0 13), (x2_18 + 1), (x3_19 + 2)) (show (TS q_235) ∧ (dFr [2] [6] q_12 q_235) ∧ ((q.1 0 13) = (q.1 0 13)) ∧ (0 ≤ Int32.toInt (x3_19 + 2)) ∧ (Int32.toInt (x3_19 + 2) ≤ 402) from ⟨hTq_235, (by rw [eq_235]; exact (((((dFr.rf : dFr [2] [6] q_12 q_12).t a_21 (by decide) (by decide)) : dFr [2] [6] q_12 q_16).t i_211 (by decide) (by decide)) : dFr [2] [6] q_12 q_208).f (by decide)), rfl, by omega, by omega⟩) (show (402 - Int32.toInt (x3_19 + 2)).toNat < (402 - Int32.toInt x3_19).toNat by omega)
            · refine dOk_G (dg_ok (show 0 ≤ Int32.toInt x3_19 by omega) (show Int32.toInt x3_19 < ((400 : Nat) : Int) by omega)) ?_
              refine dOk_L (fun v_239 ev_239 => ?_)
              have w_240 : Int32.toInt v_239 = Int32.toInt v_104 := by rw [ev_239, ev_104]
              refine dOk_B (ok_placeOf q_16 v_239 a_20) (fun r_241 q_242 h_243 => ?_)
              replace h_243 : (q_242 = q_16) ∧ (-1 ≤ Int32.toInt r_241 ∧ Int32.toInt r_241 ≤ 5) := h_243
              obtain ⟨i_244, i_245⟩ := h_243
              subst q_242
              refine dOk_eq (A := Int32.toInt r_241) (B := (-1)) rfl (by decide) (fun c_246z c_246 => ?_) (fun c_247z c_247 => ?_)
              · unfold zX10_row_93
                refine dOk_eq (A := 1) (B := 0) (by decide) (by decide) (fun c_249z c_249 => ?_) (fun c_250z c_250 => ?_)
                · unfold zX10_row_118
                  refine dOk_eq (A := 1) (B := 0) (by decide) (by decide) (fun c_252z c_252 => ?_) (fun c_253z c_253 => ?_)
                  · unfold zX10_row_129
                    refine dOk_eq (A := 1) (B := 0) (by decide) (by decide) (fun c_255z c_255 => ?_) (fun c_256z c_256 => ?_)
                    · unfold zX10_row_146
                      refine dOk_L (fun q_258 eq_258 => ?_)
                      try have t_259 : Int32.toInt (q_16.1 0 6 + 1) = Int32.toInt (q_16.1 0 6) + 1 := ti_add rfl (by decide) (by omega) (by omega)
                      have hTq_258 : TS q_258 := by rw [eq_258]; exact ts_f a_20 (ti_rg _).1 (ti_rg _).2
                      have hFq_258 : dFr [1, 2] [0, 6, 13, 32] q q_258 := by rw [eq_258]; exact hFq_16.f (by decide)
                      try have t_260 : Int32.toInt (x2_18 + 0) = Int32.toInt x2_18 + 0 := ti_add rfl (by decide) (by omega) (by omega)
                      exact hk_14 (q_258, (q.1 0 13), (x2_18 + 0), (x3_19 + 2)) (show (TS q_258) ∧ (dFr [2] [6] q_12 q_258) ∧ ((q.1 0 13) = (q.1 0 13)) ∧ (0 ≤ Int32.toInt (x3_19 + 2)) ∧ (Int32.toInt (x3_19 + 2) ≤ 402) from ⟨hTq_258, (by rw [eq_258]; exact (((dFr.rf : dFr [2] [6] q_12 q_12).t a_21 (by decide) (by decide)) : dFr [2] [6] q_12 q_16).f (by decide)), rfl, by omega, by omega⟩) (show (402 - Int32.toInt (x3_19 + 2)).toNat < (402 - Int32.toInt x3_19).toNat by omega)
                    · unfold zX10_row_146
                      refine dOk_L (fun q_261 eq_261 => ?_)
                      try have t_262 : Int32.toInt (q_16.1 0 6 + 0) = Int32.toInt (q_16.1 0 6) + 0 := ti_add rfl (by decide) (by omega) (by omega)
                      have hTq_261 : TS q_261 := by rw [eq_261]; exact ts_f a_20 (ti_rg _).1 (ti_rg _).2
                      have hFq_261 : dFr [1, 2] [0, 6, 13, 32] q q_261 := by rw [eq_261]; exact hFq_16.f (by decide)
                      try have t_263 : Int32.toInt (x2_18 + 0) = Int32.toInt x2_18 + 0 := ti_add rfl (by decide) (by omega) (by omega)
                      exact hk_14 (q_261, (q.1 0 13), (x2_18 + 0), (x3_19 + 2)) (show (TS q_261) ∧ (dFr [2] [6] q_12 q_261) ∧ ((q.1 0 13) = (q.1 0 13)) ∧ (0 ≤ Int32.toInt (x3_19 + 2)) ∧ (Int32.toInt (x3_19 + 2) ≤ 402) from ⟨hTq_261, (by rw [eq_261]; exact (((dFr.rf : dFr [2] [6] q_12 q_12).t a_21 (by decide) (by decide)) : dFr [2] [6] q_12 q_16).f (by decide)), rfl, by omega, by omega⟩) (show (402 - Int32.toInt (x3_19 + 2)).toNat < (402 - Int32.toInt x3_19).toNat by omega)
                  · unfold zX10_row_129
                    refine dOk_eq (A := 1) (B := 0) (by decide) (by decide) (fun c_264z c_264 => ?_) (fun c_265z c_265 => ?_)
                    · unfold zX10_row_146
                      refine dOk_L (fun q_267 eq_267 => ?_)
                      try have t_268 : Int32.toInt (q_16.1 0 6 + 1) = Int32.toInt (q_16.1 0 6) + 1 := ti_add rfl (by decide) (by omega) (by omega)
                      have hTq_267 : TS q_267 := by rw [eq_267]; exact ts_f a_20 (ti_rg _).1 (ti_rg _).2
                      have hFq_267 : dFr [1, 2] [0, 6, 13, 32] q q_267 := by rw [eq_267]; exact hFq_16.f (by decide)
                      try have t_269 : Int32.toInt (x2_18 + 1) = Int32.toInt x2_18 + 1 := ti_add rfl (by decide) (by omega) (by omega)
                      exact hk_14 (q_267, (q.1 0 13), (x2_18 + 1), (x3_19 + 2)) (show (TS q_267) ∧ (dFr [2] [6] q_12 q_267) ∧ ((q.1 0 13) = (q.1 0 13)) ∧ (0 ≤ Int32.toInt (x3_19 + 2)) ∧ (Int32.toInt (x3_19 + 2) ≤ 402) from ⟨hTq_267, (by rw [eq_267]; exact (((dFr.rf : dFr [2] [6] q_12 q_12).t a_21 (by decide) (by decide)) : dFr [2] [6] q_12 q_16).f (by decide)), rfl, by omega, by omega⟩) (show (402 - Int32.toInt (x3_19 + 2)).toNat < (402 - Int32.toInt x3_19).toNat by omega)
                    · unfold zX10_row_146
                      refine dOk_L (fun q_270 eq_270 => ?_)
                      try have t_271 : Int32.toInt (q_16.1 0 6 + 0) = Int32.toInt (q_16.1 0 6) + 0 := ti_add rfl (by decide) (by omega) (by omega)
                      have hTq_270 : TS q_270 := by rw [eq_270]; exact ts_f a_20 (ti_rg _).1 (ti_rg _).2
                      have hFq_270 : dFr [1, 2] [0, 6, 13, 32] q q_270 := by rw [eq_270]; exact hFq_16.f (by decide)
                      try have t_272 : Int32.toInt (x2_18 + 1) = Int32.toInt x2_18 + 1 := ti_add rfl (by decide) (by omega) (by omega)
                      exact hk_14 (q_270, (q.1 0 13), (x2_18 + 1), (x3_19 + 2)) (show (TS q_270) ∧ (dFr [2] [6] q_12 q_270) ∧ ((q.1 0 13) = (q.1 0 13)) ∧ (0 ≤ Int32.toInt (x3_19 + 2)) ∧ (Int32.toInt (x3_19 + 2) ≤ 402) from ⟨hTq_270, (by rw [eq_270]; exact (((dFr.rf : dFr [2] [6] q_12 q_12).t a_21 (by decide) (by decide)) : dFr [2] [6] q_12 q_16).f (by decide)), rfl, by omega, by omega⟩) (show (402 - Int32.toInt (x3_19 + 2)).toNat < (402 - Int32.toInt x3_19).toNat by omega)
                · refine dOk_G (dg_ok (show 0 ≤ Int32.toInt x3_19 by omega) (show Int32.toInt x3_19 < ((400 : Nat) : Int) by omega)) ?_
                  refine dOk_L (fun v_273 ev_273 => ?_)
                  have w_274 : Int32.toInt v_273 = Int32.toInt v_104 := by rw [ev_273, ev_104]
                  refine dOk_G (dg_ok (show 0 ≤ Int32.toInt (x3_19 + 1) by omega) (show Int32.toInt (x3_19 + 1) < ((400 : Nat) : Int) by omega)) ?_
                  refine dOk_L (fun v_275 ev_275 => ?_)
                  have w_276 : Int32.toInt v_275 = Int32.toInt v_173 := by rw [ev_275, ev_173]
                  refine dOk_V (ok_adds q_16 v_273 v_275 a_20 (show Int32.toInt (q_16.1 2 29) < 6 by omega) (show 0 ≤ Int32.toInt v_273 ∧ Int32.toInt v_273 ≤ 5 by omega) (show 0 ≤ Int32.toInt v_275 ∧ Int32.toInt v_275 ≤ 1 by omega)) (fun q_277 h_278 => ?_)
                  replace h_278 : (TS q_277) ∧ (dFr [2] [] q_16 q_277) ∧ (Int32.toInt (q_277.1 2 29) = Int32.toInt (q_16.1 2 29) + 1) := h_278
                  obtain ⟨i_279, i_280, i_281⟩ := h_278
                  have hFq_277 : dFr [1, 2] [0, 6, 13, 32] q q_277 := hFq_16.t i_280 (by decide) (by decide)
                  have f_282 : 0 ≤ Int32.toInt (q_277.1 2 29) ∧ Int32.toInt (q_277.1 2 29) ≤ 6 := i_279.1 2 29
                  unfold zX10_row_118
                  refine dOk_eq (A := 1) (B := 0) (by decide) (by decide) (fun c_283z c_283 => ?_) (fun c_284z c_284 => ?_)
                  · unfold zX10_row_129
                    refine dOk_eq (A := 1) (B := 0) (by decide) (by decide) (fun c_286z c_286 => ?_) (fun c_287z c_287 => ?_)
                    · unfold zX10_row_146
                      refine dOk_L (fun q_289 eq_289 => ?_)
                      have w_290 : Int32.toInt (q_277.1 0 6) = Int32.toInt (q_16.1 0 6) := by rw [i_280.2 6 (by decide)]
                      try have t_291 : Int32.toInt (q_277.1 0 6 + 1) = Int32.toInt (q_277.1 0 6) + 1 := ti_add rfl (by decide) (by omega) (by omega)
                      have hTq_289 : TS q_289 := by rw [eq_289]; exact ts_f i_279 (ti_rg _).1 (ti_rg _).2
                      have hFq_289 : dFr [1, 2] [0, 6, 13, 32] q q_289 := by rw [eq_289]; exact hFq_277.f (by decide)
                      try have t_292 : Int32.toInt (x2_18 + 0) = Int32.toInt x2_18 + 0 := ti_add rfl (by decide) (by omega) (by omega)
                      exact hk_14 (q_289, (q.1 0 13), (x2_18 + 0), (x3_19 + 2)) (show (TS q_289) ∧ (dFr [2] [6] q_12 q_289) ∧ ((q.1 0 13) = (q.1 0 13)) ∧ (0 ≤ Int32.toInt (x3_19 + 2)) ∧ (Int32.toInt (x3_19 + 2) ≤ 402) from ⟨hTq_289, (by rw [eq_289]; exact (((((dFr.rf : dFr [2] [6] q_12 q_12).t a_21 (by decide) (by decide)) : dFr [2] [6] q_12 q_16).t i_280 (by decide) (by decide)) : dFr [2] [6] q_12 q_277).f (by decide)), rfl, by omega, by omega⟩) (show (402 - Int32.toInt (x3_19 + 2)).toNat < (402 - Int32.toInt x3_19).toNat by omega)
                    · unfold zX10_row_146
                      refine dOk_L (fun q_293 eq_293 => ?_)
                      have w_294 : Int32.toInt (q_277.1 0 6) = Int32.toInt (q_16.1 0 6) := by rw [i_280.2 6 (by decide)]
                      try have t_295 : Int32.toInt (q_277.1 0 6 + 0) = Int32.toInt (q_277.1 0 6) + 0 := ti_add rfl (by decide) (by omega) (by omega)
                      have hTq_293 : TS q_293 := by rw [eq_293]; exact ts_f i_279 (ti_rg _).1 (ti_rg _).2
                      have hFq_293 : dFr [1, 2] [0, 6, 13, 32] q q_293 := by rw [eq_293]; exact hFq_277.f (by decide)
                      try have t_296 : Int32.toInt (x2_18 + 0) = Int32.toInt x2_18 + 0 := ti_add rfl (by decide) (by omega) (by omega)
                      exact hk_14 (q_293, (q.1 0 13), (x2_18 + 0), (x3_19 + 2)) (show (TS q_293) ∧ (dFr [2] [6] q_12 q_293) ∧ ((q.1 0 13) = (q.1 0 13)) ∧ (0 ≤ Int32.toInt (x3_19 + 2)) ∧ (Int32.toInt (x3_19 + 2) ≤ 402) from ⟨hTq_293, (by rw [eq_293]; exact (((((dFr.rf : dFr [2] [6] q_12 q_12).t a_21 (by decide) (by decide)) : dFr [2] [6] q_12 q_16).t i_280 (by decide) (by decide)) : dFr [2] [6] q_12 q_277).f (by decide)), rfl, by omega, by omega⟩) (show (402 - Int32.toInt (x3_19 + 2)).toNat < (402 - Int32.toInt x3_19).toNat by omega)
                  · unfold zX10_row_129
                    refine dOk_eq (A := 1) (B := 0) (by decide) (by decide) (fun c_297z c_297 => ?_) (fun c_298z c_298 => ?_)
                    · unfold zX10_row_146
                      refine dOk_L (fun q_300 eq_300 => ?_)
                      have w_301 : Int32.toInt (q_277.1 0 6) = Int32.toInt (q_16.1 0 6) := by rw [i_280.2 6 (by decide)]
                      try have t_302 : Int32.toInt (q_277.1 0 6 + 1) = Int32.toInt (q_277.1 0 6) + 1 := ti_add rfl (by decide) (by omega) (by omega)
                      have hTq_300 : TS q_300 := by rw [eq_300]; exact ts_f i_279 (ti_rg _).1 (ti_rg _).2
                      have hFq_300 : dFr [1, 2] [0, 6, 13, 32] q q_300 := by rw [eq_300]; exact hFq_277.f (by decide)
                      try have t_303 : Int32.toInt (x2_18 + 1) = Int32.toInt x2_18 + 1 := ti_add rfl (by decide) (by omega) (by omega)
                      exact hk_14 (q_300, (q.1 0 13), (x2_18 + 1), (x3_19 + 2)) (show (TS q_300) ∧ (dFr [2] [6] q_12 q_300) ∧ ((q.1 0 13) = (q.1 0 13)) ∧ (0 ≤ Int32.toInt (x3_19 + 2)) ∧ (Int32.toInt (x3_19 + 2) ≤ 402) from ⟨hTq_300, (by rw [eq_300]; exact (((((dFr.rf : dFr [2] [6] q_12 q_12).t a_21 (by decide) (by decide)) : dFr [2] [6] q_12 q_16).t i_280 (by decide) (by decide)) : dFr [2] [6] q_12 q_277).f (by decide)), rfl, by omega, by omega⟩) (show (402 - Int32.toInt (x3_19 + 2)).toNat < (402 - Int32.toInt x3_19).toNat by omega)
                    · unfold zX10_row_146
                      refine dOk_L (fun q_304 eq_304 => ?_)
                      have w_305 : Int32.toInt (q_277.1 0 6) = Int32.toInt (q_16.1 0 6) := by rw [i_280.2 6 (by decide)]
                      try have t_306 : Int32.toInt (q_277.1 0 6 + 0) = Int32.toInt (q_277.1 0 6) + 0 := ti_add rfl (by decide) (by omega) (by omega)
                      have hTq_304 : TS q_304 := by rw [eq_304]; exact ts_f i_279 (ti_rg _).1 (ti_rg _).2
                      have hFq_304 : dFr [1, 2] [0, 6, 13, 32] q q_304 := by rw [eq_304]; exact hFq_277.f (by decide)
                      try have t_307 : Int32.toInt (x2_18 + 1) = Int32.toInt x2_18 + 1 := ti_add rfl (by decide) (by omega) (by omega)
                      exact hk_14 (q_304, (q.1 0 13), (x2_18 + 1), (x3_19 + 2)) (show (TS q_304) ∧ (dFr [2] [6] q_12 q_304) ∧ ((q.1 0 13) = (q.1 0 13)) ∧ (0 ≤ Int32.toInt (x3_19 + 2)) ∧ (Int32.toInt (x3_19 + 2) ≤ 402) from ⟨hTq_304, (by rw [eq_304]; exact (((((dFr.rf : dFr [2] [6] q_12 q_12).t a_21 (by decide) (by decide)) : dFr [2] [6] q_12 q_16).t i_280 (by decide) (by decide)) : dFr [2] [6] q_12 q_277).f (by decide)), rfl, by omega, by omega⟩) (show (402 - Int32.toInt (x3_19 + 2)).toNat < (402 - Int32.toInt x3_19).toNat by omega)
              · unfold zX10_row_92
                unfold zX10_row_93
                refine dOk_eq (A := 0) (B := 0) (by decide) (by decide) (fun c_308z c_308 => ?_) (fun c_309z c_309 => ?_)
                · unfold zX10_row_118
                  refine dOk_eq (A := 0) (B := 0) (by decide) (by decide) (fun c_311z c_311 => ?_) (fun c_312z c_312 => ?_)
                  · unfold zX10_row_129
                    refine dOk_eq (A := 0) (B := 0) (by decide) (by decide) (fun c_314z c_314 => ?_) (fun c_315z c_315 => ?_)
                    · unfold zX10_row_146
                      refine dOk_L (fun q_317 eq_317 => ?_)
                      try have t_318 : Int32.toInt (q_16.1 0 6 + 1) = Int32.toInt (q_16.1 0 6) + 1 := ti_add rfl (by decide) (by omega) (by omega)
                      have hTq_317 : TS q_317 := by rw [eq_317]; exact ts_f a_20 (ti_rg _).1 (ti_rg _).2
                      have hFq_317 : dFr [1, 2] [0, 6, 13, 32] q q_317 := by rw [eq_317]; exact hFq_16.f (by decide)
                      try have t_319 : Int32.toInt (x2_18 + 0) = Int32.toInt x2_18 + 0 := ti_add rfl (by decide) (by omega) (by omega)
                      exact hk_14 (q_317, (q.1 0 13), (x2_18 + 0), (x3_19 + 2)) (show (TS q_317) ∧ (dFr [2] [6] q_12 q_317) ∧ ((q.1 0 13) = (q.1 0 13)) ∧ (0 ≤ Int32.toInt (x3_19 + 2)) ∧ (Int32.toInt (x3_19 + 2) ≤ 402) from ⟨hTq_317, (by rw [eq_317]; exact (((dFr.rf : dFr [2] [6] q_12 q_12).t a_21 (by decide) (by decide)) : dFr [2] [6] q_12 q_16).f (by decide)), rfl, by omega, by omega⟩) (show (402 - Int32.toInt (x3_19 + 2)).toNat < (402 - Int32.toInt x3_19).toNat by omega)
                    · unfold zX10_row_146
                      refine dOk_L (fun q_320 eq_320 => ?_)
                      try have t_321 : Int32.toInt (q_16.1 0 6 + 0) = Int32.toInt (q_16.1 0 6) + 0 := ti_add rfl (by decide) (by omega) (by omega)
                      have hTq_320 : TS q_320 := by rw [eq_320]; exact ts_f a_20 (ti_rg _).1 (ti_rg _).2
                      have hFq_320 : dFr [1, 2] [0, 6, 13, 32] q q_320 := by rw [eq_320]; exact hFq_16.f (by decide)
                      try have t_322 : Int32.toInt (x2_18 + 0) = Int32.toInt x2_18 + 0 := ti_add rfl (by decide) (by omega) (by omega)
                      exact hk_14 (q_320, (q.1 0 13), (x2_18 + 0), (x3_19 + 2)) (show (TS q_320) ∧ (dFr [2] [6] q_12 q_320) ∧ ((q.1 0 13) = (q.1 0 13)) ∧ (0 ≤ Int32.toInt (x3_19 + 2)) ∧ (Int32.toInt (x3_19 + 2) ≤ 402) from ⟨hTq_320, (by rw [eq_320]; exact (((dFr.rf : dFr [2] [6] q_12 q_12).t a_21 (by decide) (by decide)) : dFr [2] [6] q_12 q_16).f (by decide)), rfl, by omega, by omega⟩) (show (402 - Int32.toInt (x3_19 + 2)).toNat < (402 - Int32.toInt x3_19).toNat by omega)
                  · unfold zX10_row_129
                    refine dOk_eq (A := 0) (B := 0) (by decide) (by decide) (fun c_323z c_323 => ?_) (fun c_324z c_324 => ?_)
                    · unfold zX10_row_146
                      refine dOk_L (fun q_326 eq_326 => ?_)
                      try have t_327 : Int32.toInt (q_16.1 0 6 + 1) = Int32.toInt (q_16.1 0 6) + 1 := ti_add rfl (by decide) (by omega) (by omega)
                      have hTq_326 : TS q_326 := by rw [eq_326]; exact ts_f a_20 (ti_rg _).1 (ti_rg _).2
                      have hFq_326 : dFr [1, 2] [0, 6, 13, 32] q q_326 := by rw [eq_326]; exact hFq_16.f (by decide)
                      try have t_328 : Int32.toInt (x2_18 + 1) = Int32.toInt x2_18 + 1 := ti_add rfl (by decide) (by omega) (by omega)
                      exact hk_14 (q_326, (q.1 0 13), (x2_18 + 1), (x3_19 + 2)) (show (TS q_326) ∧ (dFr [2] [6] q_12 q_326) ∧ ((q.1 0 13) = (q.1 0 13)) ∧ (0 ≤ Int32.toInt (x3_19 + 2)) ∧ (Int32.toInt (x3_19 + 2) ≤ 402) from ⟨hTq_326, (by rw [eq_326]; exact (((dFr.rf : dFr [2] [6] q_12 q_12).t a_21 (by decide) (by decide)) : dFr [2] [6] q_12 q_16).f (by decide)), rfl, by omega, by omega⟩) (show (402 - Int32.toInt (x3_19 + 2)).toNat < (402 - Int32.toInt x3_19).toNat by omega)
                    · unfold zX10_row_146
                      refine dOk_L (fun q_329 eq_329 => ?_)
                      try have t_330 : Int32.toInt (q_16.1 0 6 + 0) = Int32.toInt (q_16.1 0 6) + 0 := ti_add rfl (by decide) (by omega) (by omega)
                      have hTq_329 : TS q_329 := by rw [eq_329]; exact ts_f a_20 (ti_rg _).1 (ti_rg _).2
                      have hFq_329 : dFr [1, 2] [0, 6, 13, 32] q q_329 := by rw [eq_329]; exact hFq_16.f (by decide)
                      try have t_331 : Int32.toInt (x2_18 + 1) = Int32.toInt x2_18 + 1 := ti_add rfl (by decide) (by omega) (by omega)
                      exact hk_14 (q_329, (q.1 0 13), (x2_18 + 1), (x3_19 + 2)) (show (TS q_329) ∧ (dFr [2] [6] q_12 q_329) ∧ ((q.1 0 13) = (q.1 0 13)) ∧ (0 ≤ Int32.toInt (x3_19 + 2)) ∧ (Int32.toInt (x3_19 + 2) ≤ 402) from ⟨hTq_329, (by rw [eq_329]; exact (((dFr.rf : dFr [2] [6] q_12 q_12).t a_21 (by decide) (by decide)) : dFr [2] [6] q_12 q_16).f (by decide)), rfl, by omega, by omega⟩) (show (402 - Int32.toInt (x3_19 + 2)).toNat < (402 - Int32.toInt x3_19).toNat by omega)
                · refine dOk_G (dg_ok (show 0 ≤ Int32.toInt x3_19 by omega) (show Int32.toInt x3_19 < ((400 : Nat) : Int) by omega)) ?_
                  refine dOk_L (fun v_332 ev_332 => ?_)
                  have w_333 : Int32.toInt v_332 = Int32.toInt v_104 := by rw [ev_332, ev_104]
                  refine dOk_G (dg_ok (show 0 ≤ Int32.toInt (x3_19 + 1) by omega) (show Int32.toInt (x3_19 + 1) < ((400 : Nat) : Int) by omega)) ?_
                  refine dOk_L (fun v_334 ev_334 => ?_)
                  have w_335 : Int32.toInt v_334 = Int32.toInt v_173 := by rw [ev_334, ev_173]
                  refine dOk_V (ok_adds q_16 v_332 v_334 a_20 (show Int32.toInt (q_16.1 2 29) < 6 by omega) (show 0 ≤ Int32.toInt v_332 ∧ Int32.toInt v_332 ≤ 5 by omega) (show 0 ≤ Int32.toInt v_334 ∧ Int32.toInt v_334 ≤ 1 by omega)) (fun q_336 h_337 => ?_)
                  replace h_337 : (TS q_336) ∧ (dFr [2] [] q_16 q_336) ∧ (Int32.toInt (q_336.1 2 29) = Int32.toInt (q_16.1 2 29) + 1) := h_337
                  obtain ⟨i_338, i_339, i_340⟩ := h_337
                  have hFq_336 : dFr [1, 2] [0, 6, 13, 32] q q_336 := hFq_16.t i_339 (by decide) (by decide)
                  have f_341 : 0 ≤ Int32.toInt (q_336.1 2 29) ∧ Int32.toInt (q_336.1 2 29) ≤ 6 := i_338.1 2 29
                  unfold zX10_row_118
                  refine dOk_eq (A := 0) (B := 0) (by decide) (by decide) (fun c_342z c_342 => ?_) (fun c_343z c_343 => ?_)
                  · unfold zX10_row_129
                    refine dOk_eq (A := 0) (B := 0) (by decide) (by decide) (fun c_345z c_345 => ?_) (fun c_346z c_346 => ?_)
                    · unfold zX10_row_146
                      refine dOk_L (fun q_348 eq_348 => ?_)
                      have w_349 : Int32.toInt (q_336.1 0 6) = Int32.toInt (q_16.1 0 6) := by rw [i_339.2 6 (by decide)]
                      try have t_350 : Int32.toInt (q_336.1 0 6 + 1) = Int32.toInt (q_336.1 0 6) + 1 := ti_add rfl (by decide) (by omega) (by omega)
                      have hTq_348 : TS q_348 := by rw [eq_348]; exact ts_f i_338 (ti_rg _).1 (ti_rg _).2
                      have hFq_348 : dFr [1, 2] [0, 6, 13, 32] q q_348 := by rw [eq_348]; exact hFq_336.f (by decide)
                      try have t_351 : Int32.toInt (x2_18 + 0) = Int32.toInt x2_18 + 0 := ti_add rfl (by decide) (by omega) (by omega)
                      exact hk_14 (q_348, (q.1 0 13), (x2_18 + 0), (x3_19 + 2)) (show (TS q_348) ∧ (dFr [2] [6] q_12 q_348) ∧ ((q.1 0 13) = (q.1 0 13)) ∧ (0 ≤ Int32.toInt (x3_19 + 2)) ∧ (Int32.toInt (x3_19 + 2) ≤ 402) from ⟨hTq_348, (by rw [eq_348]; exact (((((dFr.rf : dFr [2] [6] q_12 q_12).t a_21 (by decide) (by decide)) : dFr [2] [6] q_12 q_16).t i_339 (by decide) (by decide)) : dFr [2] [6] q_12 q_336).f (by decide)), rfl, by omega, by omega⟩) (show (402 - Int32.toInt (x3_19 + 2)).toNat < (402 - Int32.toInt x3_19).toNat by omega)
                    · unfold zX10_row_146
                      refine dOk_L (fun q_352 eq_352 => ?_)
                      have w_353 : Int32.toInt (q_336.1 0 6) = Int32.toInt (q_16.1 0 6) := by rw [i_339.2 6 (by decide)]
                      try have t_354 : Int32.toInt (q_336.1 0 6 + 0) = Int32.toInt (q_336.1 0 6) + 0 := ti_add rfl (by decide) (by omega) (by omega)
                      have hTq_352 : TS q_352 := by rw [eq_352]; exact ts_f i_338 (ti_rg _).1 (ti_rg _).2
                      have hFq_352 : dFr [1, 2] [0, 6, 13, 32] q q_352 := by rw [eq_352]; exact hFq_336.f (by decide)
                      try have t_355 : Int32.toInt (x2_18 + 0) = Int32.toInt x2_18 + 0 := ti_add rfl (by decide) (by omega) (by omega)
                      exact hk_14 (q_352, (q.1 0 13), (x2_18 + 0), (x3_19 + 2)) (show (TS q_352) ∧ (dFr [2] [6] q_12 q_352) ∧ ((q.1 0 13) = (q.1 0 13)) ∧ (0 ≤ Int32.toInt (x3_19 + 2)) ∧ (Int32.toInt (x3_19 + 2) ≤ 402) from ⟨hTq_352, (by rw [eq_352]; exact (((((dFr.rf : dFr [2] [6] q_12 q_12).t a_21 (by decide) (by decide)) : dFr [2] [6] q_12 q_16).t i_339 (by decide) (by decide)) : dFr [2] [6] q_12 q_336).f (by decide)), rfl, by omega, by omega⟩) (show (402 - Int32.toInt (x3_19 + 2)).toNat < (402 - Int32.toInt x3_19).toNat by omega)
                  · unfold zX10_row_129
                    refine dOk_eq (A := 0) (B := 0) (by decide) (by decide) (fun c_356z c_356 => ?_) (fun c_357z c_357 => ?_)
                    · unfold zX10_row_146
                      refine dOk_L (fun q_359 eq_359 => ?_)
                      have w_360 : Int32.toInt (q_336.1 0 6) = Int32.toInt (q_16.1 0 6) := by rw [i_339.2 6 (by decide)]
                      try have t_361 : Int32.toInt (q_336.1 0 6 + 1) = Int32.toInt (q_336.1 0 6) + 1 := ti_add rfl (by decide) (by omega) (by omega)
                      have hTq_359 : TS q_359 := by rw [eq_359]; exact ts_f i_338 (ti_rg _).1 (ti_rg _).2
                      have hFq_359 : dFr [1, 2] [0, 6, 13, 32] q q_359 := by rw [eq_359]; exact hFq_336.f (by decide)
                      try have t_362 : Int32.toInt (x2_18 + 1) = Int32.toInt x2_18 + 1 := ti_add rfl (by decide) (by omega) (by omega)
                      exact hk_14 (q_359, (q.1 0 13), (x2_18 + 1), (x3_19 + 2)) (show (TS q_359) ∧ (dFr [2] [6] q_12 q_359) ∧ ((q.1 0 13) = (q.1 0 13)) ∧ (0 ≤ Int32.toInt (x3_19 + 2)) ∧ (Int32.toInt (x3_19 + 2) ≤ 402) from ⟨hTq_359, (by rw [eq_359]; exact (((((dFr.rf : dFr [2] [6] q_12 q_12).t a_21 (by decide) (by decide)) : dFr [2] [6] q_12 q_16).t i_339 (by decide) (by decide)) : dFr [2] [6] q_12 q_336).f (by decide)), rfl, by omega, by omega⟩) (show (402 - Int32.toInt (x3_19 + 2)).toNat < (402 - Int32.toInt x3_19).toNat by omega)
                    · unfold zX10_row_146
                      refine dOk_L (fun q_363 eq_363 => ?_)
                      have w_364 : Int32.toInt (q_336.1 0 6) = Int32.toInt (q_16.1 0 6) := by rw [i_339.2 6 (by decide)]
                      try have t_365 : Int32.toInt (q_336.1 0 6 + 0) = Int32.toInt (q_336.1 0 6) + 0 := ti_add rfl (by decide) (by omega) (by omega)
                      have hTq_363 : TS q_363 := by rw [eq_363]; exact ts_f i_338 (ti_rg _).1 (ti_rg _).2
                      have hFq_363 : dFr [1, 2] [0, 6, 13, 32] q q_363 := by rw [eq_363]; exact hFq_336.f (by decide)
                      try have t_366 : Int32.toInt (x2_18 + 1) = Int32.toInt x2_18 + 1 := ti_add rfl (by decide) (by omega) (by omega)
                      exact hk_14 (q_363, (q.1 0 13), (x2_18 + 1), (x3_19 + 2)) (show (TS q_363) ∧ (dFr [2] [6] q_12 q_363) ∧ ((q.1 0 13) = (q.1 0 13)) ∧ (0 ≤ Int32.toInt (x3_19 + 2)) ∧ (Int32.toInt (x3_19 + 2) ≤ 402) from ⟨hTq_363, (by rw [eq_363]; exact (((((dFr.rf : dFr [2] [6] q_12 q_12).t a_21 (by decide) (by decide)) : dFr [2] [6] q_12 q_16).t i_339 (by decide) (by decide)) : dFr [2] [6] q_12 q_336).f (by decide)), rfl, by omega, by omega⟩) (show (402 - Int32.toInt (x3_19 + 2)).toNat < (402 - Int32.toInt x3_19).toNat by omega)
    · exact (show (TS q_12) ∧ (dFr [2] [6] q_12 q_12) ∧ ((q.1 0 13) = (q.1 0 13)) ∧ (0 ≤ (0 : Int)) ∧ ((0 : Int) ≤ 402) from ⟨hTq_12, dFr.rf, rfl, by omega, by omega⟩)
    · show (402 - (0 : Int)).toNat < 1000000000000
      omega
