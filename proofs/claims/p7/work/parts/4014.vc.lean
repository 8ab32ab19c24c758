set_option maxHeartbeats 4000000 in
set_option maxRecDepth 100000 in
theorem ok_row (q : dS) (hT : TS q) : dOk (zX10_row q) (fun (o : Int32 × dS) => (TS o.2) ∧ (dFr [1, 2] [0, 6, 13, 32] q o.2) ∧ (Int32.toInt (o.2.1 0 13) = 0)) := by
  unfold zX10_row
  refine dOk_L (fun q_1 eq_1 => ?_)
  have hTq_1 : TS q_1 := by rw [eq_1]; exact ts_f hT (show 0 ≤ (0 : Int) by omega) (show (0 : Int) ≤ 400 by omega)
  have hFq_1 : dFr [1, 2] [0, 6, 13, 32] q q_1 := by rw [eq_1]; exact (dFr.rf (q := q)).f (by decide)
  have f_2 : 0 ≤ Int32.toInt (q.1 0 13) ∧ Int32.toInt (q.1 0 13) ≤ 400 := hT.1 0 13
  refine dOk_eq (A := Int32.toInt (q.1 0 13)) (B := 0) rfl (by decide) (fun c_3z c_3 => ?_) (fun c_4z c_4 => ?_)
  · refine dOk_B (ok_refuses q_1 (-6) hTq_1 (show (-6) ≤ (-6 : Int) by omega) (show (-6 : Int) ≤ 0 by omega)) (fun r_6 q_7 h_8 => ?_)
    replace h_8 : (TS q_7) ∧ (dFr [1] [0] q_1 q_7) ∧ (Int32.toInt r_6 = (-6 : Int)) := h_8
    obtain ⟨i_9, i_10, i_11⟩ := h_8
    have hFq_7 : dFr [1, 2] [0, 6, 13, 32] q q_7 := hFq_1.t i_10 (by decide) (by decide)
    have f_12 : 0 ≤ Int32.toInt (q_7.1 0 13) ∧ Int32.toInt (q_7.1 0 13) ≤ 400 := i_9.1 0 13
    have f_13 : 0 ≤ Int32.toInt (q_1.1 0 13) ∧ Int32.toInt (q_1.1 0 13) ≤ 400 := hTq_1.1 0 13
    have w_14 : Int32.toInt (q_1.1 0 13) = (0 : Int) := by rw [eq_1, dui_e]; decide
    have w_15 : Int32.toInt (q_7.1 0 13) = Int32.toInt (q_1.1 0 13) := by rw [i_10.2 13 (by decide)]
    exact dOk_some (show (TS q_7) ∧ (dFr [1, 2] [0, 6, 13, 32] q q_7) ∧ (Int32.toInt (q_7.1 0 13) = 0) from ⟨i_9, hFq_7, by omega⟩)
  · refine dOk_L (fun q_16 eq_16 => ?_)
    try have t_17 : Int32.toInt (q.1 0 13 - q.1 0 13 / 2 * 2) = Int32.toInt (q.1 0 13) % 2 := ti_rem rfl (by decide) (by omega) (by omega)
    have hTq_16 : TS q_16 := by rw [eq_16]; exact ts_f hTq_1 (ti_rg _).1 (ti_rg _).2
    have hFq_16 : dFr [1, 2] [0, 6, 13, 32] q q_16 := by rw [eq_16]; exact hFq_1.f (by decide)
    unfold zX10_row_32
    refine dFix_ok (fun (a : dS × Int32 × Int32 × Int32) => (TS a.1) ∧ (dFr [2] [6] q_16 a.1) ∧ (a.2.1 = (q.1 0 13)) ∧ (0 ≤ Int32.toInt a.2.2.2) ∧ (Int32.toInt a.2.2.2 ≤ 402)) (fun (a : dS × Int32 × Int32 × Int32) => (402 - Int32.toInt a.2.2.2).toNat) ?_ _ ?_ _ (dF_gt ?_)
    · intro a ha k_19 hk_18
      obtain ⟨q_20, x1_21, x2_22, x3_23⟩ := a
      replace ha : (TS q_20) ∧ (dFr [2] [6] q_16 q_20) ∧ (x1_21 = (q.1 0 13)) ∧ (0 ≤ Int32.toInt x3_23) ∧ (Int32.toInt x3_23 ≤ 402) := ha
      obtain ⟨a_24, a_25, a_26, a_27, a_28⟩ := ha
      show dOk (zX10_row_32b  (fun q x1 x2 x3 => k_19 (q, x1, x2, x3)) q_20 x1_21 x2_22 x3_23) _
      unfold zX10_row_32b
      have hFq_20 : dFr [1, 2] [0, 6, 13, 32] q q_20 := hFq_16.t a_25 (by decide) (by decide)
      subst x1_21
      try have t_29 : Int32.toInt (x3_23 + 2) = Int32.toInt x3_23 + 2 := ti_add rfl (by decide) (by omega) (by omega)
      refine dOk_lt (A := Int32.toInt (q.1 0 13)) (B := Int32.toInt (x3_23 + 2)) rfl rfl (fun c_30 => ?_) (fun c_31 => ?_)
      · refine dOk_B (ok_settled q_20 x2_22 a_24) (fun r_32 q_33 h_34 => ?_)
        replace h_34 : (TS q_33) ∧ (dFr [] [0, 32] q_20 q_33) ∧ (Int32.toInt r_32 = Int32.toInt x2_22) := h_34
        obtain ⟨i_35, i_36, i_37⟩ := h_34
        have hFq_33 : dFr [1, 2] [0, 6, 13, 32] q q_33 := hFq_20.t i_36 (by decide) (by decide)
        have f_38 : 0 ≤ Int32.toInt (q_33.1 0 13) ∧ Int32.toInt (q_33.1 0 13) ≤ 400 := i_35.1 0 13
        have f_39 : 0 ≤ Int32.toInt (q_20.1 0 13) ∧ Int32.toInt (q_20.1 0 13) ≤ 400 := a_24.1 0 13
        have f_40 : 0 ≤ Int32.toInt (q_16.1 0 13) ∧ Int32.toInt (q_16.1 0 13) ≤ 400 := hTq_16.1 0 13
        have f_41 : 0 ≤ Int32.toInt (q_1.1 0 13) ∧ Int32.toInt (q_1.1 0 13) ≤ 400 := hTq_1.1 0 13
        have w_42 : Int32.toInt (q_1.1 0 13) = (0 : Int) := by rw [eq_1, dui_e]; decide
        have w_43 : Int32.toInt (q_16.1 0 13) = Int32.toInt (q_1.1 0 13) := by rw [eq_16, dui_n (by decide)]
        have w_44 : Int32.toInt (q_20.1 0 13) = Int32.toInt (q_16.1 0 13) := by rw [a_25.2 13 (by decide)]
        have w_45 : Int32.toInt (q_33.1 0 13) = Int32.toInt (q_20.1 0 13) := by rw [i_36.2 13 (by decide)]
        exact dOk_some (show (TS q_33) ∧ (dFr [1, 2] [0, 6, 13, 32] q q_33) ∧ (Int32.toInt (q_33.1 0 13) = 0) from ⟨i_35, hFq_33, by omega⟩)
      · refine dOk_B (ok_size q_20 a_24) (fun r_46 q_47 h_48 => ?_)
        replace h_48 : (q_47 = q_20) ∧ (Int32.toInt r_46 = Int32.toInt (q_20.1 2 29)) ∧ (0 ≤ Int32.toInt r_46 ∧ Int32.toInt r_46 ≤ 6) := h_48
        obtain ⟨i_49, i_50, i_51⟩ := h_48
        subst q_47
        have f_52 : 0 ≤ Int32.toInt (q_20.1 2 29) ∧ Int32.toInt (q_20.1 2 29) ≤ 6 := a_24.1 2 29
        refine dOk_le (A := 6) (B := Int32.toInt r_46) (by decide) rfl (fun c_53 => ?_) (fun c_54 => ?_)
        · unfold zX10_row_92
          unfold zX10_row_93
          refine dOk_eq (A := 0) (B := 0) (by decide) (by decide) (fun c_55z c_55 => ?_) (fun c_56z c_56 => ?_)
          · unfold zX10_row_118
            refine dOk_eq (A := 0) (B := 0) (by decide) (by decide) (fun c_58z c_58 => ?_) (fun c_59z c_59 => ?_)
            · unfold zX10_row_129
              refine dOk_eq (A := 0) (B := 0) (by decide) (by decide) (fun c_61z c_61 => ?_) (fun c_62z c_62 => ?_)
              · unfold zX10_row_146
                refine dOk_L (fun q_64 eq_64 => ?_)
                try have t_65 : Int32.toInt (q_20.1 0 6 + 1) = Int32.toInt (q_20.1 0 6) + 1 := ti_add rfl (by decide) (by omega) (by omega)
                have hTq_64 : TS q_64 := by rw [eq_64]; exact ts_f a_24 (ti_rg _).1 (ti_rg _).2
                have hFq_64 : dFr [1, 2] [0, 6, 13, 32] q q_64 := by rw [eq_64]; exact hFq_20.f (by decide)
                try have t_66 : Int32.toInt (x2_22 + 0) = Int32.toInt x2_22 + 0 := ti_add rfl (by decide) (by omega) (by omega)
                exact hk_18 (q_64, (q.1 0 13), (x2_22 + 0), (x3_23 + 2)) (show (TS q_64) ∧ (dFr [2] [6] q_16 q_64) ∧ ((q.1 0 13) = (q.1 0 13)) ∧ (0 ≤ Int32.toInt (x3_23 + 2)) ∧ (Int32.toInt (x3_23 + 2) ≤ 402) from ⟨hTq_64, (by rw [eq_64]; exact (((dFr.rf : dFr [2] [6] q_16 q_16).t a_25 (by decide) (by decide)) : dFr [2] [6] q_16 q_20).f (by decide)), rfl, by omega, by omega⟩) (show (402 - Int32.toInt (x3_23 + 2)).toNat < (402 - Int32.toInt x3_23).toNat by omega)
              · unfold zX10_row_146
                refine dOk_L (fun q_67 eq_67 => ?_)
                try have t_68 : Int32.toInt (q_20.1 0 6 + 0) = Int32.toInt (q_20.1 0 6) + 0 := ti_add rfl (by decide) (by omega) (by omega)
                have hTq_67 : TS q_67 := by rw [eq_67]; exact ts_f a_24 (ti_rg _).1 (ti_rg _).2
                have hFq_67 : dFr [1, 2] [0, 6, 13, 32] q q_67 := by rw [eq_67]; exact hFq_20.f (by decide)
                try have t_69 : Int32.toInt (x2_22 + 0) = Int32.toInt x2_22 + 0 := ti_add rfl (by decide) (by omega) (by omega)
                exact hk_18 (q_67, (q.1 0 13), (x2_22 + 0), (x3_23 + 2)) (show (TS q_67) ∧ (dFr [2] [6] q_16 q_67) ∧ ((q.1 0 13) = (q.1 0 13)) ∧ (0 ≤ Int32.toInt (x3_23 + 2)) ∧ (Int32.toInt (x3_23 + 2) ≤ 402) from ⟨hTq_67, (by rw [eq_67]; exact (((dFr.rf : dFr [2] [6] q_16 q_16).t a_25 (by decide) (by decide)) : dFr [2] [6] q_16 q_20).f (by decide)), rfl, by omega, by omega⟩) (show (402 - Int32.toInt (x3_23 + 2)).toNat < (402 - Int32.toInt x3_23).toNat by omega)
            · unfold zX10_row_129
              refine dOk_eq (A := 0) (B := 0) (by decide) (by decide) (fun c_70z c_70 => ?_) (fun c_71z c_71 => ?_)
              · unfold zX10_row_146
                refine dOk_L (fun q_73 eq_73 => ?_)
                try have t_74 : Int32.toInt (q_20.1 0 6 + 1) = Int32.toInt (q_20.1 0 6) + 1 := ti_add rfl (by decide) (by omega) (by omega)
                have hTq_73 : TS q_73 := by rw [eq_73]; exact ts_f a_24 (ti_rg _).1 (ti_rg _).2
                have hFq_73 : dFr [1, 2] [0, 6, 13, 32] q q_73 := by rw [eq_73]; exact hFq_20.f (by decide)
                try have t_75 : Int32.toInt (x2_22 + 1) = Int32.toInt x2_22 + 1 := ti_add rfl (by decide) (by omega) (by omega)
                exact hk_18 (q_73, (q.1 0 13), (x2_22 + 1), (x3_23 + 2)) (show (TS q_73) ∧ (dFr [2] [6] q_16 q_73) ∧ ((q.1 0 13) = (q.1 0 13)) ∧ (0 ≤ Int32.toInt (x3_23 + 2)) ∧ (Int32.toInt (x3_23 + 2) ≤ 402) from ⟨hTq_73, (by rw [eq_73]; exact (((dFr.rf : dFr [2] [6] q_16 q_16).t a_25 (by decide) (by decide)) : dFr [2] [6] q_16 q_20).f (by decide)), rfl, by omega, by omega⟩) (show (402 - Int32.toInt (x3_23 + 2)).toNat < (402 - Int32.toInt x3_23).toNat by omega)
              · unfold zX10_row_146
                refine dOk_L (fun q_76 eq_76 => ?_)
                try have t_77 : Int32.toInt (q_20.1 0 6 + 0) = Int32.toInt (q_20.1 0 6) + 0 := ti_add rfl (by decide) (by omega) (by omega)
                have hTq_76 : TS q_76 := by rw [eq_76]; exact ts_f a_24 (ti_rg _).1 (ti_rg _).2
                have hFq_76 : dFr [1, 2] [0, 6, 13, 32] q q_76 := by rw [eq_76]; exact hFq_20.f (by decide)
                try have t_78 : Int32.toInt (x2_22 + 1) = Int32.toInt x2_22 + 1 := ti_add rfl (by decide) (by omega) (by omega)
                exact hk_18 (q_76, (q.1 0 13), (x2_22 + 1), (x3_23 + 2)) (show (TS q_76) ∧ (dFr [2] [6] q_16 q_76) ∧ ((q.1 0 13) = (q.1 0 13)) ∧ (0 ≤ Int32.toInt (x3_23 + 2)) ∧ (Int32.toInt (x3_23 + 2) ≤ 402) from ⟨hTq_76, (by rw [eq_76]; exact (((dFr.rf : dFr [2] [6] q_16 q_16).t a_25 (by decide) (by decide)) : dFr [2] [6] q_16 q_20).f (by decide)), rfl, by omega, by omega⟩) (show (402 - Int32.toInt (x3_23 + 2)).toNat < (402 - Int32.toInt x3_23).toNat by omega)
          · refine dOk_G (dg_ok (show 0 ≤ Int32.toInt x3_23 by omega) (show Int32.toInt x3_23 < ((400 : Nat) : Int) by omega)) ?_
            have n_79 : ((Int32.toNatClampNeg x3_23 : Nat) : Int) = Int32.toInt x3_23 := cl_eq (by omega)
            refine dOk_L (fun v_80 ev_80 => ?_)
            try have t_81 : Int32.toInt (x3_23 + 1) = Int32.toInt x3_23 + 1 := ti_add rfl (by decide) (by omega) (by omega)
            refine dOk_G (dg_ok (show 0 ≤ Int32.toInt (x3_23 + 1) by omega) (show Int32.toInt (x3_23 + 1) < ((400 : Nat) : Int) by omega)) ?_
            have n_82 : ((Int32.toNatClampNeg (x3_23 + 1) : Nat) : Int) = Int32.toInt (x3_23 + 1) := cl_eq (by omega)
            refine dOk_L (fun v_83 ev_83 => ?_)
            refine dOk_V (ok_adds q_20 v_80 v_83 a_24 (show Int32.toInt (q_20.1 2 29) < 6 by omega) (show 0 ≤ Int32.toInt v_80 ∧ Int32.toInt v_80 ≤ 5 by omega) (show 0 ≤ Int32.toInt v_83 ∧ Int32.toInt v_83 ≤ 1 by omega)) (fun q_84 h_85 => ?_)
            replace h_85 : (TS q_84) ∧ (dFr [2] [] q_20 q_84) ∧ (Int32.toInt (q_84.1 2 29) = Int32.toInt (q_20.1 2 29) + 1) := h_85
            obtain ⟨i_86, i_87, i_88⟩ := h_85
            have hFq_84 : dFr [1, 2] [0, 6, 13, 32] q q_84 := hFq_20.t i_87 (by decide) (by decide)
            have f_89 : 0 ≤ Int32.toInt (q_84.1 2 29) ∧ Int32.toInt (q_84.1 2 29) ≤ 6 := i_86.1 2 29
            unfold zX10_row_118
            refine dOk_eq (A := 0) (B := 0) (by decide) (by decide) (fun c_90z c_90 => ?_) (fun c_91z c_91 => ?_)
            · unfold zX10_row_129
              refine dOk_eq (A := 0) (B := 0) (by decide) (by decide) (fun c_93z c_93 => ?_) (fun c_94z c_94 => ?_)
              · unfold zX10_row_146
                refine dOk_L (fun q_96 eq_96 => ?_)
                have w_97 : Int32.toInt (q_84.1 0 6) = Int32.toInt (q_20.1 0 6) := by rw [i_87.2 6 (by decide)]
                try have t_98 : Int32.toInt (q_84.1 0 6 + 1) = Int32.toInt (q_84.1 0 6) + 1 := ti_add rfl (by decide) (by omega) (by omega)
                have hTq_96 : TS q_96 := by rw [eq_96]; exact ts_f i_86 (ti_rg _).1 (ti_rg _).2
                have hFq_96 : dFr [1, 2] [0, 6, 13, 32] q q_96 := by rw [eq_96]; exact hFq_84.f (by decide)
                try have t_99 : Int32.toInt (x2_22 + 0) = Int32.toInt x2_22 + 0 := ti_add rfl (by decide) (by omega) (by omega)
                exact hk_18 (q_96, (q.1 0 13), (x2_22 + 0), (x3_23 + 2)) (show (TS q_96) ∧ (dFr [2] [6] q_16 q_96) ∧ ((q.1 0 13) = (q.1 0 13)) ∧ (0 ≤ Int32.toInt (x3_23 + 2)) ∧ (Int32.toInt (x3_23 + 2) ≤ 402) from ⟨hTq_96, (by rw [eq_96]; exact (((((dFr.rf : dFr [2] [6] q_16 q_16).t a_25 (by decide) (by decide)) : dFr [2] [6] q_16 q_20).t i_87 (by decide) (by decide)) : dFr [2] [6] q_16 q_84).f (by decide)), rfl, by omega, by omega⟩) (show (402 - Int32.toInt (x3_23 + 2)).toNat < (402 - Int32.toInt x3_23).toNat by omega)
              · unfold zX10_row_146
                refine dOk_L (fun q_100 eq_100 => ?_)
                have w_101 : Int32.toInt (q_84.1 0 6) = Int32.toInt (q_20.1 0 6) := by rw [i_87.2 6 (by decide)]
                try have t_102 : Int32.toInt (q_84.1 0 6 + 0) = Int32.toInt (q_84.1 0 6) + 0 := ti_add rfl (by decide) (by omega) (by omega)
                have hTq_100 : TS q_100 := by rw [eq_100]; exact ts_f i_86 (ti_rg _).1 (ti_rg _).2
                have hFq_100 : dFr [1, 2] [0, 6, 13, 32] q q_100 := by rw [eq_100]; exact hFq_84.f (by decide)
                try have t_103 : Int32.toInt (x2_22 + 0) = Int32.toInt x2_22 + 0 := ti_add rfl (by decide) (by omega) (by omega)
                exact hk_18 (q_100, (q.1 0 13), (x2_22 + 0), (x3_23 + 2)) (show (TS q_100) ∧ (dFr [2] [6] q_16 q_100) ∧ ((q.1 0 13) = (q.1 0 13)) ∧ (0 ≤ Int32.toInt (x3_23 + 2)) ∧ (Int32.toInt (x3_23 + 2) ≤ 402) from ⟨hTq_100, (by rw [eq_100]; exact (((((dFr.rf : dFr [2] [6] q_16 q_16).t a_25 (by decide) (by decide)) : dFr [2] [6] q_16 q_20).t i_87 (by decide) (by decide)) : dFr [2] [6] q_16 q_84).f (by decide)), rfl, by omega, by omega⟩) (show (402 - Int32.toInt (x3_23 + 2)).toNat < (402 - Int32.toInt x3_23).toNat by omega)
            · unfold zX10_row_129
              refine dOk_eq (A := 0) (B := 0) (by decide) (by decide) (fun c_104z c_104 => ?_) (fun c_105z c_105 => ?_)
              · unfold zX10_row_146
                refine dOk_L (fun q_107 eq_107 => ?_)
                have w_108 : Int32.toInt (q_84.1 0 6) = Int32.toInt (q_20.1 0 6) := by rw [i_87.2 6 (by decide)]
                try have t_109 : Int32.toInt (q_84.1 0 6 + 1) = Int32.toInt (q_84.1 0 6) + 1 := ti_add rfl (by decide) (by omega) (by omega)
                have hTq_107 : TS q_107 := by rw [eq_107]; exact ts_f i_86 (ti_rg _).1 (ti_rg _).2
                have hFq_107 : dFr [1, 2] [0, 6, 13, 32] q q_107 := by rw [eq_107]; exact hFq_84.f (by decide)
                try have t_110 : Int32.toInt (x2_22 + 1) = Int32.toInt x2_22 + 1 := ti_add rfl (by decide) (by omega) (by omega)
                exact hk_18 (q_107, (q.1 0 13), (x2_22 + 1), (x3_23 + 2)) (show (TS q_107) ∧ (dFr [2] [6] q_16 q_107) ∧ ((q.1 0 13) = (q.1 0 13)) ∧ (0 ≤ Int32.toInt (x3_23 + 2)) ∧ (Int32.toInt (x3_23 + 2) ≤ 402) from ⟨hTq_107, (by rw [eq_107]; exact (((((dFr.rf : dFr [2] [6] q_16 q_16).t a_25 (by decide) (by decide)) : dFr [2] [6] q_16 q_20).t i_87 (by decide) (by decide)) : dFr [2] [6] q_16 q_84).f (by decide)), rfl, by omega, by omega⟩) (show (402 - Int32.toInt (x3_23 + 2)).toNat < (402 - Int32.toInt x3_23).toNat by omega)
              · unfold zX10_row_146
                refine dOk_L (fun q_111 eq_111 => ?_)
                have w_112 : Int32.toInt (q_84.1 0 6) = Int32.toInt (q_20.1 0 6) := by rw [i_87.2 6 (by decide)]
                try have t_113 : Int32.toInt (q_84.1 0 6 + 0) = Int32.toInt (q_84.1 0 6) + 0 := ti_add rfl (by decide) (by omega) (by omega)
                have hTq_111 : TS q_111 := by rw [eq_111]; exact ts_f i_86 (ti_rg _).1 (ti_rg _).2
                have hFq_111 : dFr [1, 2] [0, 6, 13, 32] q q_111 := by rw [eq_111]; exact hFq_84.f (by decide)
                try have t_114 : Int32.toInt (x2_22 + 1) = Int32.toInt x2_22 + 1 := ti_add rfl (by decide) (by omega) (by omega)
                exact hk_18 (q_111, (q.1 0 13), (x2_22 + 1), (x3_23 + 2)) (show (TS q_111) ∧ (dFr [2] [6] q_16 q_111) ∧ ((q.1 0 13) = (q.1 0 13)) ∧ (0 ≤ Int32.toInt (x3_23 + 2)) ∧ (Int32.toInt (x3_23 + 2) ≤ 402) from ⟨hTq_111, (by rw [eq_111]; exact (((((dFr.rf : dFr [2] [6] q_16 q_16).t a_25 (by decide) (by decide)) : dFr [2] [6] q_16 q_20).t i_87 (by decide) (by decide)) : dFr [2] [6] q_16 q_84).f (by decide)), rfl, by omega, by omega⟩) (show (402 - Int32.toInt (x3_23 + 2)).toNat < (402 - Int32.toInt x3_23).toNat by omega)
        · refine dOk_G (dg_ok (show 0 ≤ Int32.toInt x3_23 by omega) (show Int32.toInt x3_23 < ((400 : Nat) : Int) by omega)) ?_
          have n_115 : ((Int32.toNatClampNeg x3_23 : Nat) : Int) = Int32.toInt x3_23 := cl_eq (by omega)
          refine dOk_L (fun v_116 ev_116 => ?_)
          refine dOk_V (ok_isRank v_116) (fun r_117 h_118 => ?_)
          replace h_118 : ((Int32.toInt r_117 = 1 ∧ 0 ≤ Int32.toInt v_116 ∧ Int32.toInt v_116 ≤ 5) ∨ (Int32.toInt r_117 = 0 ∧ (Int32.toInt v_116 < 0 ∨ 5 < Int32.toInt v_116))) := h_118
          have i_119 := h_118
          refine dOk_eq (A := Int32.toInt r_117) (B := 0) rfl (by decide) (fun c_120z c_120 => ?_) (fun c_121z c_121 => ?_)
          · unfold zX10_row_92
            unfold zX10_row_93
            refine dOk_eq (A := 0) (B := 0) (by decide) (by decide) (fun c_123z c_123 => ?_) (fun c_124z c_124 => ?_)
            · unfold zX10_row_118
              refine dOk_eq (A := 0) (B := 0) (by decide) (by decide) (fun c_126z c_126 => ?_) (fun c_127z c_127 => ?_)
              · unfold zX10_row_129
                refine dOk_eq (A := 0) (B := 0) (by decide) (by decide) (fun c_129z c_129 => ?_) (fun c_130z c_130 => ?_)
                · unfold zX10_row_146
                  refine dOk_L (fun q_132 eq_132 => ?_)
                  try have t_133 : Int32.toInt (q_20.1 0 6 + 1) = Int32.toInt (q_20.1 0 6) + 1 := ti_add rfl (by decide) (by omega) (by omega)
                  have hTq_132 : TS q_132 := by rw [eq_132]; exact ts_f a_24 (ti_rg _).1 (ti_rg _).2
                  have hFq_132 : dFr [1, 2] [0, 6, 13, 32] q q_132 := by rw [eq_132]; exact hFq_20.f (by decide)
                  try have t_134 : Int32.toInt (x2_22 + 0) = Int32.toInt x2_22 + 0 := ti_add rfl (by decide) (by omega) (by omega)
                  exact hk_18 (q_132, (q.1 0 13), (x2_22 + 0), (x3_23 + 2)) (show (TS q_132) ∧ (dFr [2] [6] q_16 q_132) ∧ ((q.1 0 13) = (q.1 0 13)) ∧ (0 ≤ Int32.toInt (x3_23 + 2)) ∧ (Int32.toInt (x3_23 + 2) ≤ 402) from ⟨hTq_132, (by rw [eq_132]; exact (((dFr.rf : dFr [2] [6] q_16 q_16).t a_25 (by decide) (by decide)) : dFr [2] [6] q_16 q_20).f (by decide)), rfl, by omega, by omega⟩) (show (402 - Int32.toInt (x3_23 + 2)).toNat < (402 - Int32.toInt x3_23).toNat by omega)
                · unfold zX10_row_146
                  refine dOk_L (fun q_135 eq_135 => ?_)
                  try have t_136 : Int32.toInt (q_20.1 0 6 + 0) = Int32.toInt (q_20.1 0 6) + 0 := ti_add rfl (by decide) (by omega) (by omega)
                  have hTq_135 : TS q_135 := by rw [eq_135]; exact ts_f a_24 (ti_rg _).1 (ti_rg _).2
                  have hFq_135 : dFr [1, 2] [0, 6, 13, 32] q q_135 := by rw [eq_135]; exact hFq_20.f (by decide)
                  try have t_137 : Int32.toInt (x2_22 + 0) = Int32.toInt x2_22 + 0 := ti_add rfl (by decide) (by omega) (by omega)
                  exact hk_18 (q_135, (q.1 0 13), (x2_22 + 0), (x3_23 + 2)) (show (TS q_135) ∧ (dFr [2] [6] q_16 q_135) ∧ ((q.1 0 13) = (q.1 0 13)) ∧ (0 ≤ Int32.toInt (x3_23 + 2)) ∧ (Int32.toInt (x3_23 + 2) ≤ 402) from ⟨hTq_135, (by rw [eq_135]; exact (((dFr.rf : dFr [2] [6] q_16 q_16).t a_25 (by decide) (by decide)) : dFr [2] [6] q_16 q_20).f (by decide)), rfl, by omega, by omega⟩) (show (402 - Int32.toInt (x3_23 + 2)).toNat < (402 - Int32.toInt x3_23).toNat by omega)
              · unfold zX10_row_129
                refine dOk_eq (A := 0) (B := 0) (by decide) (by decide) (fun c_138z c_138 => ?_) (fun c_139z c_139 => ?_)
                · unfold zX10_row_146
                  refine dOk_L (fun q_141 eq_141 => ?_)
                  try have t_142 : Int32.toInt (q_20.1 0 6 + 1) = Int32.toInt (q_20.1 0 6) + 1 := ti_add rfl (by decide) (by omega) (by omega)
                  have hTq_141 : TS q_141 := by rw [eq_141]; exact ts_f a_24 (ti_rg _).1 (ti_rg _).2
                  have hFq_141 : dFr [1, 2] [0, 6, 13, 32] q q_141 := by rw [eq_141]; exact hFq_20.f (by decide)
                  try have t_143 : Int32.toInt (x2_22 + 1) = Int32.toInt x2_22 + 1 := ti_add rfl (by decide) (by omega) (by omega)
                  exact hk_18 (q_141, (q.1 0 13), (x2_22 + 1), (x3_23 + 2)) (show (TS q_141) ∧ (dFr [2] [6] q_16 q_141) ∧ ((q.1 0 13) = (q.1 0 13)) ∧ (0 ≤ Int32.toInt (x3_23 + 2)) ∧ (Int32.toInt (x3_23 + 2) ≤ 402) from ⟨hTq_141, (by rw [eq_141]; exact (((dFr.rf : dFr [2] [6] q_16 q_16).t a_25 (by decide) (by decide)) : dFr [2] [6] q_16 q_20).f (by decide)), rfl, by omega, by omega⟩) (show (402 - Int32.toInt (x3_23 + 2)).toNat < (402 - Int32.toInt x3_23).toNat by omega)
                · unfold zX10_row_146
                  refine dOk_L (fun q_144 eq_144 => ?_)
                  try have t_145 : Int32.toInt (q_20.1 0 6 + 0) = Int32.toInt (q_20.1 0 6) + 0 := ti_add rfl (by decide) (by omega) (by omega)
                  have hTq_144 : TS q_144 := by rw [eq_144]; exact ts_f a_24 (ti_rg _).1 (ti_rg _).2
                  have hFq_144 : dFr [1, 2] [0, 6, 13, 32] q q_144 := by rw [eq_144]; exact hFq_20.f (by decide)
                  try have t_146 : Int32.toInt (x2_22 + 1) = Int32.toInt x2_22 + 1 := ti_add rfl (by decide) (by omega) (by omega)
                  exact hk_18 (q_144, (q.1 0 13), (x2_22 + 1), (x3_23 + 2)) (show (TS q_144) ∧ (dFr [2] [6] q_16 q_144) ∧ ((q.1 0 13) = (q.1 0 13)) ∧ (0 ≤ Int32.toInt (x3_23 + 2)) ∧ (Int32.toInt (x3_23 + 2) ≤ 402) from ⟨hTq_144, (by rw [eq_144]; exact (((dFr.rf : dFr [2] [6] q_16 q_16).t a_25 (by decide) (by decide)) : dFr [2] [6] q_16 q_20).f (by decide)), rfl, by omega, by omega⟩) (show (402 - Int32.toInt (x3_23 + 2)).toNat < (402 - Int32.toInt x3_23).toNat by omega)
            · refine dOk_G (dg_ok (show 0 ≤ Int32.toInt x3_23 by omega) (show Int32.toInt x3_23 < ((400 : Nat) : Int) by omega)) ?_
              refine dOk_L (fun v_147 ev_147 => ?_)
              have w_148 : Int32.toInt v_147 = Int32.toInt v_116 := by rw [ev_147, ev_116]
              try have t_149 : Int32.toInt (x3_23 + 1) = Int32.toInt x3_23 + 1 := ti_add rfl (by decide) (by omega) (by omega)
              refine dOk_G (dg_ok (show 0 ≤ Int32.toInt (x3_23 + 1) by omega) (show Int32.toInt (x3_23 + 1) < ((400 : Nat) : Int) by omega)) ?_
              have n_150 : ((Int32.toNatClampNeg (x3_23 + 1) : Nat) : Int) = Int32.toInt (x3_23 + 1) := cl_eq (by omega)
              refine dOk_L (fun v_151 ev_151 => ?_)
              refine dOk_V (ok_adds q_20 v_147 v_151 a_24 (show Int32.toInt (q_20.1 2 29) < 6 by omega) (show 0 ≤ Int32.toInt v_147 ∧ Int32.toInt v_147 ≤ 5 by omega) (show 0 ≤ Int32.toInt v_151 ∧ Int32.toInt v_151 ≤ 1 by omega)) (fun q_152 h_153 => ?_)
              replace h_153 : (TS q_152) ∧ (dFr [2] [] q_20 q_152) ∧ (Int32.toInt (q_152.1 2 29) = Int32.toInt (q_20.1 2 29) + 1) := h_153
              obtain ⟨i_154, i_155, i_156⟩ := h_153
              have hFq_152 : dFr [1, 2] [0, 6, 13, 32] q q_152 := hFq_20.t i_155 (by decide) (by decide)
              have f_157 : 0 ≤ Int32.toInt (q_152.1 2 29) ∧ Int32.toInt (q_152.1 2 29) ≤ 6 := i_154.1 2 29
              unfold zX10_row_118
              refine dOk_eq (A := 0) (B := 0) (by decide) (by decide) (fun c_158z c_158 => ?_) (fun c_159z c_159 => ?_)
              · unfold zX10_row_129
                refine dOk_eq (A := 0) (B := 0) (by decide) (by decide) (fun c_161z c_161 => ?_) (fun c_162z c_162 => ?_)
                · unfold zX10_row_146
                  refine dOk_L (fun q_164 eq_164 => ?_)
                  have w_165 : Int32.toInt (q_152.1 0 6) = Int32.toInt (q_20.1 0 6) := by rw [i_155.2 6 (by decide)]
                  try have t_166 : Int32.toInt (q_152.1 0 6 + 1) = Int32.toInt (q_152.1 0 6) + 1 := ti_add rfl (by decide) (by omega) (by omega)
                  have hTq_164 : TS q_164 := by rw [eq_164]; exact ts_f i_154 (ti_rg _).1 (ti_rg _).2
                  have hFq_164 : dFr [1, 2] [0, 6, 13, 32] q q_164 := by rw [eq_164]; exact hFq_152.f (by decide)
                  try have t_167 : Int32.toInt (x2_22 + 0) = Int32.toInt x2_22 + 0 := ti_add rfl (by decide) (by omega) (by omega)
                  exact hk_18 (q_164, (q.1 0 13), (x2_22 + 0), (x3_23 + 2)) (show (TS q_164) ∧ (dFr [2] [6] q_16 q_164) ∧ ((q.1 0 13) = (q.1 0 13)) ∧ (0 ≤ Int32.toInt (x3_23 + 2)) ∧ (Int32.toInt (x3_23 + 2) ≤ 402) from ⟨hTq_164, (by rw [eq_164]; exact (((((dFr.rf : dFr [2] [6] q_16 q_16).t a_25 (by decide) (by decide)) : dFr [2] [6] q_16 q_20).t i_155 (by decide) (by decide)) : dFr [2] [6] q_16 q_152).f (by decide)), rfl, by omega, by omega⟩) (show (402 - Int32.toInt (x3_23 + 2)).toNat < (402 - Int32.toInt x3_23).toNat by omega)
                · unfold zX10_row_146
                  refine dOk_L (fun q_168 eq_168 => ?_)
                  have w_169 : Int32.toInt (q_152.1 0 6) = Int32.toInt (q_20.1 0 6) := by rw [i_155.2 6 (by decide)]
                  try have t_170 : Int32.toInt (q_152.1 0 6 + 0) = Int32.toInt (q_152.1 0 6) + 0 := ti_add rfl (by decide) (by omega) (by omega)
                  have hTq_168 : TS q_168 := by rw [eq_168]; exact ts_f i_154 (ti_rg _).1 (ti_rg _).2
                  have hFq_168 : dFr [1, 2] [0, 6, 13, 32] q q_168 := by rw [eq_168]; exact hFq_152.f (by decide)
                  try have t_171 : Int32.toInt (x2_22 + 0) = Int32.toInt x2_22 + 0 := ti_add rfl (by decide) (by omega) (by omega)
                  exact hk_18 (q_168, (q.1 0 13), (x2_22 + 0), (x3_23 + 2)) (show (TS q_168) ∧ (dFr [2] [6] q_16 q_168) ∧ ((q.1 0 13) = (q.1 0 13)) ∧ (0 ≤ Int32.toInt (x3_23 + 2)) ∧ (Int32.toInt (x3_23 + 2) ≤ 402) from ⟨hTq_168, (by rw [eq_168]; exact (((((dFr.rf : dFr [2] [6] q_16 q_16).t a_25 (by decide) (by decide)) : dFr [2] [6] q_16 q_20).t i_155 (by decide) (by decide)) : dFr [2] [6] q_16 q_152).f (by decide)), rfl, by omega, by omega⟩) (show (402 - Int32.toInt (x3_23 + 2)).toNat < (402 - Int32.toInt x3_23).toNat by omega)
              · unfold zX10_row_129
                refine dOk_eq (A := 0) (B := 0) (by decide) (by decide) (fun c_172z c_172 => ?_) (fun c_173z c_173 => ?_)
                · unfold zX10_row_146
                  refine dOk_L (fun q_175 eq_175 => ?_)
                  have w_176 : Int32.toInt (q_152.1 0 6) = Int32.toInt (q_20.1 0 6) := by rw [i_155.2 6 (by decide)]
                  try have t_177 : Int32.toInt (q_152.1 0 6 + 1) = Int32.toInt (q_152.1 0 6) + 1 := ti_add rfl (by decide) (by omega) (by omega)
                  have hTq_175 : TS q_175 := by rw [eq_175]; exact ts_f i_154 (ti_rg _).1 (ti_rg _).2
                  have hFq_175 : dFr [1, 2] [0, 6, 13, 32] q q_175 := by rw [eq_175]; exact hFq_152.f (by decide)
                  try have t_178 : Int32.toInt (x2_22 + 1) = Int32.toInt x2_22 + 1 := ti_add rfl (by decide) (by omega) (by omega)
                  exact hk_18 (q_175, (q.1 0 13), (x2_22 + 1), (x3_23 + 2)) (show (TS q_175) ∧ (dFr [2] [6] q_16 q_175) ∧ ((q.1 0 13) = (q.1 0 13)) ∧ (0 ≤ Int32.toInt (x3_23 + 2)) ∧ (Int32.toInt (x3_23 + 2) ≤ 402) from ⟨hTq_175, (by rw [eq_175]; exact (((((dFr.rf : dFr [2] [6] q_16 q_16).t a_25 (by decide) (by decide)) : dFr [2] [6] q_16 q_20).t i_155 (by decide) (by decide)) : dFr [2] [6] q_16 q_152).f (by decide)), rfl, by omega, by omega⟩) (show (402 - Int32.toInt (x3_23 + 2)).toNat < (402 - Int32.toInt x3_23).toNat by omega)
                · unfold zX10_row_146
                  refine dOk_L (fun q_179 eq_179 => ?_)
                  have w_180 : Int32.toInt (q_152.1 0 6) = Int32.toInt (q_20.1 0 6) := by rw [i_155.2 6 (by decide)]
                  try have t_181 : Int32.toInt (q_152.1 0 6 + 0) = Int32.toInt (q_152.1 0 6) + 0 := ti_add rfl (by decide) (by omega) (by omega)
                  have hTq_179 : TS q_179 := by rw [eq_179]; exact ts_f i_154 (ti_rg _).1 (ti_rg _).2
                  have hFq_179 : dFr [1, 2] [0, 6, 13, 32] q q_179 := by rw [eq_179]; exact hFq_152.f (by decide)
                  try have t_182 : Int32.toInt (x2_22 + 1) = Int32.toInt x2_22 + 1 := ti_add rfl (by decide) (by omega) (by omega)
                  exact hk_18 (q_179, (q.1 0 13), (x2_22 + 1), (x3_23 + 2)) (show (TS q_179) ∧ (dFr [2] [6] q_16 q_179) ∧ ((q.1 0 13) = (q.1 0 13)) ∧ (0 ≤ Int32.toInt (x3_23 + 2)) ∧ (Int32.toInt (x3_23 + 2) ≤ 402) from ⟨hTq_179, (by rw [eq_179]; exact (((((dFr.rf : dFr [2] [6] q_16 q_16).t a_25 (by decide) (by decide)) : dFr [2] [6] q_16 q_20).t i_155 (by decide) (by decide)) : dFr [2] [6] q_16 q_152).f (by decide)), rfl, by omega, by omega⟩) (show (402 - Int32.toInt (x3_23 + 2)).toNat < (402 - Int32.toInt x3_23).toNat by omega)
          · try have t_183 : Int32.toInt (x3_23 + 1) = Int32.toInt x3_23 + 1 := ti_add rfl (by decide) (by omega) (by omega)
            refine dOk_G (dg_ok (show 0 ≤ Int32.toInt (x3_23 + 1) by omega) (show Int32.toInt (x3_23 + 1) < ((400 : Nat) : Int) by omega)) ?_
            have n_184 : ((Int32.toNatClampNeg (x3_23 + 1) : Nat) : Int) = Int32.toInt (x3_23 + 1) := cl_eq (by omega)
            refine dOk_L (fun v_185 ev_185 => ?_)
            refine dOk_V (ok_isBit v_185) (fun r_186 h_187 => ?_)
            replace h_187 : ((Int32.toInt r_186 = 1 ∧ 0 ≤ Int32.toInt v_185 ∧ Int32.toInt v_185 ≤ 1) ∨ (Int32.toInt r_186 = 0 ∧ (Int32.toInt v_185 < 0 ∨ 1 < Int32.toInt v_185))) := h_187
            have i_188 := h_187
            refine dOk_eq (A := Int32.toInt r_186) (B := 0) rfl (by decide) (fun c_189z c_189 => ?_) (fun c_190z c_190 => ?_)
            · unfold zX10_row_92
              unfold zX10_row_93
              refine dOk_eq (A := 0) (B := 0) (by decide) (by decide) (fun c_192z c_192 => ?_) (fun c_193z c_193 => ?_)
              · unfold zX10_row_118
                refine dOk_eq (A := 0) (B := 0) (by decide) (by decide) (fun c_195z c_195 => ?_) (fun c_196z c_196 => ?_)
                · unfold zX10_row_129
                  refine dOk_eq (A := 0) (B := 0) (by decide) (by decide) (fun c_198z c_198 => ?_) (fun c_199z c_199 => ?_)
                  · unfold zX10_row_146
                    refine dOk_L (fun q_201 eq_201 => ?_)
                    try have t_202 : Int32.toInt (q_20.1 0 6 + 1) = Int32.toInt (q_20.1 0 6) + 1 := ti_add rfl (by decide) (by omega) (by omega)
                    have hTq_201 : TS q_201 := by rw [eq_201]; exact ts_f a_24 (ti_rg _).1 (ti_rg _).2
                    have hFq_201 : dFr [1, 2] [0, 6, 13, 32] q q_201 := by rw [eq_201]; exact hFq_20.f (by decide)
                    try have t_203 : Int32.toInt (x2_22 + 0) = Int32.toInt x2_22 + 0 := ti_add rfl (by decide) (by omega) (by omega)
                    exact hk_18 (q_201, (q.1 0 13), (x2_22 + 0), (x3_23 + 2)) (show (TS q_201) ∧ (dFr [2] [6] q_16 q_201) ∧ ((q.1 0 13) = (q.1 0 13)) ∧ (0 ≤ Int32.toInt (x3_23 + 2)) ∧ (Int32.toInt (x3_23 + 2) ≤ 402) from ⟨hTq_201, (by rw [eq_201]; exact (((dFr.rf : dFr [2] [6] q_16 q_16).t a_25 (by decide) (by decide)) : dFr [2] [6] q_16 q_20).f (by decide)), rfl, by omega, by omega⟩) (show (402 - Int32.toInt (x3_23 + 2)).toNat < (402 - Int32.toInt x3_23).toNat by omega)
                  · unfold zX10_row_146
                    refine dOk_L (fun q_204 eq_204 => ?_)
                    try have t_205 : Int32.toInt (q_20.1 0 6 + 0) = Int32.toInt (q_20.1 0 6) + 0 := ti_add rfl (by decide) (by omega) (by omega)
                    have hTq_204 : TS q_204 := by rw [eq_204]; exact ts_f a_24 (ti_rg _).1 (ti_rg _).2
                    have hFq_204 : dFr [1, 2] [0, 6, 13, 32] q q_204 := by rw [eq_204]; exact hFq_20.f (by decide)
                    try have t_206 : Int32.toInt (x2_22 + 0) = Int32.toInt x2_22 + 0 := ti_add rfl (by decide) (by omega) (by omega)
                    exact hk_18 (q_204, (q.1 0 13), (x2_22 + 0), (x3_23 + 2)) (show (TS q_204) ∧ (dFr [2] [6] q_16 q_204) ∧ ((q.1 0 13) = (q.1 0 13)) ∧ (0 ≤ Int32.toInt (x3_23 + 2)) ∧ (Int32.toInt (x3_23 + 2) ≤ 402) from ⟨hTq_204, (by rw [eq_204]; exact (((dFr.rf : dFr [2] [6] q_16 q_16).t a_25 (by decide) (by decide)) : dFr [2] [6] q_16 q_20).f (by decide)), rfl, by omega, by omega⟩) (show (402 - Int32.toInt (x3_23 + 2)).toNat < (402 - Int32.toInt x3_23).toNat by omega)
                · unfold zX10_row_129
                  refine dOk_eq (A := 0) (B := 0) (by decide) (by decide) (fun c_207z c_207 => ?_) (fun c_208z c_208 => ?_)
                  · unfold zX10_row_146
                    refine dOk_L (fun q_210 eq_210 => ?_)
                    try have t_211 : Int32.toInt (q_20.1 0 6 + 1) = Int32.toInt (q_20.1 0 6) + 1 := ti_add rfl (by decide) (by omega) (by omega)
                    have hTq_210 : TS q_210 := by rw [eq_210]; exact ts_f a_24 (ti_rg _).1 (ti_rg _).2
                    have hFq_210 : dFr [1, 2] [0, 6, 13, 32] q q_210 := by rw [eq_210]; exact hFq_20.f (by decide)
                    try have t_212 : Int32.toInt (x2_22 + 1) = Int32.toInt x2_22 + 1 := ti_add rfl (by decide) (by omega) (by omega)
                    exact hk_18 (q_210, (q.1 0 13), (x2_22 + 1), (x3_23 + 2)) (show (TS q_210) ∧ (dFr [2] [6] q_16 q_210) ∧ ((q.1 0 13) = (q.1 0 13)) ∧ (0 ≤ Int32.toInt (x3_23 + 2)) ∧ (Int32.toInt (x3_23 + 2) ≤ 402) from ⟨hTq_210, (by rw [eq_210]; exact (((dFr.rf : dFr [2] [6] q_16 q_16).t a_25 (by decide) (by decide)) : dFr [2] [6] q_16 q_20).f (by decide)), rfl, by omega, by omega⟩) (show (402 - Int32.toInt (x3_23 + 2)).toNat < (402 - Int32.toInt x3_23).toNat by omega)
                  · unfold zX10_row_146
                    refine dOk_L (fun q_213 eq_213 => ?_)
                    try have t_214 : Int32.toInt (q_20.1 0 6 + 0) = Int32.toInt (q_20.1 0 6) + 0 := ti_add rfl (by decide) (by omega) (by omega)
                    have hTq_213 : TS q_213 := by rw [eq_213]; exact ts_f a_24 (ti_rg _).1 (ti_rg _).2
                    have hFq_213 : dFr [1, 2] [0, 6, 13, 32] q q_213 := by rw [eq_213]; exact hFq_20.f (by decide)
                    try have t_215 : Int32.toInt (x2_22 + 1) = Int32.toInt x2_22 + 1 := ti_add rfl (by decide) (by omega) (by omega)
                    exact hk_18 (q_213, (q.1 0 13), (x2_22 + 1), (x3_23 + 2)) (show (TS q_213) ∧ (dFr [2] [6] q_16 q_213) ∧ ((q.1 0 13) = (q.1 0 13)) ∧ (0 ≤ Int32.toInt (x3_23 + 2)) ∧ (Int32.toInt (x3_23 + 2) ≤ 402) from ⟨hTq_213, (by rw [eq_213]; exact (((dFr.rf : dFr [2] [6] q_16 q_16).t a_25 (by decide) (by decide)) : dFr [2] [6] q_16 q_20).f (by decide)), rfl, by omega, by omega⟩) (show (402 - Int32.toInt (x3_23 + 2)).toNat < (402 - Int32.toInt x3_23).toNat by omega)
              · refine dOk_G (dg_ok (show 0 ≤ Int32.toInt x3_23 by omega) (show Int32.toInt x3_23 < ((400 : Nat) : Int) by omega)) ?_
                refine dOk_L (fun v_216 ev_216 => ?_)
                have w_217 : Int32.toInt v_216 = Int32.toInt v_116 := by rw [ev_216, ev_116]
                refine dOk_G (dg_ok (show 0 ≤ Int32.toInt (x3_23 + 1) by omega) (show Int32.toInt (x3_23 + 1) < ((400 : Nat) : Int) by omega)) ?_
                refine dOk_L (fun v_218 ev_218 => ?_)
                have w_219 : Int32.toInt v_218 = Int32.toInt v_185 := by rw [ev_218, ev_185]
                refine dOk_V (ok_adds q_20 v_216 v_218 a_24 (show Int32.toInt (q_20.1 2 29) < 6 by omega) (show 0 ≤ Int32.toInt v_216 ∧ Int32.toInt v_216 ≤ 5 by omega) (show 0 ≤ Int32.toInt v_218 ∧ Int32.toInt v_218 ≤ 1 by omega)) (fun q_220 h_221 => ?_)
                replace h_221 : (TS q_220) ∧ (dFr [2] [] q_20 q_220) ∧ (Int32.toInt (q_220.1 2 29) = Int32.toInt (q_20.1 2 29) + 1) := h_221
                obtain ⟨i_222, i_223, i_224⟩ := h_221
                have hFq_220 : dFr [1, 2] [0, 6, 13, 32] q q_220 := hFq_20.t i_223 (by decide) (by decide)
                have f_225 : 0 ≤ Int32.toInt (q_220.1 2 29) ∧ Int32.toInt (q_220.1 2 29) ≤ 6 := i_222.1 2 29
                unfold zX10_row_118
                refine dOk_eq (A := 0) (B := 0) (by decide) (by decide) (fun c_226z c_226 => ?_) (fun c_227z c_227 => ?_)
                · unfold zX10_row_129
                  refine dOk_eq (A := 0) (B := 0) (by decide) (by decide) (fun c_229z c_229 => ?_) (fun c_230z c_230 => ?_)
                  · unfold zX10_row_146
                    refine dOk_L (fun q_232 eq_232 => ?_)
                    have w_233 : Int32.toInt (q_220.1 0 6) = Int32.toInt (q_20.1 0 6) := by rw [i_223.2 6 (by decide)]
                    try have t_234 : Int32.toInt (q_220.1 0 6 + 1) = Int32.toInt (q_220.1 0 6) + 1 := ti_add rfl (by decide) (by omega) (by omega)
                    have hTq_232 : TS q_232 := by rw [eq_232]; exact ts_f i_222 (ti_rg _).1 (ti_rg _).2
                    have hFq_232 : dFr [1, 2] [0, 6, 13, 32] q q_232 := by rw [eq_232]; exact hFq_220.f (by decide)
                    try have t_235 : Int32.toInt (x2_22 + 0) = Int32.toInt x2_22 + 0 := ti_add rfl (by decide) (by omega) (by omega)
                    exact hk_18 (q_232, (q.1 0 13), (x2_22 + 0), (x3_23 + 2)) (show (TS q_232) ∧ (dFr [2] [6] q_16 q_232) ∧ ((q.1 0 13) = (q.1 0 13)) ∧ (0 ≤ Int32.toInt (x3_23 + 2)) ∧ (Int32.toInt (x3_23 + 2) ≤ 402) from ⟨hTq_232, (by rw [eq_232]; exact (((((dFr.rf : dFr [2] [6] q_16 q_16).t a_25 (by decide) (by decide)) : dFr [2] [6] q_16 q_20).t i_223 (by decide) (by decide)) : dFr [2] [6] q_16 q_220).f (by decide)), rfl, by omega, by omega⟩) (show (402 - Int32.toInt (x3_23 + 2)).toNat < (402 - Int32.toInt x3_23).toNat by omega)
                  · unfold zX10_row_146
                    refine dOk_L (fun q_236 eq_236 => ?_)
                    have w_237 : Int32.toInt (q_220.1 0 6) = Int32.toInt (q_20.1 0 6) := by rw [i_223.2 6 (by decide)]
                    try have t_238 : Int32.toInt (q_220.1 0 6 + 0) = Int32.toInt (q_220.1 0 6) + 0 := ti_add rfl (by decide) (by omega) (by omega)
                    have hTq_236 : TS q_236 := by rw [eq_236]; exact ts_f i_222 (ti_rg _).1 (ti_rg _).2
                    have hFq_236 : dFr [1, 2] [0, 6, 13, 32] q q_236 := by rw [eq_236]; exact hFq_220.f (by decide)
                    try have t_239 : Int32.toInt (x2_22 + 0) = Int32.toInt x2_22 + 0 := ti_add rfl (by decide) (by omega) (by omega)
                    exact hk_18 (q_236, (q.1 0 13), (x2_22 + 0), (x3_23 + 2)) (show (TS q_236) ∧ (dFr [2] [6] q_16 q_236) ∧ ((q.1 0 13) = (q.1 0 13)) ∧ (0 ≤ Int32.toInt (x3_23 + 2)) ∧ (Int32.toInt (x3_23 + 2) ≤ 402) from ⟨hTq_236, (by rw [eq_236]; exact (((((dFr.rf : dFr [2] [6] q_16 q_16).t a_25 (by decide) (by decide)) : dFr [2] [6] q_16 q_20).t i_223 (by decide) (by decide)) : dFr [2] [6] q_16 q_220).f (by decide)), rfl, by omega, by omega⟩) (show (402 - Int32.toInt (x3_23 + 2)).toNat < (402 - Int32.toInt x3_23).toNat by omega)
                · unfold zX10_row_129
                  refine dOk_eq (A := 0) (B := 0) (by decide) (by decide) (fun c_240z c_240 => ?_) (fun c_241z c_241 => ?_)
                  · unfold zX10_row_146
                    refine dOk_L (fun q_243 eq_243 => ?_)
                    have w_244 : Int32.toInt (q_220.1 0 6) = Int32.toInt (q_20.1 0 6) := by rw [i_223.2 6 (by decide)]
                    try have t_245 : Int32.toInt (q_220.1 0 6 + 1) = Int32.toInt (q_220.1 0 6) + 1 := ti_add rfl (by decide) (by omega) (by omega)
                    have hTq_243 : TS q_243 := by rw [eq_243]; exact ts_f i_222 (ti_rg _).1 (ti_rg _).2
                    have hFq_243 : dFr [1, 2] [0, 6, 13, 32] q q_243 := by rw [eq_243]; exact hFq_220.f (by decide)
                    try have t_246 : Int32.toInt (x2_22 + 1) = Int32.toInt x2_22 + 1 := ti_add rfl (by decide) (by omega) (by omega)
                    exact hk_18 (q_243, (q.1 0 13), (x2_22 + 1), (x3_23 + 2)) (show (TS q_243) ∧ (dFr [2] [6] q_16 q_243) ∧ ((q.1 0 13) = (q.1 0 13)) ∧ (0 ≤ Int32.toInt (x3_23 + 2)) ∧ (Int32.toInt (x3_23 + 2) ≤ 402) from ⟨hTq_243, (by rw [eq_243]; exact (((((dFr.rf : dFr [2] [6] q_16 q_16).t a_25 (by decide) (by decide)) : dFr [2] [6] q_16 q_20).t i_223 (by decide) (by decide)) : dFr [2] [6] q_16 q_220).f (by decide)), rfl, by omega, by omega⟩) (show (402 - Int32.toInt (x3_23 + 2)).toNat < (402 - Int32.toInt x3_23).toNat by omega)
                  · unfold zX10_row_146
                    refine dOk_L (fun q_247 eq_247 => ?_)
                    have w_248 : Int32.toInt (q_220.1 0 6) = Int32.toInt (q_20.1 0 6) := by rw [i_223.2 6 (by decide)]
                    try have t_249 : Int32.toInt (q_220.1 0 6 + 0) = Int32.toInt (q_220.1 0 6) + 0 := ti_add rfl (by decide) (by omega) (by omega)
                    have hTq_247 : TS q_247 := by rw [eq_247]; exact ts_f i_222 (ti_rg _).1 (ti_rg _).2
                    have hFq_247 : dFr [1, 2] [0, 6, 13, 32] q q_247 := by rw [eq_247]; exact hFq_220.f (by decide)
                    try have t_250 : Int32.toInt (x2_22 + 1) = Int32.toInt x2_22 + 1 := ti_add rfl (by decide) (by omega) (by omega)
                    exact hk_18 (q_247, (q.1 0 13), (x2_22 + 1), (x3_23 + 2)) (show (TS q_247) ∧ (dFr [2] [6] q_16 q_247) ∧ ((q.1 0 13) = (q.1 0 13)) ∧ (0 ≤ Int32.toInt (x3_23 + 2)) ∧ (Int32.toInt (x3_23 + 2) ≤ 402) from ⟨hTq_247, (by rw [eq_247]; exact (((((dFr.rf : dFr [2] [6] q_16 q_16).t a_25 (by decide) (by decide)) : dFr [2] [6] q_16 q_20).t i_223 (by decide) (by decide)) : dFr [2] [6] q_16 q_220).f (by decide)), rfl, by omega, by omega⟩) (show (402 - Int32.toInt (x3_23 + 2)).toNat < (402 - Int32.toInt x3_23).toNat by omega)
            · refine dOk_G (dg_ok (show 0 ≤ Int32.toInt x3_23 by omega) (show Int32.toInt x3_23 < ((400 : Nat) : Int) by omega)) ?_
              refine dOk_L (fun v_251 ev_251 => ?_)
              have w_252 : Int32.toInt v_251 = Int32.toInt v_116 := by rw [ev_251, ev_116]
              refine dOk_B (ok_placeOf q_20 v_251 a_24) (fun r_253 q_254 h_255 => ?_)
              replace h_255 : (q_254 = q_20) ∧ (-1 ≤ Int32.toInt r_253 ∧ Int32.toInt r_253 ≤ 5) := h_255
              obtain ⟨i_256, i_257⟩ := h_255
              subst q_254
              refine dOk_eq (A := Int32.toInt r_253) (B := (-1)) rfl (by decide) (fun c_258z c_258 => ?_) (fun c_259z c_259 => ?_)
              · unfold zX10_row_93
                refine dOk_eq (A := 1) (B := 0) (by decide) (by decide) (fun c_261z c_261 => ?_) (fun c_262z c_262 => ?_)
                · unfold zX10_row_118
                  refine dOk_eq (A := 1) (B := 0) (by decide) (by decide) (fun c_264z c_264 => ?_) (fun c_265z c_265 => ?_)
                  · unfold zX10_row_129
                    refine dOk_eq (A := 1) (B := 0) (by decide) (by decide) (fun c_267z c_267 => ?_) (fun c_268z c_268 => ?_)
                    · unfold zX10_row_146
                      refine dOk_L (fun q_270 eq_270 => ?_)
                      try have t_271 : Int32.toInt (q_20.1 0 6 + 1) = Int32.toInt (q_20.1 0 6) + 1 := ti_add rfl (by decide) (by omega) (by omega)
                      have hTq_270 : TS q_270 := by rw [eq_270]; exact ts_f a_24 (ti_rg _).1 (ti_rg _).2
                      have hFq_270 : dFr [1, 2] [0, 6, 13, 32] q q_270 := by rw [eq_270]; exact hFq_20.f (by decide)
                      try have t_272 : Int32.toInt (x2_22 + 0) = Int32.toInt x2_22 + 0 := ti_add rfl (by decide) (by omega) (by omega)
                      exact hk_18 (q_270, (q.1 0 13), (x2_22 + 0), (x3_23 + 2)) (show (TS q_270) ∧ (dFr [2] [6] q_16 q_270) ∧ ((q.1 0 13) = (q.1 0 13)) ∧ (0 ≤ Int32.toInt (x3_23 + 2)) ∧ (Int32.toInt (x3_23 + 2) ≤ 402) from ⟨hTq_270, (by rw [eq_270]; exact (((dFr.rf : dFr [2] [6] q_16 q_16).t a_25 (by decide) (by decide)) : dFr [2] [6] q_16 q_20).f (by decide)), rfl, by omega, by omega⟩) (show (402 - Int32.toInt (x3_23 + 2)).toNat < (402 - Int32.toInt x3_23).toNat by omega)
                    · unfold zX10_row_146
                      refine dOk_L (fun q_273 eq_273 => ?_)
                      try have t_274 : Int32.toInt (q_20.1 0 6 + 0) = Int32.toInt (q_20.1 0 6) + 0 := ti_add rfl (by decide) (by omega) (by omega)
                      have hTq_273 : TS q_273 := by rw [eq_273]; exact ts_f a_24 (ti_rg _).1 (ti_rg _).2
                      have hFq_273 : dFr [1, 2] [0, 6, 13, 32] q q_273 := by rw [eq_273]; exact hFq_20.f (by decide)
                      try have t_275 : Int32.toInt (x2_22 + 0) = Int32.toInt x2_22 + 0 := ti_add rfl (by decide) (by omega) (by omega)
                      exact hk_18 (q_273, (q.1 0 13), (x2_22 + 0), (x3_23 + 2)) (show (TS q_273) ∧ (dFr [2] [6] q_16 q_273) ∧ ((q.1 0 13) = (q.1 0 13)) ∧ (0 ≤ Int32.toInt (x3_23 + 2)) ∧ (Int32.toInt (x3_23 + 2) ≤ 402) from ⟨hTq_273, (by rw [eq_273]; exact (((dFr.rf : dFr [2] [6] q_16 q_16).t a_25 (by decide) (by decide)) : dFr [2] [6] q_16 q_20).f (by decide)), rfl, by omega, by omega⟩) (show (402 - Int32.toInt (x3_23 + 2)).toNat < (402 - Int32.toInt x3_23).toNat by omega)
                  · unfold zX10_row_129
                    refine dOk_eq (A := 1) (B := 0) (by decide) (by decide) (fun c_276z c_276 => ?_) (fun c_277z c_277 => ?_)
                    · unfold zX10_row_146
                      refine dOk_L (fun q_279 eq_279 => ?_)
                      try have t_280 : Int32.toInt (q_20.1 0 6 + 1) = Int32.toInt (q_20.1 0 6) + 1 := ti_add rfl (by decide) (by omega) (by omega)
                      have hTq_279 : TS q_279 := by rw [eq_279]; exact ts_f a_24 (ti_rg _).1 (ti_rg _).2
                      have hFq_279 : dFr [1, 2] [0, 6, 13, 32] q q_279 := by rw [eq_279]; exact hFq_20.f (by decide)
                      try have t_281 : Int32.toInt (x2_22 + 1) = Int32.toInt x2_22 + 1 := ti_add rfl (by decide) (by omega) (by omega)
                      exact hk_18 (q_279, (q.1 0 13), (x2_22 + 1), (x3_23 + 2)) (show (TS q_279) ∧ (dFr [2] [6] q_16 q_279) ∧ ((q.1 0 13) = (q.1 0 13)) ∧ (0 ≤ Int32.toInt (x3_23 + 2)) ∧ (Int32.toInt (x3_23 + 2) ≤ 402) from ⟨hTq_279, (by rw [eq_279]; exact (((dFr.rf : dFr [2] [6] q_16 q_16).t a_25 (by decide) (by decide)) : dFr [2] [6] q_16 q_20).f (by decide)), rfl, by omega, by omega⟩) (show (402 - Int32.toInt (x3_23 + 2)).toNat < (402 - Int32.toInt x3_23).toNat by omega)
                    · unfold zX10_row_146
                      refine dOk_L (fun q_282 eq_282 => ?_)
                      try have t_283 : Int32.toInt (q_20.1 0 6 + 0) = Int32.toInt (q_20.1 0 6) + 0 := ti_add rfl (by decide) (by omega) (by omega)
                      have hTq_282 : TS q_282 := by rw [eq_282]; exact ts_f a_24 (ti_rg _).1 (ti_rg _).2
                      have hFq_282 : dFr [1, 2] [0, 6, 13, 32] q q_282 := by rw [eq_282]; exact hFq_20.f (by decide)
                      try have t_284 : Int32.toInt (x2_22 + 1) = Int32.toInt x2_22 + 1 := ti_add rfl (by decide) (by omega) (by omega)
                      exact hk_18 (q_282, (q.1 0 13), (x2_22 + 1), (x3_23 + 2)) (show (TS q_282) ∧ (dFr [2] [6] q_16 q_282) ∧ ((q.1 0 13) = (q.1 0 13)) ∧ (0 ≤ Int32.toInt (x3_23 + 2)) ∧ (Int32.toInt (x3_23 + 2) ≤ 402) from ⟨hTq_282, (by rw [eq_282]; exact (((dFr.rf : dFr [2] [6] q_16 q_16).t a_25 (by decide) (by decide)) : dFr [2] [6] q_16 q_20).f (by decide)), rfl, by omega, by omega⟩) (show (402 - Int32.toInt (x3_23 + 2)).toNat < (402 - Int32.toInt x3_23).toNat by omega)
                · refine dOk_G (dg_ok (show 0 ≤ Int32.toInt x3_23 by omega) (show Int32.toInt x3_23 < ((400 : Nat) : Int) by omega)) ?_
                  refine dOk_L (fun v_285 ev_285 => ?_)
                  have w_286 : Int32.toInt v_285 = Int32.toInt v_116 := by rw [ev_285, ev_116]
                  refine dOk_G (dg_ok (show 0 ≤ Int32.toInt (x3_23 + 1) by omega) (show Int32.toInt (x3_23 + 1) < ((400 : Nat) : Int) by omega)) ?_
                  refine dOk_L (fun v_287 ev_287 => ?_)
                  have w_288 : Int32.toInt v_287 = Int32.toInt v_185 := by rw [ev_287, ev_185]
                  refine dOk_V (ok_adds q_20 v_285 v_287 a_24 (show Int32.toInt (q_20.1 2 29) < 6 by omega) (show 0 ≤ Int32.toInt v_285 ∧ Int32.toInt v_285 ≤ 5 by omega) (show 0 ≤ Int32.toInt v_287 ∧ Int32.toInt v_287 ≤ 1 by omega)) (fun q_289 h_290 => ?_)
                  replace h_290 : (TS q_289) ∧ (dFr [2] [] q_20 q_289) ∧ (Int32.toInt (q_289.1 2 29) = Int32.toInt (q_20.1 2 29) + 1) := h_290
                  obtain ⟨i_291, i_292, i_293⟩ := h_290
                  have hFq_289 : dFr [1, 2] [0, 6, 13, 32] q q_289 := hFq_20.t i_292 (by decide) (by decide)
                  have f_294 : 0 ≤ Int32.toInt (q_289.1 2 29) ∧ Int32.toInt (q_289.1 2 29) ≤ 6 := i_291.1 2 29
                  unfold zX10_row_118
                  refine dOk_eq (A := 1) (B := 0) (by decide) (by decide) (fun c_295z c_295 => ?_) (fun c_296z c_296 => ?_)
                  · unfold zX10_row_129
                    refine dOk_eq (A := 1) (B := 0) (by decide) (by decide) (fun c_298z c_298 => ?_) (fun c_299z c_299 => ?_)
                    · unfold zX10_row_146
                      refine dOk_L (fun q_301 eq_301 => ?_)
                      have w_302 : Int32.toInt (q_289.1 0 6) = Int32.toInt (q_20.1 0 6) := by rw [i_292.2 6 (by decide)]
                      try have t_303 : Int32.toInt (q_289.1 0 6 + 1) = Int32.toInt (q_289.1 0 6) + 1 := ti_add rfl (by decide) (by omega) (by omega)
                      have hTq_301 : TS q_301 := by rw [eq_301]; exact ts_f i_291 (ti_rg _).1 (ti_rg _).2
                      have hFq_301 : dFr [1, 2] [0, 6, 13, 32] q q_301 := by rw [eq_301]; exact hFq_289.f (by decide)
                      try have t_304 : Int32.toInt (x2_22 + 0) = Int32.toInt x2_22 + 0 := ti_add rfl (by decide) (by omega) (by omega)
                      exact hk_18 (q_301, (q.1 0 13), (x2_22 + 0), (x3_23 + 2)) (show (TS q_301) ∧ (dFr [2] [6] q_16 q_301) ∧ ((q.1 0 13) = (q.1 0 13)) ∧ (0 ≤ Int32.toInt (x3_23 + 2)) ∧ (Int32.toInt (x3_23 + 2) ≤ 402) from ⟨hTq_301, (by rw [eq_301]; exact (((((dFr.rf : dFr [2] [6] q_16 q_16).t a_25 (by decide) (by decide)) : dFr [2] [6] q_16 q_20).t i_292 (by decide) (by decide)) : dFr [2] [6] q_16 q_289).f (by decide)), rfl, by omega, by omega⟩) (show (402 - Int32.toInt (x3_23 + 2)).toNat < (402 - Int32.toInt x3_23).toNat by omega)
                    · unfold zX10_row_146
                      refine dOk_L (fun q_305 eq_305 => ?_)
                      have w_306 : Int32.toInt (q_289.1 0 6) = Int32.toInt (q_20.1 0 6) := by rw [i_292.2 6 (by decide)]
                      try have t_307 : Int32.toInt (q_289.1 0 6 + 0) = Int32.toInt (q_289.1 0 6) + 0 := ti_add rfl (by decide) (by omega) (by omega)
                      have hTq_305 : TS q_305 := by rw [eq_305]; exact ts_f i_291 (ti_rg _).1 (ti_rg _).2
                      have hFq_305 : dFr [1, 2] [0, 6, 13, 32] q q_305 := by rw [eq_305]; exact hFq_289.f (by decide)
                      try have t_308 : Int32.toInt (x2_22 + 0) = Int32.toInt x2_22 + 0 := ti_add rfl (by decide) (by omega) (by omega)
                      exact hk_18 (q_305, (q.1 0 13), (x2_22 + 0), (x3_23 + 2)) (show (TS q_305) ∧ (dFr [2] [6] q_16 q_305) ∧ ((q.1 0 13) = (q.1 0 13)) ∧ (0 ≤ Int32.toInt (x3_23 + 2)) ∧ (Int32.toInt (x3_23 + 2) ≤ 402) from ⟨hTq_305, (by rw [eq_305]; exact (((((dFr.rf : dFr [2] [6] q_16 q_16).t a_25 (by decide) (by decide)) : dFr [2] [6] q_16 q_20).t i_292 (by decide) (by decide)) : dFr [2] [6] q_16 q_289).f (by decide)), rfl, by omega, by omega⟩) (show (402 - Int32.toInt (x3_23 + 2)).toNat < (402 - Int32.toInt x3_23).toNat by omega)
                  · unfold zX10_row_129
                    refine dOk_eq (A := 1) (B := 0) (by decide) (by decide) (fun c_309z c_309 => ?_) (fun c_310z c_310 => ?_)
                    · unfold zX10_row_146
                      refine dOk_L (fun q_312 eq_312 => ?_)
                      have w_313 : Int32.toInt (q_289.1 0 6) = Int32.toInt (q_20.1 0 6) := by rw [i_292.2 6 (by decide)]
                      try have t_314 : Int32.toInt (q_289.1 0 6 + 1) = Int32.toInt (q_289.1 0 6) + 1 := ti_add rfl (by decide) (by omega) (by omega)
                      have hTq_312 : TS q_312 := by rw [eq_312]; exact ts_f i_291 (ti_rg _).1 (ti_rg _).2
                      have hFq_312 : dFr [1, 2] [0, 6, 13, 32] q q_312 := by rw [eq_312]; exact hFq_289.f (by decide)
                      try have t_315 : Int32.toInt (x2_22 + 1) = Int32.toInt x2_22 + 1 := ti_add rfl (by decide) (by omega) (by omega)
                      exact hk_18 (q_312, (q.1 0 13), (x2_22 + 1), (x3_23 + 2)) (show (TS q_312) ∧ (dFr [2] [6] q_16 q_312) ∧ ((q.1 0 13) = (q.1 0 13)) ∧ (0 ≤ Int32.toInt (x3_23 + 2)) ∧ (Int32.toInt (x3_23 + 2) ≤ 402) from ⟨hTq_312, (by rw [eq_312]; exact (((((dFr.rf : dFr [2] [6] q_16 q_16).t a_25 (by decide) (by decide)) : dFr [2] [6] q_16 q_20).t i_292 (by decide) (by decide)) : dFr [2] [6] q_16 q_289).f (by decide)), rfl, by omega, by omega⟩) (show (402 - Int32.toInt (x3_23 + 2)).toNat < (402 - Int32.toInt x3_23).toNat by omega)
                    · unfold zX10_row_146
                      refine dOk_L (fun q_316 eq_316 => ?_)
                      have w_317 : Int32.toInt (q_289.1 0 6) = Int32.toInt (q_20.1 0 6) := by rw [i_292.2 6 (by decide)]
                      try have t_318 : Int32.toInt (q_289.1 0 6 + 0) = Int32.toInt (q_289.1 0 6) + 0 := ti_add rfl (by decide) (by omega) (by omega)
                      have hTq_316 : TS q_316 := by rw [eq_316]; exact ts_f i_291 (ti_rg _).1 (ti_rg _).2
                      have hFq_316 : dFr [1, 2] [0, 6, 13, 32] q q_316 := by rw [eq_316]; exact hFq_289.f (by decide)
                      try have t_319 : Int32.toInt (x2_22 + 1) = Int32.toInt x2_22 + 1 := ti_add rfl (by decide) (by omega) (by omega)
                      exact hk_18 (q_316, (q.1 0 13), (x2_22 + 1), (x3_23 + 2)) (show (TS q_316) ∧ (dFr [2] [6] q_16 q_316) ∧ ((q.1 0 13) = (q.1 0 13)) ∧ (0 ≤ Int32.toInt (x3_23 + 2)) ∧ (Int32.toInt (x3_23 + 2) ≤ 402) from ⟨hTq_316, (by rw [eq_316]; exact (((((dFr.rf : dFr [2] [6] q_16 q_16).t a_25 (by decide) (by decide)) : dFr [2] [6] q_16 q_20).t i_292 (by decide) (by decide)) : dFr [2] [6] q_16 q_289).f (by decide)), rfl, by omega, by omega⟩) (show (402 - Int32.toInt (x3_23 + 2)).toNat < (402 - Int32.toInt x3_23).toNat by omega)
              · unfold zX10_row_92
                unfold zX10_row_93
                refine dOk_eq (A := 0) (B := 0) (by decide) (by decide) (fun c_320z c_320 => ?_) (fun c_321z c_321 => ?_)
                · unfold zX10_row_118
                  refine dOk_eq (A := 0) (B := 0) (by decide) (by decide) (fun c_323z c_323 => ?_) (fun c_324z c_324 => ?_)
                  · unfold zX10_row_129
                    refine dOk_eq (A := 0) (B := 0) (by decide) (by decide) (fun c_326z c_326 => ?_) (fun c_327z c_327 => ?_)
                    · unfold zX10_row_146
                      refine dOk_L (fun q_329 eq_329 => ?_)
                      try have t_330 : Int32.toInt (q_20.1 0 6 + 1) = Int32.toInt (q_20.1 0 6) + 1 := ti_add rfl (by decide) (by omega) (by omega)
                      have hTq_329 : TS q_329 := by rw [eq_329]; exact ts_f a_24 (ti_rg _).1 (ti_rg _).2
                      have hFq_329 : dFr [1, 2] [0, 6, 13, 32] q q_329 := by rw [eq_329]; exact hFq_20.f (by decide)
                      try have t_331 : Int32.toInt (x2_22 + 0) = Int32.toInt x2_22 + 0 := ti_add rfl (by decide) (by omega) (by omega)
                      exact hk_18 (q_329, (q.1 0 13), (x2_22 + 0), (x3_23 + 2)) (show (TS q_329) ∧ (dFr [2] [6] q_16 q_329) ∧ ((q.1 0 13) = (q.1 0 13)) ∧ (0 ≤ Int32.toInt (x3_23 + 2)) ∧ (Int32.toInt (x3_23 + 2) ≤ 402) from ⟨hTq_329, (by rw [eq_329]; exact (((dFr.rf : dFr [2] [6] q_16 q_16).t a_25 (by decide) (by decide)) : dFr [2] [6] q_16 q_20).f (by decide)), rfl, by omega, by omega⟩) (show (402 - Int32.toInt (x3_23 + 2)).toNat < (402 - Int32.toInt x3_23).toNat by omega)
                    · unfold zX10_row_146
                      refine dOk_L (fun q_332 eq_332 => ?_)
                      try have t_333 : Int32.toInt (q_20.1 0 6 + 0) = Int32.toInt (q_20.1 0 6) + 0 := ti_add rfl (by decide) (by omega) (by omega)
                      have hTq_332 : TS q_332 := by rw [eq_332]; exact ts_f a_24 (ti_rg _).1 (ti_rg _).2
                      have hFq_332 : dFr [1, 2] [0, 6, 13, 32] q q_332 := by rw [eq_332]; exact hFq_20.f (by decide)
                      try have t_334 : Int32.toInt (x2_22 + 0) = Int32.toInt x2_22 + 0 := ti_add rfl (by decide) (by omega) (by omega)
                      exact hk_18 (q_332, (q.1 0 13), (x2_22 + 0), (x3_23 + 2)) (show (TS q_332) ∧ (dFr [2] [6] q_16 q_332) ∧ ((q.1 0 13) = (q.1 0 13)) ∧ (0 ≤ Int32.toInt (x3_23 + 2)) ∧ (Int32.toInt (x3_23 + 2) ≤ 402) from ⟨hTq_332, (by rw [eq_332]; exact (((dFr.rf : dFr [2] [6] q_16 q_16).t a_25 (by decide) (by decide)) : dFr [2] [6] q_16 q_20).f (by decide)), rfl, by omega, by omega⟩) (show (402 - Int32.toInt (x3_23 + 2)).toNat < (402 - Int32.toInt x3_23).toNat by omega)
                  · unfold zX10_row_129
                    refine dOk_eq (A := 0) (B := 0) (by decide) (by decide) (fun c_335z c_335 => ?_) (fun c_336z c_336 => ?_)
                    · unfold zX10_row_146
                      refine dOk_L (fun q_338 eq_338 => ?_)
                      try have t_339 : Int32.toInt (q_20.1 0 6 + 1) = Int32.toInt (q_20.1 0 6) + 1 := ti_add rfl (by decide) (by omega) (by omega)
                      have hTq_338 : TS q_338 := by rw [eq_338]; exact ts_f a_24 (ti_rg _).1 (ti_rg _).2
                      have hFq_338 : dFr [1, 2] [0, 6, 13, 32] q q_338 := by rw [eq_338]; exact hFq_20.f (by decide)
                      try have t_340 : Int32.toInt (x2_22 + 1) = Int32.toInt x2_22 + 1 := ti_add rfl (by decide) (by omega) (by omega)
                      exact hk_18 (q_338, (q.1 0 13), (x2_22 + 1), (x3_23 + 2)) (show (TS q_338) ∧ (dFr [2] [6] q_16 q_338) ∧ ((q.1 0 13) = (q.1 0 13)) ∧ (0 ≤ Int32.toInt (x3_23 + 2)) ∧ (Int32.toInt (x3_23 + 2) ≤ 402) from ⟨hTq_338, (by rw [eq_338]; exact (((dFr.rf : dFr [2] [6] q_16 q_16).t a_25 (by decide) (by decide)) : dFr [2] [6] q_16 q_20).f (by decide)), rfl, by omega, by omega⟩) (show (402 - Int32.toInt (x3_23 + 2)).toNat < (402 - Int32.toInt x3_23).toNat by omega)
                    · unfold zX10_row_146
                      refine dOk_L (fun q_341 eq_341 => ?_)
                      try have t_342 : Int32.toInt (q_20.1 0 6 + 0) = Int32.toInt (q_20.1 0 6) + 0 := ti_add rfl (by decide) (by omega) (by omega)
                      have hTq_341 : TS q_341 := by rw [eq_341]; exact ts_f a_24 (ti_rg _).1 (ti_rg _).2
                      have hFq_341 : dFr [1, 2] [0, 6, 13, 32] q q_341 := by rw [eq_341]; exact hFq_20.f (by decide)
                      try have t_343 : Int32.toInt (x2_22 + 1) = Int32.toInt x2_22 + 1 := ti_add rfl (by decide) (by omega) (by omega)
                      exact hk_18 (q_341, (q.1 0 13), (x2_22 + 1), (x3_23 + 2)) (show (TS q_341) ∧ (dFr [2] [6] q_16 q_341) ∧ ((q.1 0 13) = (q.1 0 13)) ∧ (0 ≤ Int32.toInt (x3_23 + 2)) ∧ (Int32.toInt (x3_23 + 2) ≤ 402) from ⟨hTq_341, (by rw [eq_341]; exact (((dFr.rf : dFr [2] [6] q_16 q_16).t a_25 (by decide) (by decide)) : dFr [2] [6] q_16 q_20).f (by decide)), rfl, by omega, by omega⟩) (show (402 - Int32.toInt (x3_23 + 2)).toNat < (402 - Int32.toInt x3_23).toNat by omega)
                · refine dOk_G (dg_ok (show 0 ≤ Int32.toInt x3_23 by omega) (show Int32.toInt x3_23 < ((400 : Nat) : Int) by omega)) ?_
                  refine dOk_L (fun v_344 ev_344 => ?_)
                  have w_345 : Int32.toInt v_344 = Int32.toInt v_116 := by rw [ev_344, ev_116]
                  refine dOk_G (dg_ok (show 0 ≤ Int32.toInt (x3_23 + 1) by omega) (show Int32.toInt (x3_23 + 1) < ((400 : Nat) : Int) by omega)) ?_
                  refine dOk_L (fun v_346 ev_346 => ?_)
                  have w_347 : Int32.toInt v_346 = Int32.toInt v_185 := by rw [ev_346, ev_185]
                  refine dOk_V (ok_adds q_20 v_344 v_346 a_24 (show Int32.toInt (q_20.1 2 29) < 6 by omega) (show 0 ≤ Int32.toInt v_344 ∧ Int32.toInt v_344 ≤ 5 by omega) (show 0 ≤ Int32.toInt v_346 ∧ Int32.toInt v_346 ≤ 1 by omega)) (fun q_348 h_349 => ?_)
                  replace h_349 : (TS q_348) ∧ (dFr [2] [] q_20 q_348) ∧ (Int32.toInt (q_348.1 2 29) = Int32.toInt (q_20.1 2 29) + 1) := h_349
                  obtain ⟨i_350, i_351, i_352⟩ := h_349
                  have hFq_348 : dFr [1, 2] [0, 6, 13, 32] q q_348 := hFq_20.t i_351 (by decide) (by decide)
                  have f_353 : 0 ≤ Int32.toInt (q_348.1 2 29) ∧ Int32.toInt (q_348.1 2 29) ≤ 6 := i_350.1 2 29
                  unfold zX10_row_118
                  refine dOk_eq (A := 0) (B := 0) (by decide) (by decide) (fun c_354z c_354 => ?_) (fun c_355z c_355 => ?_)
                  · unfold zX10_row_129
                    refine dOk_eq (A := 0) (B := 0) (by decide) (by decide) (fun c_357z c_357 => ?_) (fun c_358z c_358 => ?_)
                    · unfold zX10_row_146
                      refine dOk_L (fun q_360 eq_360 => ?_)
                      have w_361 : Int32.toInt (q_348.1 0 6) = Int32.toInt (q_20.1 0 6) := by rw [i_351.2 6 (by decide)]
                      try have t_362 : Int32.toInt (q_348.1 0 6 + 1) = Int32.toInt (q_348.1 0 6) + 1 := ti_add rfl (by decide) (by omega) (by omega)
                      have hTq_360 : TS q_360 := by rw [eq_360]; exact ts_f i_350 (ti_rg _).1 (ti_rg _).2
                      have hFq_360 : dFr [1, 2] [0, 6, 13, 32] q q_360 := by rw [eq_360]; exact hFq_348.f (by decide)
                      try have t_363 : Int32.toInt (x2_22 + 0) = Int32.toInt x2_22 + 0 := ti_add rfl (by decide) (by omega) (by omega)
                      exact hk_18 (q_360, (q.1 0 13), (x2_22 + 0), (x3_23 + 2)) (show (TS q_360) ∧ (dFr [2] [6] q_16 q_360) ∧ ((q.1 0 13) = (q.1 0 13)) ∧ (0 ≤ Int32.toInt (x3_23 + 2)) ∧ (Int32.toInt (x3_23 + 2) ≤ 402) from ⟨hTq_360, (by rw [eq_360]; exact (((((dFr.rf : dFr [2] [6] q_16 q_16).t a_25 (by decide) (by decide)) : dFr [2] [6] q_16 q_20).t i_351 (by decide) (by decide)) : dFr [2] [6] q_16 q_348).f (by decide)), rfl, by omega, by omega⟩) (show (402 - Int32.toInt (x3_23 + 2)).toNat < (402 - Int32.toInt x3_23).toNat by omega)
                    · unfold zX10_row_146
                      refine dOk_L (fun q_364 eq_364 => ?_)
                      have w_365 : Int32.toInt (q_348.1 0 6) = Int32.toInt (q_20.1 0 6) := by rw [i_351.2 6 (by decide)]
                      try have t_366 : Int32.toInt (q_348.1 0 6 + 0) = Int32.toInt (q_348.1 0 6) + 0 := ti_add rfl (by decide) (by omega) (by omega)
                      have hTq_364 : TS q_364 := by rw [eq_364]; exact ts_f i_350 (ti_rg _).1 (ti_rg _).2
                      have hFq_364 : dFr [1, 2] [0, 6, 13, 32] q q_364 := by rw [eq_364]; exact hFq_348.f (by decide)
                      try have t_367 : Int32.toInt (x2_22 + 0) = Int32.toInt x2_22 + 0 := ti_add rfl (by decide) (by omega) (by omega)
                      exact hk_18 (q_364, (q.1 0 13), (x2_22 + 0), (x3_23 + 2)) (show (TS q_364) ∧ (dFr [2] [6] q_16 q_364) ∧ ((q.1 0 13) = (q.1 0 13)) ∧ (0 ≤ Int32.toInt (x3_23 + 2)) ∧ (Int32.toInt (x3_23 + 2) ≤ 402) from ⟨hTq_364, (by rw [eq_364]; exact (((((dFr.rf : dFr [2] [6] q_16 q_16).t a_25 (by decide) (by decide)) : dFr [2] [6] q_16 q_20).t i_351 (by decide) (by decide)) : dFr [2] [6] q_16 q_348).f (by decide)), rfl, by omega, by omega⟩) (show (402 - Int32.toInt (x3_23 + 2)).toNat < (402 - Int32.toInt x3_23).toNat by omega)
                  · unfold zX10_row_129
                    refine dOk_eq (A := 0) (B := 0) (by decide) (by decide) (fun c_368z c_368 => ?_) (fun c_369z c_369 => ?_)
                    · unfold zX10_row_146
                      refine dOk_L (fun q_371 eq_371 => ?_)
                      have w_372 : Int32.toInt (q_348.1 0 6) = Int32.toInt (q_20.1 0 6) := by rw [i_351.2 6 (by decide)]
                      try have t_373 : Int32.toInt (q_348.1 0 6 + 1) = Int32.toInt (q_348.1 0 6) + 1 := ti_add rfl (by decide) (by omega) (by omega)
                      have hTq_371 : TS q_371 := by rw [eq_371]; exact ts_f i_350 (ti_rg _).1 (ti_rg _).2
                      have hFq_371 : dFr [1, 2] [0, 6, 13, 32] q q_371 := by rw [eq_371]; exact hFq_348.f (by decide)
                      try have t_374 : Int32.toInt (x2_22 + 1) = Int32.toInt x2_22 + 1 := ti_add rfl (by decide) (by omega) (by omega)
                      exact hk_18 (q_371, (q.1 0 13), (x2_22 + 1), (x3_23 + 2)) (show (TS q_371) ∧ (dFr [2] [6] q_16 q_371) ∧ ((q.1 0 13) = (q.1 0 13)) ∧ (0 ≤ Int32.toInt (x3_23 + 2)) ∧ (Int32.toInt (x3_23 + 2) ≤ 402) from ⟨hTq_371, (by rw [eq_371]; exact (((((dFr.rf : dFr [2] [6] q_16 q_16).t a_25 (by decide) (by decide)) : dFr [2] [6] q_16 q_20).t i_351 (by decide) (by decide)) : dFr [2] [6] q_16 q_348).f (by decide)), rfl, by omega, by omega⟩) (show (402 - Int32.toInt (x3_23 + 2)).toNat < (402 - Int32.toInt x3_23).toNat by omega)
                    · unfold zX10_row_146
                      refine dOk_L (fun q_375 eq_375 => ?_)
                      have w_376 : Int32.toInt (q_348.1 0 6) = Int32.toInt (q_20.1 0 6) := by rw [i_351.2 6 (by decide)]
                      try have t_377 : Int32.toInt (q_348.1 0 6 + 0) = Int32.toInt (q_348.1 0 6) + 0 := ti_add rfl (by decide) (by omega) (by omega)
                      have hTq_375 : TS q_375 := by rw [eq_375]; exact ts_f i_350 (ti_rg _).1 (ti_rg _).2
                      have hFq_375 : dFr [1, 2] [0, 6, 13, 32] q q_375 := by rw [eq_375]; exact hFq_348.f (by decide)
                      try have t_378 : Int32.toInt (x2_22 + 1) = Int32.toInt x2_22 + 1 := ti_add rfl (by decide) (by omega) (by omega)
                      exact hk_18 (q_375, (q.1 0 13), (x2_22 + 1), (x3_23 + 2)) (show (TS q_375) ∧ (dFr [2] [6] q_16 q_375) ∧ ((q.1 0 13) = (q.1 0 13)) ∧ (0 ≤ Int32.toInt (x3_23 + 2)) ∧ (Int32.toInt (x3_23 + 2) ≤ 402) from ⟨hTq_375, (by rw [eq_375]; exact (((((dFr.rf : dFr [2] [6] q_16 q_16).t a_25 (by decide) (by decide)) : dFr [2] [6] q_16 q_20).t i_351 (by decide) (by decide)) : dFr [2] [6] q_16 q_348).f (by decide)), rfl, by omega, by omega⟩) (show (402 - Int32.toInt (x3_23 + 2)).toNat < (402 - Int32.toInt x3_23).toNat by omega)
    · exact (show (TS q_16) ∧ (dFr [2] [6] q_16 q_16) ∧ ((q.1 0 13) = (q.1 0 13)) ∧ (0 ≤ (0 : Int)) ∧ ((0 : Int) ≤ 402) from ⟨hTq_16, dFr.rf, rfl, by omega, by omega⟩)
    · show (402 - (0 : Int)).toNat < 1000000000000
      omega
