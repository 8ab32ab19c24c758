set_option maxHeartbeats 4000000 in
set_option maxRecDepth 100000 in
theorem ok_splits (q : dS) (p1 : Int32) (hT : TS q) (hp0 : 0 ≤ Int32.toInt p1) (hp1 : Int32.toInt p1 ≤ 400) : dOk (zX10_splits q p1) (fun (o : dS) => (TS o) ∧ (dFr [9, 10, 11] [18] q o) ∧ (0 ≤ Int32.toInt (o.1 0 18)) ∧ (Int32.toInt (o.1 0 18) ≤ 400) ∧ (o.1 9 (Int32.toNatClampNeg (o.1 0 18)) = 0)) := by
  unfold zX10_splits
  refine dOk_L (fun q_1 eq_1 => ?_)
  have hTq_1 : TS q_1 := by rw [eq_1]; exact ts_f hT (ti_rg _).1 (ti_rg _).2
  have hFq_1 : dFr [9, 10, 11] [18] q q_1 := by rw [eq_1]; exact (dFr.rf (q := q)).f (by decide)
  unfold zX10_splits_7
  refine dFix_ok (fun (a : dS × Int32 × Int32) => (TS a.1) ∧ (dFr [9, 10, 11] [18] q_1 a.1) ∧ (a.2.1 = p1) ∧ (0 ≤ Int32.toInt a.2.2) ∧ (Int32.toInt a.2.2 ≤ Int32.toInt a.2.1) ∧ (0 ≤ Int32.toInt (a.1.1 0 18)) ∧ (Int32.toInt (a.1.1 0 18) ≤ Int32.toInt a.2.2)) (fun (a : dS × Int32 × Int32) => (Int32.toInt a.2.1 - Int32.toInt a.2.2).toNat) ?_ _ ?_ _ (dF_gt ?_)
  · intro a ha k_3 hk_2
    obtain ⟨q_4, x1_5, x2_6⟩ := a
    replace ha : (TS q_4) ∧ (dFr [9, 10, 11] [18] q_1 q_4) ∧ (x1_5 = p1) ∧ (0 ≤ Int32.toInt x2_6) ∧ (Int32.toInt x2_6 ≤ Int32.toInt x1_5) ∧ (0 ≤ Int32.toInt (q_4.1 0 18)) ∧ (Int32.toInt (q_4.1 0 18) ≤ Int32.toInt x2_6) := ha
    obtain ⟨a_7, a_8, a_9, a_10, a_11, a_12, a_13⟩ := ha
    show dOk (zX10_splits_7b  (fun q x1 x2 => k_3 (q, x1, x2)) q_4 x1_5 x2_6) _
    unfold zX10_splits_7b
    have hFq_4 : dFr [9, 10, 11] [18] q q_4 := hFq_1.t a_8 (by decide) (by decide)
    subst x1_5
    refine dOk_le (A := Int32.toInt p1) (B := Int32.toInt x2_6) rfl rfl (fun c_14 => ?_) (fun c_15 => ?_)
    · refine dOk_G (dg_ok (show 0 ≤ Int32.toInt (q_4.1 0 18) by omega) (show Int32.toInt (q_4.1 0 18) < ((401 : Nat) : Int) by omega)) ?_
      have n_16 : ((Int32.toNatClampNeg (q_4.1 0 18) : Nat) : Int) = Int32.toInt (q_4.1 0 18) := cl_eq (by omega)
      refine dOk_L (fun q_17 eq_17 => ?_)
      have hTq_17 : TS q_17 := by rw [eq_17]; exact ts_set a_7 (by decide) (show 0 ≤ Int32.toInt p1 by omega) (show Int32.toInt p1 ≤ 400 by omega)
      have hFq_17 : dFr [9, 10, 11] [18] q q_17 := by rw [eq_17]; exact hFq_4.i (by decide) (by decide)
      try have w_18 : Int32.toInt (q_17.1 0 18) = Int32.toInt (q_4.1 0 18) := by rw [eq_17, dui_o (by decide)]
      refine dOk_G (dg_ok (show 0 ≤ Int32.toInt (q_17.1 0 18) by omega) (show Int32.toInt (q_17.1 0 18) < ((401 : Nat) : Int) by omega)) ?_
      have n_19 : ((Int32.toNatClampNeg (q_17.1 0 18) : Nat) : Int) = Int32.toInt (q_17.1 0 18) := cl_eq (by omega)
      refine dOk_L (fun q_20 eq_20 => ?_)
      have hTq_20 : TS q_20 := by rw [eq_20]; exact ts_any hTq_17 rfl
      have hFq_20 : dFr [9, 10, 11] [18] q q_20 := by rw [eq_20]; exact hFq_17.i (by decide) (by decide)
      try have w_21 : Int32.toInt (q_20.1 0 18) = Int32.toInt (q_17.1 0 18) := by rw [eq_20, dui_o (by decide)]
      refine dOk_G (dg_ok (show 0 ≤ Int32.toInt (q_20.1 0 18) by omega) (show Int32.toInt (q_20.1 0 18) < ((401 : Nat) : Int) by omega)) ?_
      have n_22 : ((Int32.toNatClampNeg (q_20.1 0 18) : Nat) : Int) = Int32.toInt (q_20.1 0 18) := cl_eq (by omega)
      refine dOk_L (fun q_23 eq_23 => ?_)
      have hTq_23 : TS q_23 := by rw [eq_23]; exact ts_any hTq_20 rfl
      have hFq_23 : dFr [9, 10, 11] [18] q q_23 := by rw [eq_23]; exact hFq_20.i (by decide) (by decide)
      try have w_24 : Int32.toInt (q_23.1 0 18) = Int32.toInt (q_20.1 0 18) := by rw [eq_23, dui_o (by decide)]
      exact dOk_some (show (TS q_23) ∧ (dFr [9, 10, 11] [18] q q_23) ∧ (0 ≤ Int32.toInt (q_23.1 0 18)) ∧ (Int32.toInt (q_23.1 0 18) ≤ 400) ∧ (q_23.1 9 (Int32.toNatClampNeg (q_23.1 0 18)) = 0) from ⟨hTq_23, hFq_23, by omega, by omega, by (subst_vars; simp [dui, upd])⟩)
    · refine dOk_G (dg_ok (show 0 ≤ Int32.toInt x2_6 by omega) (show Int32.toInt x2_6 < ((400 : Nat) : Int) by omega)) ?_
      have n_25 : ((Int32.toNatClampNeg x2_6 : Nat) : Int) = Int32.toInt x2_6 := cl_eq (by omega)
      refine dOk_L (fun v_26 ev_26 => ?_)
      refine dOk_eq (A := Int32.toInt v_26) (B := 32) rfl (by decide) (fun c_27z c_27 => ?_) (fun c_28z c_28 => ?_)
      · try have t_30 : Int32.toInt (x2_6 + 1) = Int32.toInt x2_6 + 1 := ti_add rfl (by decide) (by omega) (by omega)
        exact hk_2 (q_4, p1, (x2_6 + 1)) (show (TS q_4) ∧ (dFr [9, 10, 11] [18] q_1 q_4) ∧ (p1 = p1) ∧ (0 ≤ Int32.toInt (x2_6 + 1)) ∧ (Int32.toInt (x2_6 + 1) ≤ Int32.toInt p1) ∧ (0 ≤ Int32.toInt (q_4.1 0 18)) ∧ (Int32.toInt (q_4.1 0 18) ≤ Int32.toInt (x2_6 + 1)) from ⟨a_7, ((dFr.rf : dFr [9, 10, 11] [18] q_1 q_1).t a_8 (by decide) (by decide)), rfl, by omega, by omega, by omega, by omega⟩) (show (Int32.toInt p1 - Int32.toInt (x2_6 + 1)).toNat < (Int32.toInt p1 - Int32.toInt x2_6).toNat by omega)
      · refine dOk_V (ok_isSmall v_26) (fun r_31 h_32 => ?_)
        replace h_32 : ((Int32.toInt r_31 = 1 ∧ 97 ≤ Int32.toInt v_26 ∧ Int32.toInt v_26 ≤ 122) ∨ (Int32.toInt r_31 = 0 ∧ (Int32.toInt v_26 < 97 ∨ 122 < Int32.toInt v_26))) := h_32
        have i_33 := h_32
        refine dOk_eq (A := Int32.toInt r_31) (B := 0) rfl (by decide) (fun c_34z c_34 => ?_) (fun c_35z c_35 => ?_)
        · unfold zX10_splits_68
          refine dOk_V (ok_isDigit v_26) (fun r_37 h_38 => ?_)
          replace h_38 : ((Int32.toInt r_37 = 1 ∧ 48 ≤ Int32.toInt v_26 ∧ Int32.toInt v_26 ≤ 57) ∨ (Int32.toInt r_37 = 0 ∧ (Int32.toInt v_26 < 48 ∨ 57 < Int32.toInt v_26))) := h_38
          have i_39 := h_38
          refine dOk_eq (A := Int32.toInt r_37) (B := 0) rfl (by decide) (fun c_40z c_40 => ?_) (fun c_41z c_41 => ?_)
          · unfold zX10_splits_100
            refine dOk_G (dg_ok (show 0 ≤ Int32.toInt (q_4.1 0 18) by omega) (show Int32.toInt (q_4.1 0 18) < ((401 : Nat) : Int) by omega)) ?_
            have n_43 : ((Int32.toNatClampNeg (q_4.1 0 18) : Nat) : Int) = Int32.toInt (q_4.1 0 18) := cl_eq (by omega)
            refine dOk_L (fun q_44 eq_44 => ?_)
            have hTq_44 : TS q_44 := by rw [eq_44]; exact ts_set a_7 (by decide) (show 0 ≤ Int32.toInt x2_6 by omega) (show Int32.toInt x2_6 ≤ 400 by omega)
            have hFq_44 : dFr [9, 10, 11] [18] q q_44 := by rw [eq_44]; exact hFq_4.i (by decide) (by decide)
            try have w_45 : Int32.toInt (q_44.1 0 18) = Int32.toInt (q_4.1 0 18) := by rw [eq_44, dui_o (by decide)]
            refine dOk_G (dg_ok (show 0 ≤ Int32.toInt (q_44.1 0 18) by omega) (show Int32.toInt (q_44.1 0 18) < ((401 : Nat) : Int) by omega)) ?_
            have n_46 : ((Int32.toNatClampNeg (q_44.1 0 18) : Nat) : Int) = Int32.toInt (q_44.1 0 18) := cl_eq (by omega)
            refine dOk_L (fun q_47 eq_47 => ?_)
            have hTq_47 : TS q_47 := by rw [eq_47]; exact ts_any hTq_44 rfl
            have hFq_47 : dFr [9, 10, 11] [18] q q_47 := by rw [eq_47]; exact hFq_44.i (by decide) (by decide)
            refine dOk_V (ok_isSmall v_26) (fun r_48 h_49 => ?_)
            replace h_49 : ((Int32.toInt r_48 = 1 ∧ 97 ≤ Int32.toInt v_26 ∧ Int32.toInt v_26 ≤ 122) ∨ (Int32.toInt r_48 = 0 ∧ (Int32.toInt v_26 < 97 ∨ 122 < Int32.toInt v_26))) := h_49
            have i_50 := h_49
            refine dOk_eq (A := Int32.toInt r_48) (B := 0) rfl (by decide) (fun c_51z c_51 => ?_) (fun c_52z c_52 => ?_)
            · refine dOk_V (ok_isDigit v_26) (fun r_54 h_55 => ?_)
              replace h_55 : ((Int32.toInt r_54 = 1 ∧ 48 ≤ Int32.toInt v_26 ∧ Int32.toInt v_26 ≤ 57) ∨ (Int32.toInt r_54 = 0 ∧ (Int32.toInt v_26 < 48 ∨ 57 < Int32.toInt v_26))) := h_55
              have i_56 := h_55
              refine dOk_eq (A := Int32.toInt r_54) (B := 0) rfl (by decide) (fun c_57z c_57 => ?_) (fun c_58z c_58 => ?_)
              · unfold zX10_splits_165
                try have w_60 : Int32.toInt (q_47.1 0 18) = Int32.toInt (q_44.1 0 18) := by rw [eq_47, dui_o (by decide)]
                refine dOk_G (dg_ok (show 0 ≤ Int32.toInt (q_47.1 0 18) by omega) (show Int32.toInt (q_47.1 0 18) < ((401 : Nat) : Int) by omega)) ?_
                have n_61 : ((Int32.toNatClampNeg (q_47.1 0 18) : Nat) : Int) = Int32.toInt (q_47.1 0 18) := cl_eq (by omega)
                refine dOk_L (fun q_62 eq_62 => ?_)
                have hTq_62 : TS q_62 := by rw [eq_62]; exact ts_any hTq_47 rfl
                have hFq_62 : dFr [9, 10, 11] [18] q q_62 := by rw [eq_62]; exact hFq_47.i (by decide) (by decide)
                unfold zX10_splits_169
                refine dFix_ok (fun (a : dS × Int32 × Int32 × Int32 × Int32) => (TS a.1) ∧ (dFr [10] [] q_62 a.1) ∧ (a.2.1 = p1) ∧ (a.2.2.1 = v_26) ∧ (a.2.2.2.1 = (x2_6 + 1)) ∧ (0 ≤ Int32.toInt a.2.2.2.2) ∧ (Int32.toInt a.2.2.2.2 ≤ Int32.toInt a.2.2.2.1)) (fun (a : dS × Int32 × Int32 × Int32 × Int32) => (Int32.toInt a.2.2.2.1 - Int32.toInt a.2.2.2.2).toNat) ?_ _ ?_ _ (dF_gt ?_)
                · intro a ha k_64 hk_63
                  obtain ⟨q_65, x1_66, x3_67, x4_68, x5_69⟩ := a
                  replace ha : (TS q_65) ∧ (dFr [10] [] q_62 q_65) ∧ (x1_66 = p1) ∧ (x3_67 = v_26) ∧ (x4_68 = (x2_6 + 1)) ∧ (0 ≤ Int32.toInt x5_69) ∧ (Int32.toInt x5_69 ≤ Int32.toInt x4_68) := ha
                  obtain ⟨a_70, a_71, a_72, a_73, a_74, a_75, a_76⟩ := ha
                  show dOk (zX10_splits_169b _ (fun q x1 x3 x4 x5 => k_64 (q, x1, x3, x4, x5)) q_65 x1_66 x3_67 x4_68 x5_69) _
                  unfold zX10_splits_169b
                  have hFq_65 : dFr [9, 10, 11] [18] q q_65 := hFq_62.t a_71 (by decide) (by decide)
                  subst x1_66
                  subst x3_67
                  subst x4_68
                  try have t_77 : Int32.toInt (x2_6 + 1) = Int32.toInt x2_6 + 1 := ti_add rfl (by decide) (by omega) (by omega)
                  refine dOk_le (A := Int32.toInt (x2_6 + 1)) (B := Int32.toInt x5_69) rfl rfl (fun c_78 => ?_) (fun c_79 => ?_)
                  · unfold zX10_splits_247
                    refine dOk_L (fun q_80 eq_80 => ?_)
                    try have w_81 : Int32.toInt (q_62.1 0 18) = Int32.toInt (q_47.1 0 18) := by rw [eq_62, dui_o (by decide)]
                    have w_82 : Int32.toInt (q_65.1 0 18) = Int32.toInt (q_62.1 0 18) := by rw [a_71.2 18 (by decide)]
                    try have t_83 : Int32.toInt (q_65.1 0 18 + 1) = Int32.toInt (q_65.1 0 18) + 1 := ti_add rfl (by decide) (by omega) (by omega)
                    have hTq_80 : TS q_80 := by rw [eq_80]; exact ts_f a_70 (ti_rg _).1 (ti_rg _).2
                    have hFq_80 : dFr [9, 10, 11] [18] q q_80 := by rw [eq_80]; exact hFq_65.f (by decide)
                    have w_84 : Int32.toInt (q_80.1 0 18) = Int32.toInt (q_65.1 0 18 + 1) := by rw [eq_80, dui_e]
                    exact hk_2 (q_80, p1, (x2_6 + 1)) (show (TS q_80) ∧ (dFr [9, 10, 11] [18] q_1 q_80) ∧ (p1 = p1) ∧ (0 ≤ Int32.toInt (x2_6 + 1)) ∧ (Int32.toInt (x2_6 + 1) ≤ Int32.toInt p1) ∧ (0 ≤ Int32.toInt (q_80.1 0 18)) ∧ (Int32.toInt (q_80.1 0 18) ≤ Int32.toInt (x2_6 + 1)) from ⟨hTq_80, (by rw [eq_80]; exact ((((by rw [eq_62]; exact ((by rw [eq_47]; exact ((by rw [eq_44]; exact (((dFr.rf : dFr [9, 10, 11] [18] q_1 q_1).t a_8 (by decide) (by decide)) : dFr [9, 10, 11] [18] q_1 q_4).i (by decide) (by decide)) : dFr [9, 10, 11] [18] q_1 q_44).i (by decide) (by decide)) : dFr [9, 10, 11] [18] q_1 q_47).i (by decide) (by decide)) : dFr [9, 10, 11] [18] q_1 q_62).t a_71 (by decide) (by decide)) : dFr [9, 10, 11] [18] q_1 q_65).f (by decide)), rfl, by omega, by omega, by omega, by omega⟩) (show (Int32.toInt p1 - Int32.toInt (x2_6 + 1)).toNat < (Int32.toInt p1 - Int32.toInt x2_6).toNat by omega)
                  · refine dOk_V (ok_isDigit v_26) (fun r_85 h_86 => ?_)
                    replace h_86 : ((Int32.toInt r_85 = 1 ∧ 48 ≤ Int32.toInt v_26 ∧ Int32.toInt v_26 ≤ 57) ∨ (Int32.toInt r_85 = 0 ∧ (Int32.toInt v_26 < 48 ∨ 57 < Int32.toInt v_26))) := h_86
                    have i_87 := h_86
                    refine dOk_eq (A := Int32.toInt r_85) (B := 0) rfl (by decide) (fun c_88z c_88 => ?_) (fun c_89z c_89 => ?_)
                    · unfold zX10_splits_247
                      refine dOk_L (fun q_91 eq_91 => ?_)
                      try have w_92 : Int32.toInt (q_62.1 0 18) = Int32.toInt (q_47.1 0 18) := by rw [eq_62, dui_o (by decide)]
                      have w_93 : Int32.toInt (q_65.1 0 18) = Int32.toInt (q_62.1 0 18) := by rw [a_71.2 18 (by decide)]
                      try have t_94 : Int32.toInt (q_65.1 0 18 + 1) = Int32.toInt (q_65.1 0 18) + 1 := ti_add rfl (by decide) (by omega) (by omega)
                      have hTq_91 : TS q_91 := by rw [eq_91]; exact ts_f a_70 (ti_rg _).1 (ti_rg _).2
                      have hFq_91 : dFr [9, 10, 11] [18] q q_91 := by rw [eq_91]; exact hFq_65.f (by decide)
                      have w_95 : Int32.toInt (q_91.1 0 18) = Int32.toInt (q_65.1 0 18 + 1) := by rw [eq_91, dui_e]
                      exact hk_2 (q_91, p1, (x2_6 + 1)) (show (TS q_91) ∧ (dFr [9, 10, 11] [18] q_1 q_91) ∧ (p1 = p1) ∧ (0 ≤ Int32.toInt (x2_6 + 1)) ∧ (Int32.toInt (x2_6 + 1) ≤ Int32.toInt p1) ∧ (0 ≤ Int32.toInt (q_91.1 0 18)) ∧ (Int32.toInt (q_91.1 0 18) ≤ Int32.toInt (x2_6 + 1)) from ⟨hTq_91, (by rw [eq_91]; exact ((((by rw [eq_62]; exact ((by rw [eq_47]; exact ((by rw [eq_44]; exact (((dFr.rf : dFr [9, 10, 11] [18] q_1 q_1).t a_8 (by decide) (by decide)) : dFr [9, 10, 11] [18] q_1 q_4).i (by decide) (by decide)) : dFr [9, 10, 11] [18] q_1 q_44).i (by decide) (by decide)) : dFr [9, 10, 11] [18] q_1 q_47).i (by decide) (by decide)) : dFr [9, 10, 11] [18] q_1 q_62).t a_71 (by decide) (by decide)) : dFr [9, 10, 11] [18] q_1 q_65).f (by decide)), rfl, by omega, by omega, by omega, by omega⟩) (show (Int32.toInt p1 - Int32.toInt (x2_6 + 1)).toNat < (Int32.toInt p1 - Int32.toInt x2_6).toNat by omega)
                    · try have w_96 : Int32.toInt (q_62.1 0 18) = Int32.toInt (q_47.1 0 18) := by rw [eq_62, dui_o (by decide)]
                      have w_97 : Int32.toInt (q_65.1 0 18) = Int32.toInt (q_62.1 0 18) := by rw [a_71.2 18 (by decide)]
                      refine dOk_G (dg_ok (show 0 ≤ Int32.toInt (q_65.1 0 18) by omega) (show Int32.toInt (q_65.1 0 18) < ((401 : Nat) : Int) by omega)) ?_
                      have n_98 : ((Int32.toNatClampNeg (q_65.1 0 18) : Nat) : Int) = Int32.toInt (q_65.1 0 18) := cl_eq (by omega)
                      refine dOk_L (fun v_99 ev_99 => ?_)
                      refine dOk_le (A := Int32.toInt v_99) (B := 1000000) rfl (by decide) (fun c_100 => ?_) (fun c_101 => ?_)
                      · refine dOk_G (dg_ok (show 0 ≤ Int32.toInt (q_65.1 0 18) by omega) (show Int32.toInt (q_65.1 0 18) < ((401 : Nat) : Int) by omega)) ?_
                        refine dOk_L (fun v_102 ev_102 => ?_)
                        have w_103 : Int32.toInt v_102 = Int32.toInt v_99 := by rw [ev_102, ev_99]
                        refine dOk_G (dg_ok (show 0 ≤ Int32.toInt x5_69 by omega) (show Int32.toInt x5_69 < ((400 : Nat) : Int) by omega)) ?_
                        have n_104 : ((Int32.toNatClampNeg x5_69 : Nat) : Int) = Int32.toInt x5_69 := cl_eq (by omega)
                        refine dOk_L (fun v_105 ev_105 => ?_)
                        unfold zX10_splits_240
                        refine dOk_G (dg_ok (show 0 ≤ Int32.toInt (q_65.1 0 18) by omega) (show Int32.toInt (q_65.1 0 18) < ((401 : Nat) : Int) by omega)) ?_
                        refine dOk_L (fun q_106 eq_106 => ?_)
                        have hTq_106 : TS q_106 := by rw [eq_106]; exact ts_any a_70 rfl
                        have hFq_106 : dFr [9, 10, 11] [18] q q_106 := by rw [eq_106]; exact hFq_65.i (by decide) (by decide)
                        try have t_107 : Int32.toInt (x5_69 + 1) = Int32.toInt x5_69 + 1 := ti_add rfl (by decide) (by omega) (by omega)
                        exact hk_63 (q_106, p1, v_26, (x2_6 + 1), (x5_69 + 1)) (show (TS q_106) ∧ (dFr [10] [] q_62 q_106) ∧ (p1 = p1) ∧ (v_26 = v_26) ∧ ((x2_6 + 1) = (x2_6 + 1)) ∧ (0 ≤ Int32.toInt (x5_69 + 1)) ∧ (Int32.toInt (x5_69 + 1) ≤ Int32.toInt (x2_6 + 1)) from ⟨hTq_106, (by rw [eq_106]; exact (((dFr.rf : dFr [10] [] q_62 q_62).t a_71 (by decide) (by decide)) : dFr [10] [] q_62 q_65).i (by decide) (by decide)), rfl, rfl, rfl, by omega, by omega⟩) (show (Int32.toInt (x2_6 + 1) - Int32.toInt (x5_69 + 1)).toNat < (Int32.toInt (x2_6 + 1) - Int32.toInt x5_69).toNat by omega)
                      · refine dOk_G (dg_ok (show 0 ≤ Int32.toInt (q_65.1 0 18) by omega) (show Int32.toInt (q_65.1 0 18) < ((401 : Nat) : Int) by omega)) ?_
                        refine dOk_L (fun v_108 ev_108 => ?_)
                        have w_109 : Int32.toInt v_108 = Int32.toInt v_99 := by rw [ev_108, ev_99]
                        unfold zX10_splits_240
                        refine dOk_G (dg_ok (show 0 ≤ Int32.toInt (q_65.1 0 18) by omega) (show Int32.toInt (q_65.1 0 18) < ((401 : Nat) : Int) by omega)) ?_
                        refine dOk_L (fun q_110 eq_110 => ?_)
                        have hTq_110 : TS q_110 := by rw [eq_110]; exact ts_any a_70 rfl
                        have hFq_110 : dFr [9, 10, 11] [18] q q_110 := by rw [eq_110]; exact hFq_65.i (by decide) (by decide)
                        try have t_111 : Int32.toInt (x5_69 + 1) = Int32.toInt x5_69 + 1 := ti_add rfl (by decide) (by omega) (by omega)
                        exact hk_63 (q_110, p1, v_26, (x2_6 + 1), (x5_69 + 1)) (show (TS q_110) ∧ (dFr [10] [] q_62 q_110) ∧ (p1 = p1) ∧ (v_26 = v_26) ∧ ((x2_6 + 1) = (x2_6 + 1)) ∧ (0 ≤ Int32.toInt (x5_69 + 1)) ∧ (Int32.toInt (x5_69 + 1) ≤ Int32.toInt (x2_6 + 1)) from ⟨hTq_110, (by rw [eq_110]; exact (((dFr.rf : dFr [10] [] q_62 q_62).t a_71 (by decide) (by decide)) : dFr [10] [] q_62 q_65).i (by decide) (by decide)), rfl, rfl, rfl, by omega, by omega⟩) (show (Int32.toInt (x2_6 + 1) - Int32.toInt (x5_69 + 1)).toNat < (Int32.toInt (x2_6 + 1) - Int32.toInt x5_69).toNat by omega)
                · try have t_112 : Int32.toInt (x2_6 + 1) = Int32.toInt x2_6 + 1 := ti_add rfl (by decide) (by omega) (by omega)
                  exact (show (TS q_62) ∧ (dFr [10] [] q_62 q_62) ∧ (p1 = p1) ∧ (v_26 = v_26) ∧ ((x2_6 + 1) = (x2_6 + 1)) ∧ (0 ≤ Int32.toInt x2_6) ∧ (Int32.toInt x2_6 ≤ Int32.toInt (x2_6 + 1)) from ⟨hTq_62, dFr.rf, rfl, rfl, rfl, by omega, by omega⟩)
                · try have t_113 : Int32.toInt (x2_6 + 1) = Int32.toInt x2_6 + 1 := ti_add rfl (by decide) (by omega) (by omega)
                  show (Int32.toInt (x2_6 + 1) - Int32.toInt x2_6).toNat < 1000000000000
                  omega
              · unfold zX10_splits_165
                try have w_114 : Int32.toInt (q_47.1 0 18) = Int32.toInt (q_44.1 0 18) := by rw [eq_47, dui_o (by decide)]
                refine dOk_G (dg_ok (show 0 ≤ Int32.toInt (q_47.1 0 18) by omega) (show Int32.toInt (q_47.1 0 18) < ((401 : Nat) : Int) by omega)) ?_
                have n_115 : ((Int32.toNatClampNeg (q_47.1 0 18) : Nat) : Int) = Int32.toInt (q_47.1 0 18) := cl_eq (by omega)
                refine dOk_L (fun q_116 eq_116 => ?_)
                have hTq_116 : TS q_116 := by rw [eq_116]; exact ts_any hTq_47 rfl
                have hFq_116 : dFr [9, 10, 11] [18] q q_116 := by rw [eq_116]; exact hFq_47.i (by decide) (by decide)
                unfold zX10_splits_169
                refine dFix_ok (fun (a : dS × Int32 × Int32 × Int32 × Int32) => (TS a.1) ∧ (dFr [10] [] q_116 a.1) ∧ (a.2.1 = p1) ∧ (a.2.2.1 = v_26) ∧ (a.2.2.2.1 = (x2_6 + 1)) ∧ (0 ≤ Int32.toInt a.2.2.2.2) ∧ (Int32.toInt a.2.2.2.2 ≤ Int32.toInt a.2.2.2.1)) (fun (a : dS × Int32 × Int32 × Int32 × Int32) => (Int32.toInt a.2.2.2.1 - Int32.toInt a.2.2.2.2).toNat) ?_ _ ?_ _ (dF_gt ?_)
                · intro a ha k_118 hk_117
                  obtain ⟨q_119, x1_120, x3_121, x4_122, x5_123⟩ := a
                  replace ha : (TS q_119) ∧ (dFr [10] [] q_116 q_119) ∧ (x1_120 = p1) ∧ (x3_121 = v_26) ∧ (x4_122 = (x2_6 + 1)) ∧ (0 ≤ Int32.toInt x5_123) ∧ (Int32.toInt x5_123 ≤ Int32.toInt x4_122) := ha
                  obtain ⟨a_124, a_125, a_126, a_127, a_128, a_129, a_130⟩ := ha
                  show dOk (zX10_splits_169b _ (fun q x1 x3 x4 x5 => k_118 (q, x1, x3, x4, x5)) q_119 x1_120 x3_121 x4_122 x5_123) _
                  unfold zX10_splits_169b
                  have hFq_119 : dFr [9, 10, 11] [18] q q_119 := hFq_116.t a_125 (by decide) (by decide)
                  subst x1_120
                  subst x3_121
                  subst x4_122
                  try have t_131 : Int32.toInt (x2_6 + 1) = Int32.toInt x2_6 + 1 := ti_add rfl (by decide) (by omega) (by omega)
                  refine dOk_le (A := Int32.toInt (x2_6 + 1)) (B := Int32.toInt x5_123) rfl rfl (fun c_132 => ?_) (fun c_133 => ?_)
                  · unfold zX10_splits_247
                    refine dOk_L (fun q_134 eq_134 => ?_)
                    try have w_135 : Int32.toInt (q_116.1 0 18) = Int32.toInt (q_47.1 0 18) := by rw [eq_116, dui_o (by decide)]
                    have w_136 : Int32.toInt (q_119.1 0 18) = Int32.toInt (q_116.1 0 18) := by rw [a_125.2 18 (by decide)]
                    try have t_137 : Int32.toInt (q_119.1 0 18 + 1) = Int32.toInt (q_119.1 0 18) + 1 := ti_add rfl (by decide) (by omega) (by omega)
                    have hTq_134 : TS q_134 := by rw [eq_134]; exact ts_f a_124 (ti_rg _).1 (ti_rg _).2
                    have hFq_134 : dFr [9, 10, 11] [18] q q_134 := by rw [eq_134]; exact hFq_119.f (by decide)
                    have w_138 : Int32.toInt (q_134.1 0 18) = Int32.toInt (q_119.1 0 18 + 1) := by rw [eq_134, dui_e]
                    exact hk_2 (q_134, p1, (x2_6 + 1)) (show (TS q_134) ∧ (dFr [9, 10, 11] [18] q_1 q_134) ∧ (p1 = p1) ∧ (0 ≤ Int32.toInt (x2_6 + 1)) ∧ (Int32.toInt (x2_6 + 1) ≤ Int32.toInt p1) ∧ (0 ≤ Int32.toInt (q_134.1 0 18)) ∧ (Int32.toInt (q_134.1 0 18) ≤ Int32.toInt (x2_6 + 1)) from ⟨hTq_134, (by rw [eq_134]; exact ((((by rw [eq_116]; exact ((by rw [eq_47]; exact ((by rw [eq_44]; exact (((dFr.rf : dFr [9, 10, 11] [18] q_1 q_1).t a_8 (by decide) (by decide)) : dFr [9, 10, 11] [18] q_1 q_4).i (by decide) (by decide)) : dFr [9, 10, 11] [18] q_1 q_44).i (by decide) (by decide)) : dFr [9, 10, 11] [18] q_1 q_47).i (by decide) (by decide)) : dFr [9, 10, 11] [18] q_1 q_116).t a_125 (by decide) (by decide)) : dFr [9, 10, 11] [18] q_1 q_119).f (by decide)), rfl, by omega, by omega, by omega, by omega⟩) (show (Int32.toInt p1 - Int32.toInt (x2_6 + 1)).toNat < (Int32.toInt p1 - Int32.toInt x2_6).toNat by omega)
                  · refine dOk_V (ok_isDigit v_26) (fun r_139 h_140 => ?_)
                    replace h_140 : ((Int32.toInt r_139 = 1 ∧ 48 ≤ Int32.toInt v_26 ∧ Int32.toInt v_26 ≤ 57) ∨ (Int32.toInt r_139 = 0 ∧ (Int32.toInt v_26 < 48 ∨ 57 < Int32.toInt v_26))) := h_140
                    have i_141 := h_140
                    refine dOk_eq (A := Int32.toInt r_139) (B := 0) rfl (by decide) (fun c_142z c_142 => ?_) (fun c_143z c_143 => ?_)
                    · unfold zX10_splits_247
                      refine dOk_L (fun q_145 eq_145 => ?_)
                      try have w_146 : Int32.toInt (q_116.1 0 18) = Int32.toInt (q_47.1 0 18) := by rw [eq_116, dui_o (by decide)]
                      have w_147 : Int32.toInt (q_119.1 0 18) = Int32.toInt (q_116.1 0 18) := by rw [a_125.2 18 (by decide)]
                      try have t_148 : Int32.toInt (q_119.1 0 18 + 1) = Int32.toInt (q_119.1 0 18) + 1 := ti_add rfl (by decide) (by omega) (by omega)
                      have hTq_145 : TS q_145 := by rw [eq_145]; exact ts_f a_124 (ti_rg _).1 (ti_rg _).2
                      have hFq_145 : dFr [9, 10, 11] [18] q q_145 := by rw [eq_145]; exact hFq_119.f (by decide)
                      have w_149 : Int32.toInt (q_145.1 0 18) = Int32.toInt (q_119.1 0 18 + 1) := by rw [eq_145, dui_e]
                      exact hk_2 (q_145, p1, (x2_6 + 1)) (show (TS q_145) ∧ (dFr [9, 10, 11] [18] q_1 q_145) ∧ (p1 = p1) ∧ (0 ≤ Int32.toInt (x2_6 + 1)) ∧ (Int32.toInt (x2_6 + 1) ≤ Int32.toInt p1) ∧ (0 ≤ Int32.toInt (q_145.1 0 18)) ∧ (Int32.toInt (q_145.1 0 18) ≤ Int32.toInt (x2_6 + 1)) from ⟨hTq_145, (by rw [eq_145]; exact ((((by rw [eq_116]; exact ((by rw [eq_47]; exact ((by rw [eq_44]; exact (((dFr.rf : dFr [9, 10, 11] [18] q_1 q_1).t a_8 (by decide) (by decide)) : dFr [9, 10, 11] [18] q_1 q_4).i (by decide) (by decide)) : dFr [9, 10, 11] [18] q_1 q_44).i (by decide) (by decide)) : dFr [9, 10, 11] [18] q_1 q_47).i (by decide) (by decide)) : dFr [9, 10, 11] [18] q_1 q_116).t a_125 (by decide) (by decide)) : dFr [9, 10, 11] [18] q_1 q_119).f (by decide)), rfl, by omega, by omega, by omega, by omega⟩) (show (Int32.toInt p1 - Int32.toInt (x2_6 + 1)).toNat < (Int32.toInt p1 - Int32.toInt x2_6).toNat by omega)
                    · try have w_150 : Int32.toInt (q_116.1 0 18) = Int32.toInt (q_47.1 0 18) := by rw [eq_116, dui_o (by decide)]
                      have w_151 : Int32.toInt (q_119.1 0 18) = Int32.toInt (q_116.1 0 18) := by rw [a_125.2 18 (by decide)]
                      refine dOk_G (dg_ok (show 0 ≤ Int32.toInt (q_119.1 0 18) by omega) (show Int32.toInt (q_119.1 0 18) < ((401 : Nat) : Int) by omega)) ?_
                      have n_152 : ((Int32.toNatClampNeg (q_119.1 0 18) : Nat) : Int) = Int32.toInt (q_119.1 0 18) := cl_eq (by omega)
                      refine dOk_L (fun v_153 ev_153 => ?_)
                      refine dOk_le (A := Int32.toInt v_153) (B := 1000000) rfl (by decide) (fun c_154 => ?_) (fun c_155 => ?_)
                      · refine dOk_G (dg_ok (show 0 ≤ Int32.toInt (q_119.1 0 18) by omega) (show Int32.toInt (q_119.1 0 18) < ((401 : Nat) : Int) by omega)) ?_
                        refine dOk_L (fun v_156 ev_156 => ?_)
                        have w_157 : Int32.toInt v_156 = Int32.toInt v_153 := by rw [ev_156, ev_153]
                        refine dOk_G (dg_ok (show 0 ≤ Int32.toInt x5_123 by omega) (show Int32.toInt x5_123 < ((400 : Nat) : Int) by omega)) ?_
                        have n_158 : ((Int32.toNatClampNeg x5_123 : Nat) : Int) = Int32.toInt x5_123 := cl_eq (by omega)
                        refine dOk_L (fun v_159 ev_159 => ?_)
                        unfold zX10_splits_240
                        refine dOk_G (dg_ok (show 0 ≤ Int32.toInt (q_119.1 0 18) by omega) (show Int32.toInt (q_119.1 0 18) < ((401 : Nat) : Int) by omega)) ?_
                        refine dOk_L (fun q_160 eq_160 => ?_)
                        have hTq_160 : TS q_160 := by rw [eq_160]; exact ts_any a_124 rfl
                        have hFq_160 : dFr [9, 10, 11] [18] q q_160 := by rw [eq_160]; exact hFq_119.i (by decide) (by decide)
                        try have t_161 : Int32.toInt (x5_123 + 1) = Int32.toInt x5_123 + 1 := ti_add rfl (by decide) (by omega) (by omega)
                        exact hk_117 (q_160, p1, v_26, (x2_6 + 1), (x5_123 + 1)) (show (TS q_160) ∧ (dFr [10] [] q_116 q_160) ∧ (p1 = p1) ∧ (v_26 = v_26) ∧ ((x2_6 + 1) = (x2_6 + 1)) ∧ (0 ≤ Int32.toInt (x5_123 + 1)) ∧ (Int32.toInt (x5_123 + 1) ≤ Int32.toInt (x2_6 + 1)) from ⟨hTq_160, (by rw [eq_160]; exact (((dFr.rf : dFr [10] [] q_116 q_116).t a_125 (by decide) (by decide)) : dFr [10] [] q_116 q_119).i (by decide) (by decide)), rfl, rfl, rfl, by omega, by omega⟩) (show (Int32.toInt (x2_6 + 1) - Int32.toInt (x5_123 + 1)).toNat < (Int32.toInt (x2_6 + 1) - Int32.toInt x5_123).toNat by omega)
                      · refine dOk_G (dg_ok (show 0 ≤ Int32.toInt (q_119.1 0 18) by omega) (show Int32.toInt (q_119.1 0 18) < ((401 : Nat) : Int) by omega)) ?_
                        refine dOk_L (fun v_162 ev_162 => ?_)
                        have w_163 : Int32.toInt v_162 = Int32.toInt v_153 := by rw [ev_162, ev_153]
                        unfold zX10_splits_240
                        refine dOk_G (dg_ok (show 0 ≤ Int32.toInt (q_119.1 0 18) by omega) (show Int32.toInt (q_119.1 0 18) < ((401 : Nat) : Int) by omega)) ?_
                        refine dOk_L (fun q_164 eq_164 => ?_)
                        have hTq_164 : TS q_164 := by rw [eq_164]; exact ts_any a_124 rfl
                        have hFq_164 : dFr [9, 10, 11] [18] q q_164 := by rw [eq_164]; exact hFq_119.i (by decide) (by decide)
                        try have t_165 : Int32.toInt (x5_123 + 1) = Int32.toInt x5_123 + 1 := ti_add rfl (by decide) (by omega) (by omega)
                        exact hk_117 (q_164, p1, v_26, (x2_6 + 1), (x5_123 + 1)) (show (TS q_164) ∧ (dFr [10] [] q_116 q_164) ∧ (p1 = p1) ∧ (v_26 = v_26) ∧ ((x2_6 + 1) = (x2_6 + 1)) ∧ (0 ≤ Int32.toInt (x5_123 + 1)) ∧ (Int32.toInt (x5_123 + 1) ≤ Int32.toInt (x2_6 + 1)) from ⟨hTq_164, (by rw [eq_164]; exact (((dFr.rf : dFr [10] [] q_116 q_116).t a_125 (by decide) (by decide)) : dFr [10] [] q_116 q_119).i (by decide) (by decide)), rfl, rfl, rfl, by omega, by omega⟩) (show (Int32.toInt (x2_6 + 1) - Int32.toInt (x5_123 + 1)).toNat < (Int32.toInt (x2_6 + 1) - Int32.toInt x5_123).toNat by omega)
                · try have t_166 : Int32.toInt (x2_6 + 1) = Int32.toInt x2_6 + 1 := ti_add rfl (by decide) (by omega) (by omega)
                  exact (show (TS q_116) ∧ (dFr [10] [] q_116 q_116) ∧ (p1 = p1) ∧ (v_26 = v_26) ∧ ((x2_6 + 1) = (x2_6 + 1)) ∧ (0 ≤ Int32.toInt x2_6) ∧ (Int32.toInt x2_6 ≤ Int32.toInt (x2_6 + 1)) from ⟨hTq_116, dFr.rf, rfl, rfl, rfl, by omega, by omega⟩)
                · try have t_167 : Int32.toInt (x2_6 + 1) = Int32.toInt x2_6 + 1 := ti_add rfl (by decide) (by omega) (by omega)
                  show (Int32.toInt (x2_6 + 1) - Int32.toInt x2_6).toNat < 1000000000000
                  omega
            · try have t_168 : Int32.toInt (x2_6 + 1) = Int32.toInt x2_6 + 1 := ti_add rfl (by decide) (by omega) (by omega)
              refine dOk_B (ok_wordOf q_47 x2_6 (x2_6 + 1) hTq_47 (show 0 ≤ Int32.toInt x2_6 by omega) (show Int32.toInt x2_6 < Int32.toInt (x2_6 + 1) by omega) (show Int32.toInt (x2_6 + 1) ≤ 400 by omega)) (fun r_169 q_170 h_171 => ?_)
              replace h_171 : (q_170 = q_47) := h_171
              have i_172 := h_171
              subst q_170
              unfold zX10_splits_165
              try have w_173 : Int32.toInt (q_47.1 0 18) = Int32.toInt (q_44.1 0 18) := by rw [eq_47, dui_o (by decide)]
              refine dOk_G (dg_ok (show 0 ≤ Int32.toInt (q_47.1 0 18) by omega) (show Int32.toInt (q_47.1 0 18) < ((401 : Nat) : Int) by omega)) ?_
              have n_174 : ((Int32.toNatClampNeg (q_47.1 0 18) : Nat) : Int) = Int32.toInt (q_47.1 0 18) := cl_eq (by omega)
              refine dOk_L (fun q_175 eq_175 => ?_)
              have hTq_175 : TS q_175 := by rw [eq_175]; exact ts_any hTq_47 rfl
              have hFq_175 : dFr [9, 10, 11] [18] q q_175 := by rw [eq_175]; exact hFq_47.i (by decide) (by decide)
              unfold zX10_splits_169
              refine dFix_ok (fun (a : dS × Int32 × Int32 × Int32 × Int32) => (TS a.1) ∧ (dFr [10] [] q_175 a.1) ∧ (a.2.1 = p1) ∧ (a.2.2.1 = v_26) ∧ (a.2.2.2.1 = (x2_6 + 1)) ∧ (0 ≤ Int32.toInt a.2.2.2.2) ∧ (Int32.toInt a.2.2.2.2 ≤ Int32.toInt a.2.2.2.1)) (fun (a : dS × Int32 × Int32 × Int32 × Int32) => (Int32.toInt a.2.2.2.1 - Int32.toInt a.2.2.2.2).toNat) ?_ _ ?_ _ (dF_gt ?_)
              · intro a ha k_177 hk_176
                obtain ⟨q_178, x1_179, x3_180, x4_181, x5_182⟩ := a
                replace ha : (TS q_178) ∧ (dFr [10] [] q_175 q_178) ∧ (x1_179 = p1) ∧ (x3_180 = v_26) ∧ (x4_181 = (x2_6 + 1)) ∧ (0 ≤ Int32.toInt x5_182) ∧ (Int32.toInt x5_182 ≤ Int32.toInt x4_181) := ha
                obtain ⟨a_183, a_184, a_185, a_186, a_187, a_188, a_189⟩ := ha
                show dOk (zX10_splits_169b _ (fun q x1 x3 x4 x5 => k_177 (q, x1, x3, x4, x5)) q_178 x1_179 x3_180 x4_181 x5_182) _
                unfold zX10_splits_169b
                have hFq_178 : dFr [9, 10, 11] [18] q q_178 := hFq_175.t a_184 (by decide) (by decide)
                subst x1_179
                subst x3_180
                subst x4_181
                refine dOk_le (A := Int32.toInt (x2_6 + 1)) (B := Int32.toInt x5_182) rfl rfl (fun c_190 => ?_) (fun c_191 => ?_)
                · unfold zX10_splits_247
                  refine dOk_L (fun q_192 eq_192 => ?_)
                  try have w_193 : Int32.toInt (q_175.1 0 18) = Int32.toInt (q_47.1 0 18) := by rw [eq_175, dui_o (by decide)]
                  have w_194 : Int32.toInt (q_178.1 0 18) = Int32.toInt (q_175.1 0 18) := by rw [a_184.2 18 (by decide)]
                  try have t_195 : Int32.toInt (q_178.1 0 18 + 1) = Int32.toInt (q_178.1 0 18) + 1 := ti_add rfl (by decide) (by omega) (by omega)
                  have hTq_192 : TS q_192 := by rw [eq_192]; exact ts_f a_183 (ti_rg _).1 (ti_rg _).2
                  have hFq_192 : dFr [9, 10, 11] [18] q q_192 := by rw [eq_192]; exact hFq_178.f (by decide)
                  have w_196 : Int32.toInt (q_192.1 0 18) = Int32.toInt (q_178.1 0 18 + 1) := by rw [eq_192, dui_e]
                  exact hk_2 (q_192, p1, (x2_6 + 1)) (show (TS q_192) ∧ (dFr [9, 10, 11] [18] q_1 q_192) ∧ (p1 = p1) ∧ (0 ≤ Int32.toInt (x2_6 + 1)) ∧ (Int32.toInt (x2_6 + 1) ≤ Int32.toInt p1) ∧ (0 ≤ Int32.toInt (q_192.1 0 18)) ∧ (Int32.toInt (q_192.1 0 18) ≤ Int32.toInt (x2_6 + 1)) from ⟨hTq_192, (by rw [eq_192]; exact ((((by rw [eq_175]; exact ((by rw [eq_47]; exact ((by rw [eq_44]; exact (((dFr.rf : dFr [9, 10, 11] [18] q_1 q_1).t a_8 (by decide) (by decide)) : dFr [9, 10, 11] [18] q_1 q_4).i (by decide) (by decide)) : dFr [9, 10, 11] [18] q_1 q_44).i (by decide) (by decide)) : dFr [9, 10, 11] [18] q_1 q_47).i (by decide) (by decide)) : dFr [9, 10, 11] [18] q_1 q_175).t a_184 (by decide) (by decide)) : dFr [9, 10, 11] [18] q_1 q_178).f (by decide)), rfl, by omega, by omega, by omega, by omega⟩) (show (Int32.toInt p1 - Int32.toInt (x2_6 + 1)).toNat < (Int32.toInt p1 - Int32.toInt x2_6).toNat by omega)
                · refine dOk_V (ok_isDigit v_26) (fun r_197 h_198 => ?_)
                  replace h_198 : ((Int32.toInt r_197 = 1 ∧ 48 ≤ Int32.toInt v_26 ∧ Int32.toInt v_26 ≤ 57) ∨ (Int32.toInt r_197 = 0 ∧ (Int32.toInt v_26 < 48 ∨ 57 < Int32.toInt v_26))) := h_198
                  have i_199 := h_198
                  refine dOk_eq (A := Int32.toInt r_197) (B := 0) rfl (by decide) (fun c_200z c_200 => ?_) (fun c_201z c_201 => ?_)
                  · unfold zX10_splits_247
                    refine dOk_L (fun q_203 eq_203 => ?_)
                    try have w_204 : Int32.toInt (q_175.1 0 18) = Int32.toInt (q_47.1 0 18) := by rw [eq_175, dui_o (by decide)]
                    have w_205 : Int32.toInt (q_178.1 0 18) = Int32.toInt (q_175.1 0 18) := by rw [a_184.2 18 (by decide)]
                    try have t_206 : Int32.toInt (q_178.1 0 18 + 1) = Int32.toInt (q_178.1 0 18) + 1 := ti_add rfl (by decide) (by omega) (by omega)
                    have hTq_203 : TS q_203 := by rw [eq_203]; exact ts_f a_183 (ti_rg _).1 (ti_rg _).2
                    have hFq_203 : dFr [9, 10, 11] [18] q q_203 := by rw [eq_203]; exact hFq_178.f (by decide)
                    have w_207 : Int32.toInt (q_203.1 0 18) = Int32.toInt (q_178.1 0 18 + 1) := by rw [eq_203, dui_e]
                    exact hk_2 (q_203, p1, (x2_6 + 1)) (show (TS q_203) ∧ (dFr [9, 10, 11] [18] q_1 q_203) ∧ (p1 = p1) ∧ (0 ≤ Int32.toInt (x2_6 + 1)) ∧ (Int32.toInt (x2_6 + 1) ≤ Int32.toInt p1) ∧ (0 ≤ Int32.toInt (q_203.1 0 18)) ∧ (Int32.toInt (q_203.1 0 18) ≤ Int32.toInt (x2_6 + 1)) from ⟨hTq_203, (by rw [eq_203]; exact ((((by rw [eq_175]; exact ((by rw [eq_47]; exact ((by rw [eq_44]; exact (((dFr.rf : dFr [9, 10, 11] [18] q_1 q_1).t a_8 (by decide) (by decide)) : dFr [9, 10, 11] [18] q_1 q_4).i (by decide) (by decide)) : dFr [9, 10, 11] [18] q_1 q_44).i (by decide) (by decide)) : dFr [9, 10, 11] [18] q_1 q_47).i (by decide) (by decide)) : dFr [9, 10, 11] [18] q_1 q_175).t a_184 (by decide) (by decide)) : dFr [9, 10, 11] [18] q_1 q_178).f (by decide)), rfl, by omega, by omega, by omega, by omega⟩) (show (Int32.toInt p1 - Int32.toInt (x2_6 + 1)).toNat < (Int32.toInt p1 - Int32.toInt x2_6).toNat by omega)
                  · try have w_208 : Int32.toInt (q_175.1 0 18) = Int32.toInt (q_47.1 0 18) := by rw [eq_175, dui_o (by decide)]
                    have w_209 : Int32.toInt (q_178.1 0 18) = Int32.toInt (q_175.1 0 18) := by rw [a_184.2 18 (by decide)]
                    refine dOk_G (dg_ok (show 0 ≤ Int32.toInt (q_178.1 0 18) by omega) (show Int32.toInt (q_178.1 0 18) < ((401 : Nat) : Int) by omega)) ?_
                    have n_210 : ((Int32.toNatClampNeg (q_178.1 0 18) : Nat) : Int) = Int32.toInt (q_178.1 0 18) := cl_eq (by omega)
                    refine dOk_L (fun v_211 ev_211 => ?_)
                    refine dOk_le (A := Int32.toInt v_211) (B := 1000000) rfl (by decide) (fun c_212 => ?_) (fun c_213 => ?_)
                    · refine dOk_G (dg_ok (show 0 ≤ Int32.toInt (q_178.1 0 18) by omega) (show Int32.toInt (q_178.1 0 18) < ((401 : Nat) : Int) by omega)) ?_
                      refine dOk_L (fun v_214 ev_214 => ?_)
                      have w_215 : Int32.toInt v_214 = Int32.toInt v_211 := by rw [ev_214, ev_211]
                      refine dOk_G (dg_ok (show 0 ≤ Int32.toInt x5_182 by omega) (show Int32.toInt x5_182 < ((400 : Nat) : Int) by omega)) ?_
                      have n_216 : ((Int32.toNatClampNeg x5_182 : Nat) : Int) = Int32.toInt x5_182 := cl_eq (by omega)
                      refine dOk_L (fun v_217 ev_217 => ?_)
                      unfold zX10_splits_240
                      refine dOk_G (dg_ok (show 0 ≤ Int32.toInt (q_178.1 0 18) by omega) (show Int32.toInt (q_178.1 0 18) < ((401 : Nat) : Int) by omega)) ?_
                      refine dOk_L (fun q_218 eq_218 => ?_)
                      have hTq_218 : TS q_218 := by rw [eq_218]; exact ts_any a_183 rfl
                      have hFq_218 : dFr [9, 10, 11] [18] q q_218 := by rw [eq_218]; exact hFq_178.i (by decide) (by decide)
                      try have t_219 : Int32.toInt (x5_182 + 1) = Int32.toInt x5_182 + 1 := ti_add rfl (by decide) (by omega) (by omega)
                      exact hk_176 (q_218, p1, v_26, (x2_6 + 1), (x5_182 + 1)) (show (TS q_218) ∧ (dFr [10] [] q_175 q_218) ∧ (p1 = p1) ∧ (v_26 = v_26) ∧ ((x2_6 + 1) = (x2_6 + 1)) ∧ (0 ≤ Int32.toInt (x5_182 + 1)) ∧ (Int32.toInt (x5_182 + 1) ≤ Int32.toInt (x2_6 + 1)) from ⟨hTq_218, (by rw [eq_218]; exact (((dFr.rf : dFr [10] [] q_175 q_175).t a_184 (by decide) (by decide)) : dFr [10] [] q_175 q_178).i (by decide) (by decide)), rfl, rfl, rfl, by omega, by omega⟩) (show (Int32.toInt (x2_6 + 1) - Int32.toInt (x5_182 + 1)).toNat < (Int32.toInt (x2_6 + 1) - Int32.toInt x5_182).toNat by omega)
                    · refine dOk_G (dg_ok (show 0 ≤ Int32.toInt (q_178.1 0 18) by omega) (show Int32.toInt (q_178.1 0 18) < ((401 : Nat) : Int) by omega)) ?_
                      refine dOk_L (fun v_220 ev_220 => ?_)
                      have w_221 : Int32.toInt v_220 = Int32.toInt v_211 := by rw [ev_220, ev_211]
                      unfold zX10_splits_240
                      refine dOk_G (dg_ok (show 0 ≤ Int32.toInt (q_178.1 0 18) by omega) (show Int32.toInt (q_178.1 0 18) < ((401 : Nat) : Int) by omega)) ?_
                      refine dOk_L (fun q_222 eq_222 => ?_)
                      have hTq_222 : TS q_222 := by rw [eq_222]; exact ts_any a_183 rfl
                      have hFq_222 : dFr [9, 10, 11] [18] q q_222 := by rw [eq_222]; exact hFq_178.i (by decide) (by decide)
                      try have t_223 : Int32.toInt (x5_182 + 1) = Int32.toInt x5_182 + 1 := ti_add rfl (by decide) (by omega) (by omega)
                      exact hk_176 (q_222, p1, v_26, (x2_6 + 1), (x5_182 + 1)) (show (TS q_222) ∧ (dFr [10] [] q_175 q_222) ∧ (p1 = p1) ∧ (v_26 = v_26) ∧ ((x2_6 + 1) = (x2_6 + 1)) ∧ (0 ≤ Int32.toInt (x5_182 + 1)) ∧ (Int32.toInt (x5_182 + 1) ≤ Int32.toInt (x2_6 + 1)) from ⟨hTq_222, (by rw [eq_222]; exact (((dFr.rf : dFr [10] [] q_175 q_175).t a_184 (by decide) (by decide)) : dFr [10] [] q_175 q_178).i (by decide) (by decide)), rfl, rfl, rfl, by omega, by omega⟩) (show (Int32.toInt (x2_6 + 1) - Int32.toInt (x5_182 + 1)).toNat < (Int32.toInt (x2_6 + 1) - Int32.toInt x5_182).toNat by omega)
              · exact (show (TS q_175) ∧ (dFr [10] [] q_175 q_175) ∧ (p1 = p1) ∧ (v_26 = v_26) ∧ ((x2_6 + 1) = (x2_6 + 1)) ∧ (0 ≤ Int32.toInt x2_6) ∧ (Int32.toInt x2_6 ≤ Int32.toInt (x2_6 + 1)) from ⟨hTq_175, dFr.rf, rfl, rfl, rfl, by omega, by omega⟩)
              · show (Int32.toInt (x2_6 + 1) - Int32.toInt x2_6).toNat < 1000000000000
                omega
          · unfold zX10_splits_75
            refine dFix_ok (fun (a : dS × Int32 × Int32 × Int32 × Int32) => (a.1 = q_4) ∧ (a.2.1 = p1) ∧ (a.2.2.1 = x2_6) ∧ (a.2.2.2.1 = v_26) ∧ (Int32.toInt a.2.2.1 + 1 ≤ Int32.toInt a.2.2.2.2) ∧ (Int32.toInt a.2.2.2.2 ≤ Int32.toInt a.2.1)) (fun (a : dS × Int32 × Int32 × Int32 × Int32) => (Int32.toInt a.2.1 - Int32.toInt a.2.2.2.2).toNat) ?_ _ ?_ _ (dF_gt ?_)
            · intro a ha k_225 hk_224
              obtain ⟨q_226, x1_227, x2_228, x3_229, x4_230⟩ := a
              replace ha : (q_226 = q_4) ∧ (x1_227 = p1) ∧ (x2_228 = x2_6) ∧ (x3_229 = v_26) ∧ (Int32.toInt x2_228 + 1 ≤ Int32.toInt x4_230) ∧ (Int32.toInt x4_230 ≤ Int32.toInt x1_227) := ha
              obtain ⟨a_231, a_232, a_233, a_234, a_235, a_236⟩ := ha
              show dOk (zX10_splits_75b _ (fun q x1 x2 x3 x4 => k_225 (q, x1, x2, x3, x4)) q_226 x1_227 x2_228 x3_229 x4_230) _
              unfold zX10_splits_75b
              subst q_226
              subst x1_227
              subst x2_228
              subst x3_229
              refine dOk_le (A := Int32.toInt p1) (B := Int32.toInt x4_230) rfl rfl (fun c_237 => ?_) (fun c_238 => ?_)
              · unfold zX10_splits_100
                refine dOk_G (dg_ok (show 0 ≤ Int32.toInt (q_4.1 0 18) by omega) (show Int32.toInt (q_4.1 0 18) < ((401 : Nat) : Int) by omega)) ?_
                have n_239 : ((Int32.toNatClampNeg (q_4.1 0 18) : Nat) : Int) = Int32.toInt (q_4.1 0 18) := cl_eq (by omega)
                refine dOk_L (fun q_240 eq_240 => ?_)
                have hTq_240 : TS q_240 := by rw [eq_240]; exact ts_set a_7 (by decide) (show 0 ≤ Int32.toInt x2_6 by omega) (show Int32.toInt x2_6 ≤ 400 by omega)
                have hFq_240 : dFr [9, 10, 11] [18] q q_240 := by rw [eq_240]; exact hFq_4.i (by decide) (by decide)
                try have w_241 : Int32.toInt (q_240.1 0 18) = Int32.toInt (q_4.1 0 18) := by rw [eq_240, dui_o (by decide)]
                refine dOk_G (dg_ok (show 0 ≤ Int32.toInt (q_240.1 0 18) by omega) (show Int32.toInt (q_240.1 0 18) < ((401 : Nat) : Int) by omega)) ?_
                have n_242 : ((Int32.toNatClampNeg (q_240.1 0 18) : Nat) : Int) = Int32.toInt (q_240.1 0 18) := cl_eq (by omega)
                refine dOk_L (fun q_243 eq_243 => ?_)
                have hTq_243 : TS q_243 := by rw [eq_243]; exact ts_any hTq_240 rfl
                have hFq_243 : dFr [9, 10, 11] [18] q q_243 := by rw [eq_243]; exact hFq_240.i (by decide) (by decide)
                refine dOk_V (ok_isSmall v_26) (fun r_244 h_245 => ?_)
                replace h_245 : ((Int32.toInt r_244 = 1 ∧ 97 ≤ Int32.toInt v_26 ∧ Int32.toInt v_26 ≤ 122) ∨ (Int32.toInt r_244 = 0 ∧ (Int32.toInt v_26 < 97 ∨ 122 < Int32.toInt v_26))) := h_245
                have i_246 := h_245
                refine dOk_eq (A := Int32.toInt r_244) (B := 0) rfl (by decide) (fun c_247z c_247 => ?_) (fun c_248z c_248 => ?_)
                · refine dOk_V (ok_isDigit v_26) (fun r_250 h_251 => ?_)
                  replace h_251 : ((Int32.toInt r_250 = 1 ∧ 48 ≤ Int32.toInt v_26 ∧ Int32.toInt v_26 ≤ 57) ∨ (Int32.toInt r_250 = 0 ∧ (Int32.toInt v_26 < 48 ∨ 57 < Int32.toInt v_26))) := h_251
                  have i_252 := h_251
                  refine dOk_eq (A := Int32.toInt r_250) (B := 0) rfl (by decide) (fun c_253z c_253 => ?_) (fun c_254z c_254 => ?_)
                  · unfold zX10_splits_165
                    try have w_256 : Int32.toInt (q_243.1 0 18) = Int32.toInt (q_240.1 0 18) := by rw [eq_243, dui_o (by decide)]
                    refine dOk_G (dg_ok (show 0 ≤ Int32.toInt (q_243.1 0 18) by omega) (show Int32.toInt (q_243.1 0 18) < ((401 : Nat) : Int) by omega)) ?_
                    have n_257 : ((Int32.toNatClampNeg (q_243.1 0 18) : Nat) : Int) = Int32.toInt (q_243.1 0 18) := cl_eq (by omega)
                    refine dOk_L (fun q_258 eq_258 => ?_)
                    have hTq_258 : TS q_258 := by rw [eq_258]; exact ts_any hTq_243 rfl
                    have hFq_258 : dFr [9, 10, 11] [18] q q_258 := by rw [eq_258]; exact hFq_243.i (by decide) (by decide)
                    unfold zX10_splits_169
                    refine dFix_ok (fun (a : dS × Int32 × Int32 × Int32 × Int32) => (TS a.1) ∧ (dFr [10] [] q_258 a.1) ∧ (a.2.1 = p1) ∧ (a.2.2.1 = v_26) ∧ (a.2.2.2.1 = x4_230) ∧ (0 ≤ Int32.toInt a.2.2.2.2) ∧ (Int32.toInt a.2.2.2.2 ≤ Int32.toInt a.2.2.2.1)) (fun (a : dS × Int32 × Int32 × Int32 × Int32) => (Int32.toInt a.2.2.2.1 - Int32.toInt a.2.2.2.2).toNat) ?_ _ ?_ _ (dF_gt ?_)
                    · intro a ha k_260 hk_259
                      obtain ⟨q_261, x1_262, x3_263, x4_264, x5_265⟩ := a
                      replace ha : (TS q_261) ∧ (dFr [10] [] q_258 q_261) ∧ (x1_262 = p1) ∧ (x3_263 = v_26) ∧ (x4_264 = x4_230) ∧ (0 ≤ Int32.toInt x5_265) ∧ (Int32.toInt x5_265 ≤ Int32.toInt x4_264) := ha
                      obtain ⟨a_266, a_267, a_268, a_269, a_270, a_271, a_272⟩ := ha
                      show dOk (zX10_splits_169b _ (fun q x1 x3 x4 x5 => k_260 (q, x1, x3, x4, x5)) q_261 x1_262 x3_263 x4_264 x5_265) _
                      unfold zX10_splits_169b
                      have hFq_261 : dFr [9, 10, 11] [18] q q_261 := hFq_258.t a_267 (by decide) (by decide)
                      subst x1_262
                      subst x3_263
                      subst x4_264
                      refine dOk_le (A := Int32.toInt x4_230) (B := Int32.toInt x5_265) rfl rfl (fun c_273 => ?_) (fun c_274 => ?_)
                      · unfold zX10_splits_247
                        refine dOk_L (fun q_275 eq_275 => ?_)
                        try have w_276 : Int32.toInt (q_258.1 0 18) = Int32.toInt (q_243.1 0 18) := by rw [eq_258, dui_o (by decide)]
                        have w_277 : Int32.toInt (q_261.1 0 18) = Int32.toInt (q_258.1 0 18) := by rw [a_267.2 18 (by decide)]
                        try have t_278 : Int32.toInt (q_261.1 0 18 + 1) = Int32.toInt (q_261.1 0 18) + 1 := ti_add rfl (by decide) (by omega) (by omega)
                        have hTq_275 : TS q_275 := by rw [eq_275]; exact ts_f a_266 (ti_rg _).1 (ti_rg _).2
                        have hFq_275 : dFr [9, 10, 11] [18] q q_275 := by rw [eq_275]; exact hFq_261.f (by decide)
                        have w_279 : Int32.toInt (q_275.1 0 18) = Int32.toInt (q_261.1 0 18 + 1) := by rw [eq_275, dui_e]
                        exact hk_2 (q_275, p1, x4_230) (show (TS q_275) ∧ (dFr [9, 10, 11] [18] q_1 q_275) ∧ (p1 = p1) ∧ (0 ≤ Int32.toInt x4_230) ∧ (Int32.toInt x4_230 ≤ Int32.toInt p1) ∧ (0 ≤ Int32.toInt (q_275.1 0 18)) ∧ (Int32.toInt (q_275.1 0 18) ≤ Int32.toInt x4_230) from ⟨hTq_275, (by rw [eq_275]; exact ((((by rw [eq_258]; exact ((by rw [eq_243]; exact ((by rw [eq_240]; exact (((dFr.rf : dFr [9, 10, 11] [18] q_1 q_1).t a_8 (by decide) (by decide)) : dFr [9, 10, 11] [18] q_1 q_4).i (by decide) (by decide)) : dFr [9, 10, 11] [18] q_1 q_240).i (by decide) (by decide)) : dFr [9, 10, 11] [18] q_1 q_243).i (by decide) (by decide)) : dFr [9, 10, 11] [18] q_1 q_258).t a_267 (by decide) (by decide)) : dFr [9, 10, 11] [18] q_1 q_261).f (by decide)), rfl, by omega, by omega, by omega, by omega⟩) (show (Int32.toInt p1 - Int32.toInt x4_230).toNat < (Int32.toInt p1 - Int32.toInt x2_6).toNat by omega)
                      · refine dOk_V (ok_isDigit v_26) (fun r_280 h_281 => ?_)
                        replace h_281 : ((Int32.toInt r_280 = 1 ∧ 48 ≤ Int32.toInt v_26 ∧ Int32.toInt v_26 ≤ 57) ∨ (Int32.toInt r_280 = 0 ∧ (Int32.toInt v_26 < 48 ∨ 57 < Int32.toInt v_26))) := h_281
                        have i_282 := h_281
                        refine dOk_eq (A := Int32.toInt r_280) (B := 0) rfl (by decide) (fun c_283z c_283 => ?_) (fun c_284z c_284 => ?_)
                        · unfold zX10_splits_247
                          refine dOk_L (fun q_286 eq_286 => ?_)
                          try have w_287 : Int32.toInt (q_258.1 0 18) = Int32.toInt (q_243.1 0 18) := by rw [eq_258, dui_o (by decide)]
                          have w_288 : Int32.toInt (q_261.1 0 18) = Int32.toInt (q_258.1 0 18) := by rw [a_267.2 18 (by decide)]
                          try have t_289 : Int32.toInt (q_261.1 0 18 + 1) = Int32.toInt (q_261.1 0 18) + 1 := ti_add rfl (by decide) (by omega) (by omega)
                          have hTq_286 : TS q_286 := by rw [eq_286]; exact ts_f a_266 (ti_rg _).1 (ti_rg _).2
                          have hFq_286 : dFr [9, 10, 11] [18] q q_286 := by rw [eq_286]; exact hFq_261.f (by decide)
                          have w_290 : Int32.toInt (q_286.1 0 18) = Int32.toInt (q_261.1 0 18 + 1) := by rw [eq_286, dui_e]
                          exact hk_2 (q_286, p1, x4_230) (show (TS q_286) ∧ (dFr [9, 10, 11] [18] q_1 q_286) ∧ (p1 = p1) ∧ (0 ≤ Int32.toInt x4_230) ∧ (Int32.toInt x4_230 ≤ Int32.toInt p1) ∧ (0 ≤ Int32.toInt (q_286.1 0 18)) ∧ (Int32.toInt (q_286.1 0 18) ≤ Int32.toInt x4_230) from ⟨hTq_286, (by rw [eq_286]; exact ((((by rw [eq_258]; exact ((by rw [eq_243]; exact ((by rw [eq_240]; exact (((dFr.rf : dFr [9, 10, 11] [18] q_1 q_1).t a_8 (by decide) (by decide)) : dFr [9, 10, 11] [18] q_1 q_4).i (by decide) (by decide)) : dFr [9, 10, 11] [18] q_1 q_240).i (by decide) (by decide)) : dFr [9, 10, 11] [18] q_1 q_243).i (by decide) (by decide)) : dFr [9, 10, 11] [18] q_1 q_258).t a_267 (by decide) (by decide)) : dFr [9, 10, 11] [18] q_1 q_261).f (by decide)), rfl, by omega, by omega, by omega, by omega⟩) (show (Int32.toInt p1 - Int32.toInt x4_230).toNat < (Int32.toInt p1 - Int32.toInt x2_6).toNat by omega)
                        · try have w_291 : Int32.toInt (q_258.1 0 18) = Int32.toInt (q_243.1 0 18) := by rw [eq_258, dui_o (by decide)]
                          have w_292 : Int32.toInt (q_261.1 0 18) = Int32.toInt (q_258.1 0 18) := by rw [a_267.2 18 (by decide)]
                          refine dOk_G (dg_ok (show 0 ≤ Int32.toInt (q_261.1 0 18) by omega) (show Int32.toInt (q_261.1 0 18) < ((401 : Nat) : Int) by omega)) ?_
                          have n_293 : ((Int32.toNatClampNeg (q_261.1 0 18) : Nat) : Int) = Int32.toInt (q_261.1 0 18) := cl_eq (by omega)
                          refine dOk_L (fun v_294 ev_294 => ?_)
                          refine dOk_le (A := Int32.toInt v_294) (B := 1000000) rfl (by decide) (fun c_295 => ?_) (fun c_296 => ?_)
                          · refine dOk_G (dg_ok (show 0 ≤ Int32.toInt (q_261.1 0 18) by omega) (show Int32.toInt (q_261.1 0 18) < ((401 : Nat) : Int) by omega)) ?_
                            refine dOk_L (fun v_297 ev_297 => ?_)
                            have w_298 : Int32.toInt v_297 = Int32.toInt v_294 := by rw [ev_297, ev_294]
                            refine dOk_G (dg_ok (show 0 ≤ Int32.toInt x5_265 by omega) (show Int32.toInt x5_265 < ((400 : Nat) : Int) by omega)) ?_
                            have n_299 : ((Int32.toNatClampNeg x5_265 : Nat) : Int) = Int32.toInt x5_265 := cl_eq (by omega)
                            refine dOk_L (fun v_300 ev_300 => ?_)
                            unfold zX10_splits_240
                            refine dOk_G (dg_ok (show 0 ≤ Int32.toInt (q_261.1 0 18) by omega) (show Int32.toInt (q_261.1 0 18) < ((401 : Nat) : Int) by omega)) ?_
                            refine dOk_L (fun q_301 eq_301 => ?_)
                            have hTq_301 : TS q_301 := by rw [eq_301]; exact ts_any a_266 rfl
                            have hFq_301 : dFr [9, 10, 11] [18] q q_301 := by rw [eq_301]; exact hFq_261.i (by decide) (by decide)
                            try have t_302 : Int32.toInt (x5_265 + 1) = Int32.toInt x5_265 + 1 := ti_add rfl (by decide) (by omega) (by omega)
                            exact hk_259 (q_301, p1, v_26, x4_230, (x5_265 + 1)) (show (TS q_301) ∧ (dFr [10] [] q_258 q_301) ∧ (p1 = p1) ∧ (v_26 = v_26) ∧ (x4_230 = x4_230) ∧ (0 ≤ Int32.toInt (x5_265 + 1)) ∧ (Int32.toInt (x5_265 + 1) ≤ Int32.toInt x4_230) from ⟨hTq_301, (by rw [eq_301]; exact (((dFr.rf : dFr [10] [] q_258 q_258).t a_267 (by decide) (by decide)) : dFr [10] [] q_258 q_261).i (by decide) (by decide)), rfl, rfl, rfl, by omega, by omega⟩) (show (Int32.toInt x4_230 - Int32.toInt (x5_265 + 1)).toNat < (Int32.toInt x4_230 - Int32.toInt x5_265).toNat by omega)
                          · refine dOk_G (dg_ok (show 0 ≤ Int32.toInt (q_261.1 0 18) by omega) (show Int32.toInt (q_261.1 0 18) < ((401 : Nat) : Int) by omega)) ?_
                            refine dOk_L (fun v_303 ev_303 => ?_)
                            have w_304 : Int32.toInt v_303 = Int32.toInt v_294 := by rw [ev_303, ev_294]
                            unfold zX10_splits_240
                            refine dOk_G (dg_ok (show 0 ≤ Int32.toInt (q_261.1 0 18) by omega) (show Int32.toInt (q_261.1 0 18) < ((401 : Nat) : Int) by omega)) ?_
                            refine dOk_L (fun q_305 eq_305 => ?_)
                            have hTq_305 : TS q_305 := by rw [eq_305]; exact ts_any a_266 rfl
                            have hFq_305 : dFr [9, 10, 11] [18] q q_305 := by rw [eq_305]; exact hFq_261.i (by decide) (by decide)
                            try have t_306 : Int32.toInt (x5_265 + 1) = Int32.toInt x5_265 + 1 := ti_add rfl (by decide) (by omega) (by omega)
                            exact hk_259 (q_305, p1, v_26, x4_230, (x5_265 + 1)) (show (TS q_305) ∧ (dFr [10] [] q_258 q_305) ∧ (p1 = p1) ∧ (v_26 = v_26) ∧ (x4_230 = x4_230) ∧ (0 ≤ Int32.toInt (x5_265 + 1)) ∧ (Int32.toInt (x5_265 + 1) ≤ Int32.toInt x4_230) from ⟨hTq_305, (by rw [eq_305]; exact (((dFr.rf : dFr [10] [] q_258 q_258).t a_267 (by decide) (by decide)) : dFr [10] [] q_258 q_261).i (by decide) (by decide)), rfl, rfl, rfl, by omega, by omega⟩) (show (Int32.toInt x4_230 - Int32.toInt (x5_265 + 1)).toNat < (Int32.toInt x4_230 - Int32.toInt x5_265).toNat by omega)
                    · exact (show (TS q_258) ∧ (dFr [10] [] q_258 q_258) ∧ (p1 = p1) ∧ (v_26 = v_26) ∧ (x4_230 = x4_230) ∧ (0 ≤ Int32.toInt x2_6) ∧ (Int32.toInt x2_6 ≤ Int32.toInt x4_230) from ⟨hTq_258, dFr.rf, rfl, rfl, rfl, by omega, by omega⟩)
                    · show (Int32.toInt x4_230 - Int32.toInt x2_6).toNat < 1000000000000
                      omega
                  · unfold zX10_splits_165
                    try have w_307 : Int32.toInt (q_243.1 0 18) = Int32.toInt (q_240.1 0 18) := by rw [eq_243, dui_o (by decide)]
                    refine dOk_G (dg_ok (show 0 ≤ Int32.toInt (q_243.1 0 18) by omega) (show Int32.toInt (q_243.1 0 18) < ((401 : Nat) : Int) by omega)) ?_
                    have n_308 : ((Int32.toNatClampNeg (q_243.1 0 18) : Nat) : Int) = Int32.toInt (q_243.1 0 18) := cl_eq (by omega)
                    refine dOk_L (fun q_309 eq_309 => ?_)
                    have hTq_309 : TS q_309 := by rw [eq_309]; exact ts_any hTq_243 rfl
                    have hFq_309 : dFr [9, 10, 11] [18] q q_309 := by rw [eq_309]; exact hFq_243.i (by decide) (by decide)
                    unfold zX10_splits_169
                    refine dFix_ok (fun (a : dS × Int32 × Int32 × Int32 × Int32) => (TS a.1) ∧ (dFr [10] [] q_309 a.1) ∧ (a.2.1 = p1) ∧ (a.2.2.1 = v_26) ∧ (a.2.2.2.1 = x4_230) ∧ (0 ≤ Int32.toInt a.2.2.2.2) ∧ (Int32.toInt a.2.2.2.2 ≤ Int32.toInt a.2.2.2.1)) (fun (a : dS × Int32 × Int32 × Int32 × Int32) => (Int32.toInt a.2.2.2.1 - Int32.toInt a.2.2.2.2).toNat) ?_ _ ?_ _ (dF_gt ?_)
                    · intro a ha k_311 hk_310
                      obtain ⟨q_312, x1_313, x3_314, x4_315, x5_316⟩ := a
                      replace ha : (TS q_312) ∧ (dFr [10] [] q_309 q_312) ∧ (x1_313 = p1) ∧ (x3_314 = v_26) ∧ (x4_315 = x4_230) ∧ (0 ≤ Int32.toInt x5_316) ∧ (Int32.toInt x5_316 ≤ Int32.toInt x4_315) := ha
                      obtain ⟨a_317, a_318, a_319, a_320, a_321, a_322, a_323⟩ := ha
                      show dOk (zX10_splits_169b _ (fun q x1 x3 x4 x5 => k_311 (q, x1, x3, x4, x5)) q_312 x1_313 x3_314 x4_315 x5_316) _
                      unfold zX10_splits_169b
                      have hFq_312 : dFr [9, 10, 11] [18] q q_312 := hFq_309.t a_318 (by decide) (by decide)
                      subst x1_313
                      subst x3_314
                      subst x4_315
                      refine dOk_le (A := Int32.toInt x4_230) (B := Int32.toInt x5_316) rfl rfl (fun c_324 => ?_) (fun c_325 => ?_)
                      · unfold zX10_splits_247
                        refine dOk_L (fun q_326 eq_326 => ?_)
                        try have w_327 : Int32.toInt (q_309.1 0 18) = Int32.toInt (q_243.1 0 18) := by rw [eq_309, dui_o (by decide)]
                        have w_328 : Int32.toInt (q_312.1 0 18) = Int32.toInt (q_309.1 0 18) := by rw [a_318.2 18 (by decide)]
                        try have t_329 : Int32.toInt (q_312.1 0 18 + 1) = Int32.toInt (q_312.1 0 18) + 1 := ti_add rfl (by decide) (by omega) (by omega)
                        have hTq_326 : TS q_326 := by rw [eq_326]; exact ts_f a_317 (ti_rg _).1 (ti_rg _).2
                        have hFq_326 : dFr [9, 10, 11] [18] q q_326 := by rw [eq_326]; exact hFq_312.f (by decide)
                        have w_330 : Int32.toInt (q_326.1 0 18) = Int32.toInt (q_312.1 0 18 + 1) := by rw [eq_326, dui_e]
                        exact hk_2 (q_326, p1, x4_230) (show (TS q_326) ∧ (dFr [9, 10, 11] [18] q_1 q_326) ∧ (p1 = p1) ∧ (0 ≤ Int32.toInt x4_230) ∧ (Int32.toInt x4_230 ≤ Int32.toInt p1) ∧ (0 ≤ Int32.toInt (q_326.1 0 18)) ∧ (Int32.toInt (q_326.1 0 18) ≤ Int32.toInt x4_230) from ⟨hTq_326, (by rw [eq_326]; exact ((((by rw [eq_309]; exact ((by rw [eq_243]; exact ((by rw [eq_240]; exact (((dFr.rf : dFr [9, 10, 11] [18] q_1 q_1).t a_8 (by decide) (by decide)) : dFr [9, 10, 11] [18] q_1 q_4).i (by decide) (by decide)) : dFr [9, 10, 11] [18] q_1 q_240).i (by decide) (by decide)) : dFr [9, 10, 11] [18] q_1 q_243).i (by decide) (by decide)) : dFr [9, 10, 11] [18] q_1 q_309).t a_318 (by decide) (by decide)) : dFr [9, 10, 11] [18] q_1 q_312).f (by decide)), rfl, by omega, by omega, by omega, by omega⟩) (show (Int32.toInt p1 - Int32.toInt x4_230).toNat < (Int32.toInt p1 - Int32.toInt x2_6).toNat by omega)
                      · refine dOk_V (ok_isDigit v_26) (fun r_331 h_332 => ?_)
                        replace h_332 : ((Int32.toInt r_331 = 1 ∧ 48 ≤ Int32.toInt v_26 ∧ Int32.toInt v_26 ≤ 57) ∨ (Int32.toInt r_331 = 0 ∧ (Int32.toInt v_26 < 48 ∨ 57 < Int32.toInt v_26))) := h_332
                        have i_333 := h_332
                        refine dOk_eq (A := Int32.toInt r_331) (B := 0) rfl (by decide) (fun c_334z c_334 => ?_) (fun c_335z c_335 => ?_)
                        · unfold zX10_splits_247
                          refine dOk_L (fun q_337 eq_337 => ?_)
                          try have w_338 : Int32.toInt (q_309.1 0 18) = Int32.toInt (q_243.1 0 18) := by rw [eq_309, dui_o (by decide)]
                          have w_339 : Int32.toInt (q_312.1 0 18) = Int32.toInt (q_309.1 0 18) := by rw [a_318.2 18 (by decide)]
                          try have t_340 : Int32.toInt (q_312.1 0 18 + 1) = Int32.toInt (q_312.1 0 18) + 1 := ti_add rfl (by decide) (by omega) (by omega)
                          have hTq_337 : TS q_337 := by rw [eq_337]; exact ts_f a_317 (ti_rg _).1 (ti_rg _).2
                          have hFq_337 : dFr [9, 10, 11] [18] q q_337 := by rw [eq_337]; exact hFq_312.f (by decide)
                          have w_341 : Int32.toInt (q_337.1 0 18) = Int32.toInt (q_312.1 0 18 + 1) := by rw [eq_337, dui_e]
                          exact hk_2 (q_337, p1, x4_230) (show (TS q_337) ∧ (dFr [9, 10, 11] [18] q_1 q_337) ∧ (p1 = p1) ∧ (0 ≤ Int32.toInt x4_230) ∧ (Int32.toInt x4_230 ≤ Int32.toInt p1) ∧ (0 ≤ Int32.toInt (q_337.1 0 18)) ∧ (Int32.toInt (q_337.1 0 18) ≤ Int32.toInt x4_230) from ⟨hTq_337, (by rw [eq_337]; exact ((((by rw [eq_309]; exact ((by rw [eq_243]; exact ((by rw [eq_240]; exact (((dFr.rf : dFr [9, 10, 11] [18] q_1 q_1).t a_8 (by decide) (by decide)) : dFr [9, 10, 11] [18] q_1 q_4).i (by decide) (by decide)) : dFr [9, 10, 11] [18] q_1 q_240).i (by decide) (by decide)) : dFr [9, 10, 11] [18] q_1 q_243).i (by decide) (by decide)) : dFr [9, 10, 11] [18] q_1 q_309).t a_318 (by decide) (by decide)) : dFr [9, 10, 11] [18] q_1 q_312).f (by decide)), rfl, by omega, by omega, by omega, by omega⟩) (show (Int32.toInt p1 - Int32.toInt x4_230).toNat < (Int32.toInt p1 - Int32.toInt x2_6).toNat by omega)
                        · try have w_342 : Int32.toInt (q_309.1 0 18) = Int32.toInt (q_243.1 0 18) := by rw [eq_309, dui_o (by decide)]
                          have w_343 : Int32.toInt (q_312.1 0 18) = Int32.toInt (q_309.1 0 18) := by rw [a_318.2 18 (by decide)]
                          refine dOk_G (dg_ok (show 0 ≤ Int32.toInt (q_312.1 0 18) by omega) (show Int32.toInt (q_312.1 0 18) < ((401 : Nat) : Int) by omega)) ?_
                          have n_344 : ((Int32.toNatClampNeg (q_312.1 0 18) : Nat) : Int) = Int32.toInt (q_312.1 0 18) := cl_eq (by omega)
                          refine dOk_L (fun v_345 ev_345 => ?_)
                          refine dOk_le (A := Int32.toInt v_345) (B := 1000000) rfl (by decide) (fun c_346 => ?_) (fun c_347 => ?_)
                          · refine dOk_G (dg_ok (show 0 ≤ Int32.toInt (q_312.1 0 18) by omega) (show Int32.toInt (q_312.1 0 18) < ((401 : Nat) : Int) by omega)) ?_
                            refine dOk_L (fun v_348 ev_348 => ?_)
                            have w_349 : Int32.toInt v_348 = Int32.toInt v_345 := by rw [ev_348, ev_345]
                            refine dOk_G (dg_ok (show 0 ≤ Int32.toInt x5_316 by omega) (show Int32.toInt x5_316 < ((400 : Nat) : Int) by omega)) ?_
                            have n_350 : ((Int32.toNatClampNeg x5_316 : Nat) : Int) = Int32.toInt x5_316 := cl_eq (by omega)
                            refine dOk_L (fun v_351 ev_351 => ?_)
                            unfold zX10_splits_240
                            refine dOk_G (dg_ok (show 0 ≤ Int32.toInt (q_312.1 0 18) by omega) (show Int32.toInt (q_312.1 0 18) < ((401 : Nat) : Int) by omega)) ?_
                            refine dOk_L (fun q_352 eq_352 => ?_)
                            have hTq_352 : TS q_352 := by rw [eq_352]; exact ts_any a_317 rfl
                            have hFq_352 : dFr [9, 10, 11] [18] q q_352 := by rw [eq_352]; exact hFq_312.i (by decide) (by decide)
                            try have t_353 : Int32.toInt (x5_316 + 1) = Int32.toInt x5_316 + 1 := ti_add rfl (by decide) (by omega) (by omega)
                            exact hk_310 (q_352, p1, v_26, x4_230, (x5_316 + 1)) (show (TS q_352) ∧ (dFr [10] [] q_309 q_352) ∧ (p1 = p1) ∧ (v_26 = v_26) ∧ (x4_230 = x4_230) ∧ (0 ≤ Int32.toInt (x5_316 + 1)) ∧ (Int32.toInt (x5_316 + 1) ≤ Int32.toInt x4_230) from ⟨hTq_352, (by rw [eq_352]; exact (((dFr.rf : dFr [10] [] q_309 q_309).t a_318 (by decide) (by decide)) : dFr [10] [] q_309 q_312).i (by decide) (by decide)), rfl, rfl, rfl, by omega, by omega⟩) (show (Int32.toInt x4_230 - Int32.toInt (x5_316 + 1)).toNat < (Int32.toInt x4_230 - Int32.toInt x5_316).toNat by omega)
                          · refine dOk_G (dg_ok (show 0 ≤ Int32.toInt (q_312.1 0 18) by omega) (show Int32.toInt (q_312.1 0 18) < ((401 : Nat) : Int) by omega)) ?_
                            refine dOk_L (fun v_354 ev_354 => ?_)
                            have w_355 : Int32.toInt v_354 = Int32.toInt v_345 := by rw [ev_354, ev_345]
                            unfold zX10_splits_240
                            refine dOk_G (dg_ok (show 0 ≤ Int32.toInt (q_312.1 0 18) by omega) (show Int32.toInt (q_312.1 0 18) < ((401 : Nat) : Int) by omega)) ?_
                            refine dOk_L (fun q_356 eq_356 => ?_)
                            have hTq_356 : TS q_356 := by rw [eq_356]; exact ts_any a_317 rfl
                            have hFq_356 : dFr [9, 10, 11] [18] q q_356 := by rw [eq_356]; exact hFq_312.i (by decide) (by decide)
                            try have t_357 : Int32.toInt (x5_316 + 1) = Int32.toInt x5_316 + 1 := ti_add rfl (by decide) (by omega) (by omega)
                            exact hk_310 (q_356, p1, v_26, x4_230, (x5_316 + 1)) (show (TS q_356) ∧ (dFr [10] [] q_309 q_356) ∧ (p1 = p1) ∧ (v_26 = v_26) ∧ (x4_230 = x4_230) ∧ (0 ≤ Int32.toInt (x5_316 + 1)) ∧ (Int32.toInt (x5_316 + 1) ≤ Int32.toInt x4_230) from ⟨hTq_356, (by rw [eq_356]; exact (((dFr.rf : dFr [10] [] q_309 q_309).t a_318 (by decide) (by decide)) : dFr [10] [] q_309 q_312).i (by decide) (by decide)), rfl, rfl, rfl, by omega, by omega⟩) (show (Int32.toInt x4_230 - Int32.toInt (x5_316 + 1)).toNat < (Int32.toInt x4_230 - Int32.toInt x5_316).toNat by omega)
                    · exact (show (TS q_309) ∧ (dFr [10] [] q_309 q_309) ∧ (p1 = p1) ∧ (v_26 = v_26) ∧ (x4_230 = x4_230) ∧ (0 ≤ Int32.toInt x2_6) ∧ (Int32.toInt x2_6 ≤ Int32.toInt x4_230) from ⟨hTq_309, dFr.rf, rfl, rfl, rfl, by omega, by omega⟩)
                    · show (Int32.toInt x4_230 - Int32.toInt x2_6).toNat < 1000000000000
                      omega
                · refine dOk_B (ok_wordOf q_243 x2_6 x4_230 hTq_243 (show 0 ≤ Int32.toInt x2_6 by omega) (show Int32.toInt x2_6 < Int32.toInt x4_230 by omega) (show Int32.toInt x4_230 ≤ 400 by omega)) (fun r_358 q_359 h_360 => ?_)
                  replace h_360 : (q_359 = q_243) := h_360
                  have i_361 := h_360
                  subst q_359
                  unfold zX10_splits_165
                  try have w_362 : Int32.toInt (q_243.1 0 18) = Int32.toInt (q_240.1 0 18) := by rw [eq_243, dui_o (by decide)]
                  refine dOk_G (dg_ok (show 0 ≤ Int32.toInt (q_243.1 0 18) by omega) (show Int32.toInt (q_243.1 0 18) < ((401 : Nat) : Int) by omega)) ?_
                  have n_363 : ((Int32.toNatClampNeg (q_243.1 0 18) : Nat) : Int) = Int32.toInt (q_243.1 0 18) := cl_eq (by omega)
                  refine dOk_L (fun q_364 eq_364 => ?_)
                  have hTq_364 : TS q_364 := by rw [eq_364]; exact ts_any hTq_243 rfl
                  have hFq_364 : dFr [9, 10, 11] [18] q q_364 := by rw [eq_364]; exact hFq_243.i (by decide) (by decide)
                  unfold zX10_splits_169
                  refine dFix_ok (fun (a : dS × Int32 × Int32 × Int32 × Int32) => (TS a.1) ∧ (dFr [10] [] q_364 a.1) ∧ (a.2.1 = p1) ∧ (a.2.2.1 = v_26) ∧ (a.2.2.2.1 = x4_230) ∧ (0 ≤ Int32.toInt a.2.2.2.2) ∧ (Int32.toInt a.2.2.2.2 ≤ Int32.toInt a.2.2.2.1)) (fun (a : dS × Int32 × Int32 × Int32 × Int32) => (Int32.toInt a.2.2.2.1 - Int32.toInt a.2.2.2.2).toNat) ?_ _ ?_ _ (dF_gt ?_)
                  · intro a ha k_366 hk_365
                    obtain ⟨q_367, x1_368, x3_369, x4_370, x5_371⟩ := a
                    replace ha : (TS q_367) ∧ (dFr [10] [] q_364 q_367) ∧ (x1_368 = p1) ∧ (x3_369 = v_26) ∧ (x4_370 = x4_230) ∧ (0 ≤ Int32.toInt x5_371) ∧ (Int32.toInt x5_371 ≤ Int32.toInt x4_370) := ha
                    obtain ⟨a_372, a_373, a_374, a_375, a_376, a_377, a_378⟩ := ha
                    show dOk (zX10_splits_169b _ (fun q x1 x3 x4 x5 => k_366 (q, x1, x3, x4, x5)) q_367 x1_368 x3_369 x4_370 x5_371) _
                    unfold zX10_splits_169b
                    have hFq_367 : dFr [9, 10, 11] [18] q q_367 := hFq_364.t a_373 (by decide) (by decide)
                    subst x1_368
                    subst x3_369
                    subst x4_370
                    refine dOk_le (A := Int32.toInt x4_230) (B := Int32.toInt x5_371) rfl rfl (fun c_379 => ?_) (fun c_380 => ?_)
                    · unfold zX10_splits_247
                      refine dOk_L (fun q_381 eq_381 => ?_)
                      try have w_382 : Int32.toInt (q_364.1 0 18) = Int32.toInt (q_243.1 0 18) := by rw [eq_364, dui_o (by decide)]
                      have w_383 : Int32.toInt (q_367.1 0 18) = Int32.toInt (q_364.1 0 18) := by rw [a_373.2 18 (by decide)]
                      try have t_384 : Int32.toInt (q_367.1 0 18 + 1) = Int32.toInt (q_367.1 0 18) + 1 := ti_add rfl (by decide) (by omega) (by omega)
                      have hTq_381 : TS q_381 := by rw [eq_381]; exact ts_f a_372 (ti_rg _).1 (ti_rg _).2
                      have hFq_381 : dFr [9, 10, 11] [18] q q_381 := by rw [eq_381]; exact hFq_367.f (by decide)
                      have w_385 : Int32.toInt (q_381.1 0 18) = Int32.toInt (q_367.1 0 18 + 1) := by rw [eq_381, dui_e]
                      exact hk_2 (q_381, p1, x4_230) (show (TS q_381) ∧ (dFr [9, 10, 11] [18] q_1 q_381) ∧ (p1 = p1) ∧ (0 ≤ Int32.toInt x4_230) ∧ (Int32.toInt x4_230 ≤ Int32.toInt p1) ∧ (0 ≤ Int32.toInt (q_381.1 0 18)) ∧ (Int32.toInt (q_381.1 0 18) ≤ Int32.toInt x4_230) from ⟨hTq_381, (by rw [eq_381]; exact ((((by rw [eq_364]; exact ((by rw [eq_243]; exact ((by rw [eq_240]; exact (((dFr.rf : dFr [9, 10, 11] [18] q_1 q_1).t a_8 (by decide) (by decide)) : dFr [9, 10, 11] [18] q_1 q_4).i (by decide) (by decide)) : dFr [9, 10, 11] [18] q_1 q_240).i (by decide) (by decide)) : dFr [9, 10, 11] [18] q_1 q_243).i (by decide) (by decide)) : dFr [9, 10, 11] [18] q_1 q_364).t a_373 (by decide) (by decide)) : dFr [9, 10, 11] [18] q_1 q_367).f (by decide)), rfl, by omega, by omega, by omega, by omega⟩) (show (Int32.toInt p1 - Int32.toInt x4_230).toNat < (Int32.toInt p1 - Int32.toInt x2_6).toNat by omega)
                    · refine dOk_V (ok_isDigit v_26) (fun r_386 h_387 => ?_)
                      replace h_387 : ((Int32.toInt r_386 = 1 ∧ 48 ≤ Int32.toInt v_26 ∧ Int32.toInt v_26 ≤ 57) ∨ (Int32.toInt r_386 = 0 ∧ (Int32.toInt v_26 < 48 ∨ 57 < Int32.toInt v_26))) := h_387
                      have i_388 := h_387
                      refine dOk_eq (A := Int32.toInt r_386) (B := 0) rfl (by decide) (fun c_389z c_389 => ?_) (fun c_390z c_390 => ?_)
                      · unfold zX10_splits_247
                        refine dOk_L (fun q_392 eq_392 => ?_)
                        try have w_393 : Int32.toInt (q_364.1 0 18) = Int32.toInt (q_243.1 0 18) := by rw [eq_364, dui_o (by decide)]
                        have w_394 : Int32.toInt (q_367.1 0 18) = Int32.toInt (q_364.1 0 18) := by rw [a_373.2 18 (by decide)]
                        try have t_395 : Int32.toInt (q_367.1 0 18 + 1) = Int32.toInt (q_367.1 0 18) + 1 := ti_add rfl (by decide) (by omega) (by omega)
                        have hTq_392 : TS q_392 := by rw [eq_392]; exact ts_f a_372 (ti_rg _).1 (ti_rg _).2
                        have hFq_392 : dFr [9, 10, 11] [18] q q_392 := by rw [eq_392]; exact hFq_367.f (by decide)
                        have w_396 : Int32.toInt (q_392.1 0 18) = Int32.toInt (q_367.1 0 18 + 1) := by rw [eq_392, dui_e]
                        exact hk_2 (q_392, p1, x4_230) (show (TS q_392) ∧ (dFr [9, 10, 11] [18] q_1 q_392) ∧ (p1 = p1) ∧ (0 ≤ Int32.toInt x4_230) ∧ (Int32.toInt x4_230 ≤ Int32.toInt p1) ∧ (0 ≤ Int32.toInt (q_392.1 0 18)) ∧ (Int32.toInt (q_392.1 0 18) ≤ Int32.toInt x4_230) from ⟨hTq_392, (by rw [eq_392]; exact ((((by rw [eq_364]; exact ((by rw [eq_243]; exact ((by rw [eq_240]; exact (((dFr.rf : dFr [9, 10, 11] [18] q_1 q_1).t a_8 (by decide) (by decide)) : dFr [9, 10, 11] [18] q_1 q_4).i (by decide) (by decide)) : dFr [9, 10, 11] [18] q_1 q_240).i (by decide) (by decide)) : dFr [9, 10, 11] [18] q_1 q_243).i (by decide) (by decide)) : dFr [9, 10, 11] [18] q_1 q_364).t a_373 (by decide) (by decide)) : dFr [9, 10, 11] [18] q_1 q_367).f (by decide)), rfl, by omega, by omega, by omega, by omega⟩) (show (Int32.toInt p1 - Int32.toInt x4_230).toNat < (Int32.toInt p1 - Int32.toInt x2_6).toNat by omega)
                      · try have w_397 : Int32.toInt (q_364.1 0 18) = Int32.toInt (q_243.1 0 18) := by rw [eq_364, dui_o (by decide)]
                        have w_398 : Int32.toInt (q_367.1 0 18) = Int32.toInt (q_364.1 0 18) := by rw [a_373.2 18 (by decide)]
                        refine dOk_G (dg_ok (show 0 ≤ Int32.toInt (q_367.1 0 18) by omega) (show Int32.toInt (q_367.1 0 18) < ((401 : Nat) : Int) by omega)) ?_
                        have n_399 : ((Int32.toNatClampNeg (q_367.1 0 18) : Nat) : Int) = Int32.toInt (q_367.1 0 18) := cl_eq (by omega)
                        refine dOk_L (fun v_400 ev_400 => ?_)
                        refine dOk_le (A := Int32.toInt v_400) (B := 1000000) rfl (by decide) (fun c_401 => ?_) (fun c_402 => ?_)
                        · refine dOk_G (dg_ok (show 0 ≤ Int32.toInt (q_367.1 0 18) by omega) (show Int32.toInt (q_367.1 0 18) < ((401 : Nat) : Int) by omega)) ?_
                          refine dOk_L (fun v_403 ev_403 => ?_)
                          have w_404 : Int32.toInt v_403 = Int32.toInt v_400 := by rw [ev_403, ev_400]
                          refine dOk_G (dg_ok (show 0 ≤ Int32.toInt x5_371 by omega) (show Int32.toInt x5_371 < ((400 : Nat) : Int) by omega)) ?_
                          have n_405 : ((Int32.toNatClampNeg x5_371 : Nat) : Int) = Int32.toInt x5_371 := cl_eq (by omega)
                          refine dOk_L (fun v_406 ev_406 => ?_)
                          unfold zX10_splits_240
                          refine dOk_G (dg_ok (show 0 ≤ Int32.toInt (q_367.1 0 18) by omega) (show Int32.toInt (q_367.1 0 18) < ((401 : Nat) : Int) by omega)) ?_
                          refine dOk_L (fun q_407 eq_407 => ?_)
                          have hTq_407 : TS q_407 := by rw [eq_407]; exact ts_any a_372 rfl
                          have hFq_407 : dFr [9, 10, 11] [18] q q_407 := by rw [eq_407]; exact hFq_367.i (by decide) (by decide)
                          try have t_408 : Int32.toInt (x5_371 + 1) = Int32.toInt x5_371 + 1 := ti_add rfl (by decide) (by omega) (by omega)
                          exact hk_365 (q_407, p1, v_26, x4_230, (x5_371 + 1)) (show (TS q_407) ∧ (dFr [10] [] q_364 q_407) ∧ (p1 = p1) ∧ (v_26 = v_26) ∧ (x4_230 = x4_230) ∧ (0 ≤ Int32.toInt (x5_371 + 1)) ∧ (Int32.toInt (x5_371 + 1) ≤ Int32.toInt x4_230) from ⟨hTq_407, (by rw [eq_407]; exact (((dFr.rf : dFr [10] [] q_364 q_364).t a_373 (by decide) (by decide)) : dFr [10] [] q_364 q_367).i (by decide) (by decide)), rfl, rfl, rfl, by omega, by omega⟩) (show (Int32.toInt x4_230 - Int32.toInt (x5_371 + 1)).toNat < (Int32.toInt x4_230 - Int32.toInt x5_371).toNat by omega)
                        · refine dOk_G (dg_ok (show 0 ≤ Int32.toInt (q_367.1 0 18) by omega) (show Int32.toInt (q_367.1 0 18) < ((401 : Nat) : Int) by omega)) ?_
                          refine dOk_L (fun v_409 ev_409 => ?_)
                          have w_410 : Int32.toInt v_409 = Int32.toInt v_400 := by rw [ev_409, ev_400]
                          unfold zX10_splits_240
                          refine dOk_G (dg_ok (show 0 ≤ Int32.toInt (q_367.1 0 18) by omega) (show Int32.toInt (q_367.1 0 18) < ((401 : Nat) : Int) by omega)) ?_
                          refine dOk_L (fun q_411 eq_411 => ?_)
                          have hTq_411 : TS q_411 := by rw [eq_411]; exact ts_any a_372 rfl
                          have hFq_411 : dFr [9, 10, 11] [18] q q_411 := by rw [eq_411]; exact hFq_367.i (by decide) (by decide)
                          try have t_412 : Int32.toInt (x5_371 + 1) = Int32.toInt x5_371 + 1 := ti_add rfl (by decide) (by omega) (by omega)
                          exact hk_365 (q_411, p1, v_26, x4_230, (x5_371 + 1)) (show (TS q_411) ∧ (dFr [10] [] q_364 q_411) ∧ (p1 = p1) ∧ (v_26 = v_26) ∧ (x4_230 = x4_230) ∧ (0 ≤ Int32.toInt (x5_371 + 1)) ∧ (Int32.toInt (x5_371 + 1) ≤ Int32.toInt x4_230) from ⟨hTq_411, (by rw [eq_411]; exact (((dFr.rf : dFr [10] [] q_364 q_364).t a_373 (by decide) (by decide)) : dFr [10] [] q_364 q_367).i (by decide) (by decide)), rfl, rfl, rfl, by omega, by omega⟩) (show (Int32.toInt x4_230 - Int32.toInt (x5_371 + 1)).toNat < (Int32.toInt x4_230 - Int32.toInt x5_371).toNat by omega)
                  · exact (show (TS q_364) ∧ (dFr [10] [] q_364 q_364) ∧ (p1 = p1) ∧ (v_26 = v_26) ∧ (x4_230 = x4_230) ∧ (0 ≤ Int32.toInt x2_6) ∧ (Int32.toInt x2_6 ≤ Int32.toInt x4_230) from ⟨hTq_364, dFr.rf, rfl, rfl, rfl, by omega, by omega⟩)
                  · show (Int32.toInt x4_230 - Int32.toInt x2_6).toNat < 1000000000000
                    omega
              · refine dOk_G (dg_ok (show 0 ≤ Int32.toInt x4_230 by omega) (show Int32.toInt x4_230 < ((400 : Nat) : Int) by omega)) ?_
                have n_413 : ((Int32.toNatClampNeg x4_230 : Nat) : Int) = Int32.toInt x4_230 := cl_eq (by omega)
                refine dOk_L (fun v_414 ev_414 => ?_)
                refine dOk_V (ok_isDigit v_414) (fun r_415 h_416 => ?_)
                replace h_416 : ((Int32.toInt r_415 = 1 ∧ 48 ≤ Int32.toInt v_414 ∧ Int32.toInt v_414 ≤ 57) ∨ (Int32.toInt r_415 = 0 ∧ (Int32.toInt v_414 < 48 ∨ 57 < Int32.toInt v_414))) := h_416
                have i_417 := h_416
                refine dOk_eq (A := Int32.toInt r_415) (B := 0) rfl (by decide) (fun c_418z c_418 => ?_) (fun c_419z c_419 => ?_)
                · unfold zX10_splits_100
                  refine dOk_G (dg_ok (show 0 ≤ Int32.toInt (q_4.1 0 18) by omega) (show Int32.toInt (q_4.1 0 18) < ((401 : Nat) : Int) by omega)) ?_
                  have n_421 : ((Int32.toNatClampNeg (q_4.1 0 18) : Nat) : Int) = Int32.toInt (q_4.1 0 18) := cl_eq (by omega)
                  refine dOk_L (fun q_422 eq_422 => ?_)
                  have hTq_422 : TS q_422 := by rw [eq_422]; exact ts_set a_7 (by decide) (show 0 ≤ Int32.toInt x2_6 by omega) (show Int32.toInt x2_6 ≤ 400 by omega)
                  have hFq_422 : dFr [9, 10, 11] [18] q q_422 := by rw [eq_422]; exact hFq_4.i (by decide) (by decide)
                  try have w_423 : Int32.toInt (q_422.1 0 18) = Int32.toInt (q_4.1 0 18) := by rw [eq_422, dui_o (by decide)]
                  refine dOk_G (dg_ok (show 0 ≤ Int32.toInt (q_422.1 0 18) by omega) (show Int32.toInt (q_422.1 0 18) < ((401 : Nat) : Int) by omega)) ?_
                  have n_424 : ((Int32.toNatClampNeg (q_422.1 0 18) : Nat) : Int) = Int32.toInt (q_422.1 0 18) := cl_eq (by omega)
                  refine dOk_L (fun q_425 eq_425 => ?_)
                  have hTq_425 : TS q_425 := by rw [eq_425]; exact ts_any hTq_422 rfl
                  have hFq_425 : dFr [9, 10, 11] [18] q q_425 := by rw [eq_425]; exact hFq_422.i (by decide) (by decide)
                  refine dOk_V (ok_isSmall v_26) (fun r_426 h_427 => ?_)
                  replace h_427 : ((Int32.toInt r_426 = 1 ∧ 97 ≤ Int32.toInt v_26 ∧ Int32.toInt v_26 ≤ 122) ∨ (Int32.toInt r_426 = 0 ∧ (Int32.toInt v_26 < 97 ∨ 122 < Int32.toInt v_26))) := h_427
                  have i_428 := h_427
                  refine dOk_eq (A := Int32.toInt r_426) (B := 0) rfl (by decide) (fun c_429z c_429 => ?_) (fun c_430z c_430 => ?_)
                  · refine dOk_V (ok_isDigit v_26) (fun r_432 h_433 => ?_)
                    replace h_433 : ((Int32.toInt r_432 = 1 ∧ 48 ≤ Int32.toInt v_26 ∧ Int32.toInt v_26 ≤ 57) ∨ (Int32.toInt r_432 = 0 ∧ (Int32.toInt v_26 < 48 ∨ 57 < Int32.toInt v_26))) := h_433
                    have i_434 := h_433
                    refine dOk_eq (A := Int32.toInt r_432) (B := 0) rfl (by decide) (fun c_435z c_435 => ?_) (fun c_436z c_436 => ?_)
                    · unfold zX10_splits_165
                      try have w_438 : Int32.toInt (q_425.1 0 18) = Int32.toInt (q_422.1 0 18) := by rw [eq_425, dui_o (by decide)]
                      refine dOk_G (dg_ok (show 0 ≤ Int32.toInt (q_425.1 0 18) by omega) (show Int32.toInt (q_425.1 0 18) < ((401 : Nat) : Int) by omega)) ?_
                      have n_439 : ((Int32.toNatClampNeg (q_425.1 0 18) : Nat) : Int) = Int32.toInt (q_425.1 0 18) := cl_eq (by omega)
                      refine dOk_L (fun q_440 eq_440 => ?_)
                      have hTq_440 : TS q_440 := by rw [eq_440]; exact ts_any hTq_425 rfl
                      have hFq_440 : dFr [9, 10, 11] [18] q q_440 := by rw [eq_440]; exact hFq_425.i (by decide) (by decide)
                      unfold zX10_splits_169
                      refine dFix_ok (fun (a : dS × Int32 × Int32 × Int32 × Int32) => (TS a.1) ∧ (dFr [10] [] q_440 a.1) ∧ (a.2.1 = p1) ∧ (a.2.2.1 = v_26) ∧ (a.2.2.2.1 = x4_230) ∧ (0 ≤ Int32.toInt a.2.2.2.2) ∧ (Int32.toInt a.2.2.2.2 ≤ Int32.toInt a.2.2.2.1)) (fun (a : dS × Int32 × Int32 × Int32 × Int32) => (Int32.toInt a.2.2.2.1 - Int32.toInt a.2.2.2.2).toNat) ?_ _ ?_ _ (dF_gt ?_)
                      · intro a ha k_442 hk_441
                        obtain ⟨q_443, x1_444, x3_445, x4_446, x5_447⟩ := a
                        replace ha : (TS q_443) ∧ (dFr [10] [] q_440 q_443) ∧ (x1_444 = p1) ∧ (x3_445 = v_26) ∧ (x4_446 = x4_230) ∧ (0 ≤ Int32.toInt x5_447) ∧ (Int32.toInt x5_447 ≤ Int32.toInt x4_446) := ha
                        obtain ⟨a_448, a_449, a_450, a_451, a_452, a_453, a_454⟩ := ha
                        show dOk (zX10_splits_169b _ (fun q x1 x3 x4 x5 => k_442 (q, x1, x3, x4, x5)) q_443 x1_444 x3_445 x4_446 x5_447) _
                        unfold zX10_splits_169b
                        have hFq_443 : dFr [9, 10, 11] [18] q q_443 := hFq_440.t a_449 (by decide) (by decide)
                        subst x1_444
                        subst x3_445
                        subst x4_446
                        refine dOk_le (A := Int32.toInt x4_230) (B := Int32.toInt x5_447) rfl rfl (fun c_455 => ?_) (fun c_456 => ?_)
                        · unfold zX10_splits_247
                          refine dOk_L (fun q_457 eq_457 => ?_)
                          try have w_458 : Int32.toInt (q_440.1 0 18) = Int32.toInt (q_425.1 0 18) := by rw [eq_440, dui_o (by decide)]
                          have w_459 : Int32.toInt (q_443.1 0 18) = Int32.toInt (q_440.1 0 18) := by rw [a_449.2 18 (by decide)]
                          try have t_460 : Int32.toInt (q_443.1 0 18 + 1) = Int32.toInt (q_443.1 0 18) + 1 := ti_add rfl (by decide) (by omega) (by omega)
                          have hTq_457 : TS q_457 := by rw [eq_457]; exact ts_f a_448 (ti_rg _).1 (ti_rg _).2
                          have hFq_457 : dFr [9, 10, 11] [18] q q_457 := by rw [eq_457]; exact hFq_443.f (by decide)
                          have w_461 : Int32.toInt (q_457.1 0 18) = Int32.toInt (q_443.1 0 18 + 1) := by rw [eq_457, dui_e]
                          exact hk_2 (q_457, p1, x4_230) (show (TS q_457) ∧ (dFr [9, 10, 11] [18] q_1 q_457) ∧ (p1 = p1) ∧ (0 ≤ Int32.toInt x4_230) ∧ (Int32.toInt x4_230 ≤ Int32.toInt p1) ∧ (0 ≤ Int32.toInt (q_457.1 0 18)) ∧ (Int32.toInt (q_457.1 0 18) ≤ Int32.toInt x4_230) from ⟨hTq_457, (by rw [eq_457]; exact ((((by rw [eq_440]; exact ((by rw [eq_425]; exact ((by rw [eq_422]; exact (((dFr.rf : dFr [9, 10, 11] [18] q_1 q_1).t a_8 (by decide) (by decide)) : dFr [9, 10, 11] [18] q_1 q_4).i (by decide) (by decide)) : dFr [9, 10, 11] [18] q_1 q_422).i (by decide) (by decide)) : dFr [9, 10, 11] [18] q_1 q_425).i (by decide) (by decide)) : dFr [9, 10, 11] [18] q_1 q_440).t a_449 (by decide) (by decide)) : dFr [9, 10, 11] [18] q_1 q_443).f (by decide)), rfl, by omega, by omega, by omega, by omega⟩) (show (Int32.toInt p1 - Int32.toInt x4_230).toNat < (Int32.toInt p1 - Int32.toInt x2_6).toNat by omega)
                        · refine dOk_V (ok_isDigit v_26) (fun r_462 h_463 => ?_)
                          replace h_463 : ((Int32.toInt r_462 = 1 ∧ 48 ≤ Int32.toInt v_26 ∧ Int32.toInt v_26 ≤ 57) ∨ (Int32.toInt r_462 = 0 ∧ (Int32.toInt v_26 < 48 ∨ 57 < Int32.toInt v_26))) := h_463
                          have i_464 := h_463
                          refine dOk_eq (A := Int32.toInt r_462) (B := 0) rfl (by decide) (fun c_465z c_465 => ?_) (fun c_466z c_466 => ?_)
                          · unfold zX10_splits_247
                            refine dOk_L (fun q_468 eq_468 => ?_)
                            try have w_469 : Int32.toInt (q_440.1 0 18) = Int32.toInt (q_425.1 0 18) := by rw [eq_440, dui_o (by decide)]
                            have w_470 : Int32.toInt (q_443.1 0 18) = Int32.toInt (q_440.1 0 18) := by rw [a_449.2 18 (by decide)]
                            try have t_471 : Int32.toInt (q_443.1 0 18 + 1) = Int32.toInt (q_443.1 0 18) + 1 := ti_add rfl (by decide) (by omega) (by omega)
                            have hTq_468 : TS q_468 := by rw [eq_468]; exact ts_f a_448 (ti_rg _).1 (ti_rg _).2
                            have hFq_468 : dFr [9, 10, 11] [18] q q_468 := by rw [eq_468]; exact hFq_443.f (by decide)
                            have w_472 : Int32.toInt (q_468.1 0 18) = Int32.toInt (q_443.1 0 18 + 1) := by rw [eq_468, dui_e]
                            exact hk_2 (q_468, p1, x4_230) (show (TS q_468) ∧ (dFr [9, 10, 11] [18] q_1 q_468) ∧ (p1 = p1) ∧ (0 ≤ Int32.toInt x4_230) ∧ (Int32.toInt x4_230 ≤ Int32.toInt p1) ∧ (0 ≤ Int32.toInt (q_468.1 0 18)) ∧ (Int32.toInt (q_468.1 0 18) ≤ Int32.toInt x4_230) from ⟨hTq_468, (by rw [eq_468]; exact ((((by rw [eq_440]; exact ((by rw [eq_425]; exact ((by rw [eq_422]; exact (((dFr.rf : dFr [9, 10, 11] [18] q_1 q_1).t a_8 (by decide) (by decide)) : dFr [9, 10, 11] [18] q_1 q_4).i (by decide) (by decide)) : dFr [9, 10, 11] [18] q_1 q_422).i (by decide) (by decide)) : dFr [9, 10, 11] [18] q_1 q_425).i (by decide) (by decide)) : dFr [9, 10, 11] [18] q_1 q_440).t a_449 (by decide) (by decide)) : dFr [9, 10, 11] [18] q_1 q_443).f (by decide)), rfl, by omega, by omega, by omega, by omega⟩) (show (Int32.toInt p1 - Int32.toInt x4_230).toNat < (Int32.toInt p1 - Int32.toInt x2_6).toNat by omega)
                          · try have w_473 : Int32.toInt (q_440.1 0 18) = Int32.toInt (q_425.1 0 18) := by rw [eq_440, dui_o (by decide)]
                            have w_474 : Int32.toInt (q_443.1 0 18) = Int32.toInt (q_440.1 0 18) := by rw [a_449.2 18 (by decide)]
                            refine dOk_G (dg_ok (show 0 ≤ Int32.toInt (q_443.1 0 18) by omega) (show Int32.toInt (q_443.1 0 18) < ((401 : Nat) : Int) by omega)) ?_
                            have n_475 : ((Int32.toNatClampNeg (q_443.1 0 18) : Nat) : Int) = Int32.toInt (q_443.1 0 18) := cl_eq (by omega)
                            refine dOk_L (fun v_476 ev_476 => ?_)
                            refine dOk_le (A := Int32.toInt v_476) (B := 1000000) rfl (by decide) (fun c_477 => ?_) (fun c_478 => ?_)
                            · refine dOk_G (dg_ok (show 0 ≤ Int32.toInt (q_443.1 0 18) by omega) (show Int32.toInt (q_443.1 0 18) < ((401 : Nat) : Int) by omega)) ?_
                              refine dOk_L (fun v_479 ev_479 => ?_)
                              have w_480 : Int32.toInt v_479 = Int32.toInt v_476 := by rw [ev_479, ev_476]
                              refine dOk_G (dg_ok (show 0 ≤ Int32.toInt x5_447 by omega) (show Int32.toInt x5_447 < ((400 : Nat) : Int) by omega)) ?_
                              have n_481 : ((Int32.toNatClampNeg x5_447 : Nat) : Int) = Int32.toInt x5_447 := cl_eq (by omega)
                              refine dOk_L (fun v_482 ev_482 => ?_)
                              unfold zX10_splits_240
                              refine dOk_G (dg_ok (show 0 ≤ Int32.toInt (q_443.1 0 18) by omega) (show Int32.toInt (q_443.1 0 18) < ((401 : Nat) : Int) by omega)) ?_
                              refine dOk_L (fun q_483 eq_483 => ?_)
                              have hTq_483 : TS q_483 := by rw [eq_483]; exact ts_any a_448 rfl
                              have hFq_483 : dFr [9, 10, 11] [18] q q_483 := by rw [eq_483]; exact hFq_443.i (by decide) (by decide)
                              try have t_484 : Int32.toInt (x5_447 + 1) = Int32.toInt x5_447 + 1 := ti_add rfl (by decide) (by omega) (by omega)
                              exact hk_441 (q_483, p1, v_26, x4_230, (x5_447 + 1)) (show (TS q_483) ∧ (dFr [10] [] q_440 q_483) ∧ (p1 = p1) ∧ (v_26 = v_26) ∧ (x4_230 = x4_230) ∧ (0 ≤ Int32.toInt (x5_447 + 1)) ∧ (Int32.toInt (x5_447 + 1) ≤ Int32.toInt x4_230) from ⟨hTq_483, (by rw [eq_483]; exact (((dFr.rf : dFr [10] [] q_440 q_440).t a_449 (by decide) (by decide)) : dFr [10] [] q_440 q_443).i (by decide) (by decide)), rfl, rfl, rfl, by omega, by omega⟩) (show (Int32.toInt x4_230 - Int32.toInt (x5_447 + 1)).toNat < (Int32.toInt x4_230 - Int32.toInt x5_447).toNat by omega)
                            · refine dOk_G (dg_ok (show 0 ≤ Int32.toInt (q_443.1 0 18) by omega) (show Int32.toInt (q_443.1 0 18) < ((401 : Nat) : Int) by omega)) ?_
                              refine dOk_L (fun v_485 ev_485 => ?_)
                              have w_486 : Int32.toInt v_485 = Int32.toInt v_476 := by rw [ev_485, ev_476]
                              unfold zX10_splits_240
                              refine dOk_G (dg_ok (show 0 ≤ Int32.toInt (q_443.1 0 18) by omega) (show Int32.toInt (q_443.1 0 18) < ((401 : Nat) : Int) by omega)) ?_
                              refine dOk_L (fun q_487 eq_487 => ?_)
                              have hTq_487 : TS q_487 := by rw [eq_487]; exact ts_any a_448 rfl
                              have hFq_487 : dFr [9, 10, 11] [18] q q_487 := by rw [eq_487]; exact hFq_443.i (by decide) (by decide)
                              try have t_488 : Int32.toInt (x5_447 + 1) = Int32.toInt x5_447 + 1 := ti_add rfl (by decide) (by omega) (by omega)
                              exact hk_441 (q_487, p1, v_26, x4_230, (x5_447 + 1)) (show (TS q_487) ∧ (dFr [10] [] q_440 q_487) ∧ (p1 = p1) ∧ (v_26 = v_26) ∧ (x4_230 = x4_230) ∧ (0 ≤ Int32.toInt (x5_447 + 1)) ∧ (Int32.toInt (x5_447 + 1) ≤ Int32.toInt x4_230) from ⟨hTq_487, (by rw [eq_487]; exact (((dFr.rf : dFr [10] [] q_440 q_440).t a_449 (by decide) (by decide)) : dFr [10] [] q_440 q_443).i (by decide) (by decide)), rfl, rfl, rfl, by omega, by omega⟩) (show (Int32.toInt x4_230 - Int32.toInt (x5_447 + 1)).toNat < (Int32.toInt x4_230 - Int32.toInt x5_447).toNat by omega)
                      · exact (show (TS q_440) ∧ (dFr [10] [] q_440 q_440) ∧ (p1 = p1) ∧ (v_26 = v_26) ∧ (x4_230 = x4_230) ∧ (0 ≤ Int32.toInt x2_6) ∧ (Int32.toInt x2_6 ≤ Int32.toInt x4_230) from ⟨hTq_440, dFr.rf, rfl, rfl, rfl, by omega, by omega⟩)
                      · show (Int32.toInt x4_230 - Int32.toInt x2_6).toNat < 1000000000000
                        omega
                    · unfold zX10_splits_165
                      try have w_489 : Int32.toInt (q_425.1 0 18) = Int32.toInt (q_422.1 0 18) := by rw [eq_425, dui_o (by decide)]
                      refine dOk_G (dg_ok (show 0 ≤ Int32.toInt (q_425.1 0 18) by omega) (show Int32.toInt (q_425.1 0 18) < ((401 : Nat) : Int) by omega)) ?_
                      have n_490 : ((Int32.toNatClampNeg (q_425.1 0 18) : Nat) : Int) = Int32.toInt (q_425.1 0 18) := cl_eq (by omega)
                      refine dOk_L (fun q_491 eq_491 => ?_)
                      have hTq_491 : TS q_491 := by rw [eq_491]; exact ts_any hTq_425 rfl
                      have hFq_491 : dFr [9, 10, 11] [18] q q_491 := by rw [eq_491]; exact hFq_425.i (by decide) (by decide)
                      unfold zX10_splits_169
                      refine dFix_ok (fun (a : dS × Int32 × Int32 × Int32 × Int32) => (TS a.1) ∧ (dFr [10] [] q_491 a.1) ∧ (a.2.1 = p1) ∧ (a.2.2.1 = v_26) ∧ (a.2.2.2.1 = x4_230) ∧ (0 ≤ Int32.toInt a.2.2.2.2) ∧ (Int32.toInt a.2.2.2.2 ≤ Int32.toInt a.2.2.2.1)) (fun (a : dS × Int32 × Int32 × Int32 × Int32) => (Int32.toInt a.2.2.2.1 - Int32.toInt a.2.2.2.2).toNat) ?_ _ ?_ _ (dF_gt ?_)
                      · intro a ha k_493 hk_492
                        obtain ⟨q_494, x1_495, x3_496, x4_497, x5_498⟩ := a
                        replace ha : (TS q_494) ∧ (dFr [10] [] q_491 q_494) ∧ (x1_495 = p1) ∧ (x3_496 = v_26) ∧ (x4_497 = x4_230) ∧ (0 ≤ Int32.toInt x5_498) ∧ (Int32.toInt x5_498 ≤ Int32.toInt x4_497) := ha
                        obtain ⟨a_499, a_500, a_501, a_502, a_503, a_504, a_505⟩ := ha
                        show dOk (zX10_splits_169b _ (fun q x1 x3 x4 x5 => k_493 (q, x1, x3, x4, x5)) q_494 x1_495 x3_496 x4_497 x5_498) _
                        unfold zX10_splits_169b
                        have hFq_494 : dFr [9, 10, 11] [18] q q_494 := hFq_491.t a_500 (by decide) (by decide)
                        subst x1_495
                        subst x3_496
                        subst x4_497
                        refine dOk_le (A := Int32.toInt x4_230) (B := Int32.toInt x5_498) rfl rfl (fun c_506 => ?_) (fun c_507 => ?_)
                        · unfold zX10_splits_247
                          refine dOk_L (fun q_508 eq_508 => ?_)
                          try have w_509 : Int32.toInt (q_491.1 0 18) = Int32.toInt (q_425.1 0 18) := by rw [eq_491, dui_o (by decide)]
                          have w_510 : Int32.toInt (q_494.1 0 18) = Int32.toInt (q_491.1 0 18) := by rw [a_500.2 18 (by decide)]
                          try have t_511 : Int32.toInt (q_494.1 0 18 + 1) = Int32.toInt (q_494.1 0 18) + 1 := ti_add rfl (by decide) (by omega) (by omega)
                          have hTq_508 : TS q_508 := by rw [eq_508]; exact ts_f a_499 (ti_rg _).1 (ti_rg _).2
                          have hFq_508 : dFr [9, 10, 11] [18] q q_508 := by rw [eq_508]; exact hFq_494.f (by decide)
                          have w_512 : Int32.toInt (q_508.1 0 18) = Int32.toInt (q_494.1 0 18 + 1) := by rw [eq_508, dui_e]
                          exact hk_2 (q_508, p1, x4_230) (show (TS q_508) ∧ (dFr [9, 10, 11] [18] q_1 q_508) ∧ (p1 = p1) ∧ (0 ≤ Int32.toInt x4_230) ∧ (Int32.toInt x4_230 ≤ Int32.toInt p1) ∧ (0 ≤ Int32.toInt (q_508.1 0 18)) ∧ (Int32.toInt (q_508.1 0 18) ≤ Int32.toInt x4_230) from ⟨hTq_508, (by rw [eq_508]; exact ((((by rw [eq_491]; exact ((by rw [eq_425]; exact ((by rw [eq_422]; exact (((dFr.rf : dFr [9, 10, 11] [18] q_1 q_1).t a_8 (by decide) (by decide)) : dFr [9, 10, 11] [18] q_1 q_4).i (by decide) (by decide)) : dFr [9, 10, 11] [18] q_1 q_422).i (by decide) (by decide)) : dFr [9, 10, 11] [18] q_1 q_425).i (by decide) (by decide)) : dFr [9, 10, 11] [18] q_1 q_491).t a_500 (by decide) (by decide)) : dFr [9, 10, 11] [18] q_1 q_494).f (by decide)), rfl, by omega, by omega, by omega, by omega⟩) (show (Int32.toInt p1 - Int32.toInt x4_230).toNat < (Int32.toInt p1 - Int32.toInt x2_6).toNat by omega)
                        · refine dOk_V (ok_isDigit v_26) (fun r_513 h_514 => ?_)
                          replace h_514 : ((Int32.toInt r_513 = 1 ∧ 48 ≤ Int32.toInt v_26 ∧ Int32.toInt v_26 ≤ 57) ∨ (Int32.toInt r_513 = 0 ∧ (Int32.toInt v_26 < 48 ∨ 57 < Int32.toInt v_26))) := h_514
                          have i_515 := h_514
                          refine dOk_eq (A := Int32.toInt r_513) (B := 0) rfl (by decide) (fun c_516z c_516 => ?_) (fun c_517z c_517 => ?_)
                          · unfold zX10_splits_247
                            refine dOk_L (fun q_519 eq_519 => ?_)
                            try have w_520 : Int32.toInt (q_491.1 0 18) = Int32.toInt (q_425.1 0 18) := by rw [eq_491, dui_o (by decide)]
                            have w_521 : Int32.toInt (q_494.1 0 18) = Int32.toInt (q_491.1 0 18) := by rw [a_500.2 18 (by decide)]
                            try have t_522 : Int32.toInt (q_494.1 0 18 + 1) = Int32.toInt (q_494.1 0 18) + 1 := ti_add rfl (by decide) (by omega) (by omega)
                            have hTq_519 : TS q_519 := by rw [eq_519]; exact ts_f a_499 (ti_rg _).1 (ti_rg _).2
                            have hFq_519 : dFr [9, 10, 11] [18] q q_519 := by rw [eq_519]; exact hFq_494.f (by decide)
                            have w_523 : Int32.toInt (q_519.1 0 18) = Int32.toInt (q_494.1 0 18 + 1) := by rw [eq_519, dui_e]
                            exact hk_2 (q_519, p1, x4_230) (show (TS q_519) ∧ (dFr [9, 10, 11] [18] q_1 q_519) ∧ (p1 = p1) ∧ (0 ≤ Int32.toInt x4_230) ∧ (Int32.toInt x4_230 ≤ Int32.toInt p1) ∧ (0 ≤ Int32.toInt (q_519.1 0 18)) ∧ (Int32.toInt (q_519.1 0 18) ≤ Int32.toInt x4_230) from ⟨hTq_519, (by rw [eq_519]; exact ((((by rw [eq_491]; exact ((by rw [eq_425]; exact ((by rw [eq_422]; exact (((dFr.rf : dFr [9, 10, 11] [18] q_1 q_1).t a_8 (by decide) (by decide)) : dFr [9, 10, 11] [18] q_1 q_4).i (by decide) (by decide)) : dFr [9, 10, 11] [18] q_1 q_422).i (by decide) (by decide)) : dFr [9, 10, 11] [18] q_1 q_425).i (by decide) (by decide)) : dFr [9, 10, 11] [18] q_1 q_491).t a_500 (by decide) (by decide)) : dFr [9, 10, 11] [18] q_1 q_494).f (by decide)), rfl, by omega, by omega, by omega, by omega⟩) (show (Int32.toInt p1 - Int32.toInt x4_230).toNat < (Int32.toInt p1 - Int32.toInt x2_6).toNat by omega)
                          · try have w_524 : Int32.toInt (q_491.1 0 18) = Int32.toInt (q_425.1 0 18) := by rw [eq_491, dui_o (by decide)]
                            have w_525 : Int32.toInt (q_494.1 0 18) = Int32.toInt (q_491.1 0 18) := by rw [a_500.2 18 (by decide)]
                            refine dOk_G (dg_ok (show 0 ≤ Int32.toInt (q_494.1 0 18) by omega) (show Int32.toInt (q_494.1 0 18) < ((401 : Nat) : Int) by omega)) ?_
                            have n_526 : ((Int32.toNatClampNeg (q_494.1 0 18) : Nat) : Int) = Int32.toInt (q_494.1 0 18) := cl_eq (by omega)
                            refine dOk_L (fun v_527 ev_527 => ?_)
                            refine dOk_le (A := Int32.toInt v_527) (B := 1000000) rfl (by decide) (fun c_528 => ?_) (fun c_529 => ?_)
                            · refine dOk_G (dg_ok (show 0 ≤ Int32.toInt (q_494.1 0 18) by omega) (show Int32.toInt (q_494.1 0 18) < ((401 : Nat) : Int) by omega)) ?_
                              refine dOk_L (fun v_530 ev_530 => ?_)
                              have w_531 : Int32.toInt v_530 = Int32.toInt v_527 := by rw [ev_530, ev_527]
                              refine dOk_G (dg_ok (show 0 ≤ Int32.toInt x5_498 by omega) (show Int32.toInt x5_498 < ((400 : Nat) : Int) by omega)) ?_
                              have n_532 : ((Int32.toNatClampNeg x5_498 : Nat) : Int) = Int32.toInt x5_498 := cl_eq (by omega)
                              refine dOk_L (fun v_533 ev_533 => ?_)
                              unfold zX10_splits_240
                              refine dOk_G (dg_ok (show 0 ≤ Int32.toInt (q_494.1 0 18) by omega) (show Int32.toInt (q_494.1 0 18) < ((401 : Nat) : Int) by omega)) ?_
                              refine dOk_L (fun q_534 eq_534 => ?_)
                              have hTq_534 : TS q_534 := by rw [eq_534]; exact ts_any a_499 rfl
                              have hFq_534 : dFr [9, 10, 11] [18] q q_534 := by rw [eq_534]; exact hFq_494.i (by decide) (by decide)
                              try have t_535 : Int32.toInt (x5_498 + 1) = Int32.toInt x5_498 + 1 := ti_add rfl (by decide) (by omega) (by omega)
                              exact hk_492 (q_534, p1, v_26, x4_230, (x5_498 + 1)) (show (TS q_534) ∧ (dFr [10] [] q_491 q_534) ∧ (p1 = p1) ∧ (v_26 = v_26) ∧ (x4_230 = x4_230) ∧ (0 ≤ Int32.toInt (x5_498 + 1)) ∧ (Int32.toInt (x5_498 + 1) ≤ Int32.toInt x4_230) from ⟨hTq_534, (by rw [eq_534]; exact (((dFr.rf : dFr [10] [] q_491 q_491).t a_500 (by decide) (by decide)) : dFr [10] [] q_491 q_494).i (by decide) (by decide)), rfl, rfl, rfl, by omega, by omega⟩) (show (Int32.toInt x4_230 - Int32.toInt (x5_498 + 1)).toNat < (Int32.toInt x4_230 - Int32.toInt x5_498).toNat by omega)
                            · refine dOk_G (dg_ok (show 0 ≤ Int32.toInt (q_494.1 0 18) by omega) (show Int32.toInt (q_494.1 0 18) < ((401 : Nat) : Int) by omega)) ?_
                              refine dOk_L (fun v_536 ev_536 => ?_)
                              have w_537 : Int32.toInt v_536 = Int32.toInt v_527 := by rw [ev_536, ev_527]
                              unfold zX10_splits_240
                              refine dOk_G (dg_ok (show 0 ≤ Int32.toInt (q_494.1 0 18) by omega) (show Int32.toInt (q_494.1 0 18) < ((401 : Nat) : Int) by omega)) ?_
                              refine dOk_L (fun q_538 eq_538 => ?_)
                              have hTq_538 : TS q_538 := by rw [eq_538]; exact ts_any a_499 rfl
                              have hFq_538 : dFr [9, 10, 11] [18] q q_538 := by rw [eq_538]; exact hFq_494.i (by decide) (by decide)
                              try have t_539 : Int32.toInt (x5_498 + 1) = Int32.toInt x5_498 + 1 := ti_add rfl (by decide) (by omega) (by omega)
                              exact hk_492 (q_538, p1, v_26, x4_230, (x5_498 + 1)) (show (TS q_538) ∧ (dFr [10] [] q_491 q_538) ∧ (p1 = p1) ∧ (v_26 = v_26) ∧ (x4_230 = x4_230) ∧ (0 ≤ Int32.toInt (x5_498 + 1)) ∧ (Int32.toInt (x5_498 + 1) ≤ Int32.toInt x4_230) from ⟨hTq_538, (by rw [eq_538]; exact (((dFr.rf : dFr [10] [] q_491 q_491).t a_500 (by decide) (by decide)) : dFr [10] [] q_491 q_494).i (by decide) (by decide)), rfl, rfl, rfl, by omega, by omega⟩) (show (Int32.toInt x4_230 - Int32.toInt (x5_498 + 1)).toNat < (Int32.toInt x4_230 - Int32.toInt x5_498).toNat by omega)
                      · exact (show (TS q_491) ∧ (dFr [10] [] q_491 q_491) ∧ (p1 = p1) ∧ (v_26 = v_26) ∧ (x4_230 = x4_230) ∧ (0 ≤ Int32.toInt x2_6) ∧ (Int32.toInt x2_6 ≤ Int32.toInt x4_230) from ⟨hTq_491, dFr.rf, rfl, rfl, rfl, by omega, by omega⟩)
                      · show (Int32.toInt x4_230 - Int32.toInt x2_6).toNat < 1000000000000
                        omega
                  · refine dOk_B (ok_wordOf q_425 x2_6 x4_230 hTq_425 (show 0 ≤ Int32.toInt x2_6 by omega) (show Int32.toInt x2_6 < Int32.toInt x4_230 by omega) (show Int32.toInt x4_230 ≤ 400 by omega)) (fun r_540 q_541 h_542 => ?_)
                    replace h_542 : (q_541 = q_425) := h_542
                    have i_543 := h_542
                    subst q_541
                    unfold zX10_splits_165
                    try have w_544 : Int32.toInt (q_425.1 0 18) = Int32.toInt (q_422.1 0 18) := by rw [eq_425, dui_o (by decide)]
                    refine dOk_G (dg_ok (show 0 ≤ Int32.toInt (q_425.1 0 18) by omega) (show Int32.toInt (q_425.1 0 18) < ((401 : Nat) : Int) by omega)) ?_
                    have n_545 : ((Int32.toNatClampNeg (q_425.1 0 18) : Nat) : Int) = Int32.toInt (q_425.1 0 18) := cl_eq (by omega)
                    refine dOk_L (fun q_546 eq_546 => ?_)
                    have hTq_546 : TS q_546 := by rw [eq_546]; exact ts_any hTq_425 rfl
                    have hFq_546 : dFr [9, 10, 11] [18] q q_546 := by rw [eq_546]; exact hFq_425.i (by decide) (by decide)
                    unfold zX10_splits_169
                    refine dFix_ok (fun (a : dS × Int32 × Int32 × Int32 × Int32) => (TS a.1) ∧ (dFr [10] [] q_546 a.1) ∧ (a.2.1 = p1) ∧ (a.2.2.1 = v_26) ∧ (a.2.2.2.1 = x4_230) ∧ (0 ≤ Int32.toInt a.2.2.2.2) ∧ (Int32.toInt a.2.2.2.2 ≤ Int32.toInt a.2.2.2.1)) (fun (a : dS × Int32 × Int32 × Int32 × Int32) => (Int32.toInt a.2.2.2.1 - Int32.toInt a.2.2.2.2).toNat) ?_ _ ?_ _ (dF_gt ?_)
                    · intro a ha k_548 hk_547
                      obtain ⟨q_549, x1_550, x3_551, x4_552, x5_553⟩ := a
                      replace ha : (TS q_549) ∧ (dFr [10] [] q_546 q_549) ∧ (x1_550 = p1) ∧ (x3_551 = v_26) ∧ (x4_552 = x4_230) ∧ (0 ≤ Int32.toInt x5_553) ∧ (Int32.toInt x5_553 ≤ Int32.toInt x4_552) := ha
                      obtain ⟨a_554, a_555, a_556, a_557, a_558, a_559, a_560⟩ := ha
                      show dOk (zX10_splits_169b _ (fun q x1 x3 x4 x5 => k_548 (q, x1, x3, x4, x5)) q_549 x1_550 x3_551 x4_552 x5_553) _
                      unfold zX10_splits_169b
                      have hFq_549 : dFr [9, 10, 11] [18] q q_549 := hFq_546.t a_555 (by decide) (by decide)
                      subst x1_550
                      subst x3_551
                      subst x4_552
                      refine dOk_le (A := Int32.toInt x4_230) (B := Int32.toInt x5_553) rfl rfl (fun c_561 => ?_) (fun c_562 => ?_)
                      · unfold zX10_splits_247
                        refine dOk_L (fun q_563 eq_563 => ?_)
                        try have w_564 : Int32.toInt (q_546.1 0 18) = Int32.toInt (q_425.1 0 18) := by rw [eq_546, dui_o (by decide)]
                        have w_565 : Int32.toInt (q_549.1 0 18) = Int32.toInt (q_546.1 0 18) := by rw [a_555.2 18 (by decide)]
                        try have t_566 : Int32.toInt (q_549.1 0 18 + 1) = Int32.toInt (q_549.1 0 18) + 1 := ti_add rfl (by decide) (by omega) (by omega)
                        have hTq_563 : TS q_563 := by rw [eq_563]; exact ts_f a_554 (ti_rg _).1 (ti_rg _).2
                        have hFq_563 : dFr [9, 10, 11] [18] q q_563 := by rw [eq_563]; exact hFq_549.f (by decide)
                        have w_567 : Int32.toInt (q_563.1 0 18) = Int32.toInt (q_549.1 0 18 + 1) := by rw [eq_563, dui_e]
                        exact hk_2 (q_563, p1, x4_230) (show (TS q_563) ∧ (dFr [9, 10, 11] [18] q_1 q_563) ∧ (p1 = p1) ∧ (0 ≤ Int32.toInt x4_230) ∧ (Int32.toInt x4_230 ≤ Int32.toInt p1) ∧ (0 ≤ Int32.toInt (q_563.1 0 18)) ∧ (Int32.toInt (q_563.1 0 18) ≤ Int32.toInt x4_230) from ⟨hTq_563, (by rw [eq_563]; exact ((((by rw [eq_546]; exact ((by rw [eq_425]; exact ((by rw [eq_422]; exact (((dFr.rf : dFr [9, 10, 11] [18] q_1 q_1).t a_8 (by decide) (by decide)) : dFr [9, 10, 11] [18] q_1 q_4).i (by decide) (by decide)) : dFr [9, 10, 11] [18] q_1 q_422).i (by decide) (by decide)) : dFr [9, 10, 11] [18] q_1 q_425).i (by decide) (by decide)) : dFr [9, 10, 11] [18] q_1 q_546).t a_555 (by decide) (by decide)) : dFr [9, 10, 11] [18] q_1 q_549).f (by decide)), rfl, by omega, by omega, by omega, by omega⟩) (show (Int32.toInt p1 - Int32.toInt x4_230).toNat < (Int32.toInt p1 - Int32.toInt x2_6).toNat by omega)
                      · refine dOk_V (ok_isDigit v_26) (fun r_568 h_569 => ?_)
                        replace h_569 : ((Int32.toInt r_568 = 1 ∧ 48 ≤ Int32.toInt v_26 ∧ Int32.toInt v_26 ≤ 57) ∨ (Int32.toInt r_568 = 0 ∧ (Int32.toInt v_26 < 48 ∨ 57 < Int32.toInt v_26))) := h_569
                        have i_570 := h_569
                        refine dOk_eq (A := Int32.toInt r_568) (B := 0) rfl (by decide) (fun c_571z c_571 => ?_) (fun c_572z c_572 => ?_)
                        · unfold zX10_splits_247
                          refine dOk_L (fun q_574 eq_574 => ?_)
                          try have w_575 : Int32.toInt (q_546.1 0 18) = Int32.toInt (q_425.1 0 18) := by rw [eq_546, dui_o (by decide)]
                          have w_576 : Int32.toInt (q_549.1 0 18) = Int32.toInt (q_546.1 0 18) := by rw [a_555.2 18 (by decide)]
                          try have t_577 : Int32.toInt (q_549.1 0 18 + 1) = Int32.toInt (q_549.1 0 18) + 1 := ti_add rfl (by decide) (by omega) (by omega)
                          have hTq_574 : TS q_574 := by rw [eq_574]; exact ts_f a_554 (ti_rg _).1 (ti_rg _).2
                          have hFq_574 : dFr [9, 10, 11] [18] q q_574 := by rw [eq_574]; exact hFq_549.f (by decide)
                          have w_578 : Int32.toInt (q_574.1 0 18) = Int32.toInt (q_549.1 0 18 + 1) := by rw [eq_574, dui_e]
                          exact hk_2 (q_574, p1, x4_230) (show (TS q_574) ∧ (dFr [9, 10, 11] [18] q_1 q_574) ∧ (p1 = p1) ∧ (0 ≤ Int32.toInt x4_230) ∧ (Int32.toInt x4_230 ≤ Int32.toInt p1) ∧ (0 ≤ Int32.toInt (q_574.1 0 18)) ∧ (Int32.toInt (q_574.1 0 18) ≤ Int32.toInt x4_230) from ⟨hTq_574, (by rw [eq_574]; exact ((((by rw [eq_546]; exact ((by rw [eq_425]; exact ((by rw [eq_422]; exact (((dFr.rf : dFr [9, 10, 11] [18] q_1 q_1).t a_8 (by decide) (by decide)) : dFr [9, 10, 11] [18] q_1 q_4).i (by decide) (by decide)) : dFr [9, 10, 11] [18] q_1 q_422).i (by decide) (by decide)) : dFr [9, 10, 11] [18] q_1 q_425).i (by decide) (by decide)) : dFr [9, 10, 11] [18] q_1 q_546).t a_555 (by decide) (by decide)) : dFr [9, 10, 11] [18] q_1 q_549).f (by decide)), rfl, by omega, by omega, by omega, by omega⟩) (show (Int32.toInt p1 - Int32.toInt x4_230).toNat < (Int32.toInt p1 - Int32.toInt x2_6).toNat by omega)
                        · try have w_579 : Int32.toInt (q_546.1 0 18) = Int32.toInt (q_425.1 0 18) := by rw [eq_546, dui_o (by decide)]
                          have w_580 : Int32.toInt (q_549.1 0 18) = Int32.toInt (q_546.1 0 18) := by rw [a_555.2 18 (by decide)]
                          refine dOk_G (dg_ok (show 0 ≤ Int32.toInt (q_549.1 0 18) by omega) (show Int32.toInt (q_549.1 0 18) < ((401 : Nat) : Int) by omega)) ?_
                          have n_581 : ((Int32.toNatClampNeg (q_549.1 0 18) : Nat) : Int) = Int32.toInt (q_549.1 0 18) := cl_eq (by omega)
                          refine dOk_L (fun v_582 ev_582 => ?_)
                          refine dOk_le (A := Int32.toInt v_582) (B := 1000000) rfl (by decide) (fun c_583 => ?_) (fun c_584 => ?_)
                          · refine dOk_G (dg_ok (show 0 ≤ Int32.toInt (q_549.1 0 18) by omega) (show Int32.toInt (q_549.1 0 18) < ((401 : Nat) : Int) by omega)) ?_
                            refine dOk_L (fun v_585 ev_585 => ?_)
                            have w_586 : Int32.toInt v_585 = Int32.toInt v_582 := by rw [ev_585, ev_582]
                            refine dOk_G (dg_ok (show 0 ≤ Int32.toInt x5_553 by omega) (show Int32.toInt x5_553 < ((400 : Nat) : Int) by omega)) ?_
                            have n_587 : ((Int32.toNatClampNeg x5_553 : Nat) : Int) = Int32.toInt x5_553 := cl_eq (by omega)
                            refine dOk_L (fun v_588 ev_588 => ?_)
                            unfold zX10_splits_240
                            refine dOk_G (dg_ok (show 0 ≤ Int32.toInt (q_549.1 0 18) by omega) (show Int32.toInt (q_549.1 0 18) < ((401 : Nat) : Int) by omega)) ?_
                            refine dOk_L (fun q_589 eq_589 => ?_)
                            have hTq_589 : TS q_589 := by rw [eq_589]; exact ts_any a_554 rfl
                            have hFq_589 : dFr [9, 10, 11] [18] q q_589 := by rw [eq_589]; exact hFq_549.i (by decide) (by decide)
                            try have t_590 : Int32.toInt (x5_553 + 1) = Int32.toInt x5_553 + 1 := ti_add rfl (by decide) (by omega) (by omega)
                            exact hk_547 (q_589, p1, v_26, x4_230, (x5_553 + 1)) (show (TS q_589) ∧ (dFr [10] [] q_546 q_589) ∧ (p1 = p1) ∧ (v_26 = v_26) ∧ (x4_230 = x4_230) ∧ (0 ≤ Int32.toInt (x5_553 + 1)) ∧ (Int32.toInt (x5_553 + 1) ≤ Int32.toInt x4_230) from ⟨hTq_589, (by rw [eq_589]; exact (((dFr.rf : dFr [10] [] q_546 q_546).t a_555 (by decide) (by decide)) : dFr [10] [] q_546 q_549).i (by decide) (by decide)), rfl, rfl, rfl, by omega, by omega⟩) (show (Int32.toInt x4_230 - Int32.toInt (x5_553 + 1)).toNat < (Int32.toInt x4_230 - Int32.toInt x5_553).toNat by omega)
                          · refine dOk_G (dg_ok (show 0 ≤ Int32.toInt (q_549.1 0 18) by omega) (show Int32.toInt (q_549.1 0 18) < ((401 : Nat) : Int) by omega)) ?_
                            refine dOk_L (fun v_591 ev_591 => ?_)
                            have w_592 : Int32.toInt v_591 = Int32.toInt v_582 := by rw [ev_591, ev_582]
                            unfold zX10_splits_240
                            refine dOk_G (dg_ok (show 0 ≤ Int32.toInt (q_549.1 0 18) by omega) (show Int32.toInt (q_549.1 0 18) < ((401 : Nat) : Int) by omega)) ?_
                            refine dOk_L (fun q_593 eq_593 => ?_)
                            have hTq_593 : TS q_593 := by rw [eq_593]; exact ts_any a_554 rfl
                            have hFq_593 : dFr [9, 10, 11] [18] q q_593 := by rw [eq_593]; exact hFq_549.i (by decide) (by decide)
                            try have t_594 : Int32.toInt (x5_553 + 1) = Int32.toInt x5_553 + 1 := ti_add rfl (by decide) (by omega) (by omega)
                            exact hk_547 (q_593, p1, v_26, x4_230, (x5_553 + 1)) (show (TS q_593) ∧ (dFr [10] [] q_546 q_593) ∧ (p1 = p1) ∧ (v_26 = v_26) ∧ (x4_230 = x4_230) ∧ (0 ≤ Int32.toInt (x5_553 + 1)) ∧ (Int32.toInt (x5_553 + 1) ≤ Int32.toInt x4_230) from ⟨hTq_593, (by rw [eq_593]; exact (((dFr.rf : dFr [10] [] q_546 q_546).t a_555 (by decide) (by decide)) : dFr [10] [] q_546 q_549).i (by decide) (by decide)), rfl, rfl, rfl, by omega, by omega⟩) (show (Int32.toInt x4_230 - Int32.toInt (x5_553 + 1)).toNat < (Int32.toInt x4_230 - Int32.toInt x5_553).toNat by omega)
                    · exact (show (TS q_546) ∧ (dFr [10] [] q_546 q_546) ∧ (p1 = p1) ∧ (v_26 = v_26) ∧ (x4_230 = x4_230) ∧ (0 ≤ Int32.toInt x2_6) ∧ (Int32.toInt x2_6 ≤ Int32.toInt x4_230) from ⟨hTq_546, dFr.rf, rfl, rfl, rfl, by omega, by omega⟩)
                    · show (Int32.toInt x4_230 - Int32.toInt x2_6).toNat < 1000000000000
                      omega
                · try have t_595 : Int32.toInt (x4_230 + 1) = Int32.toInt x4_230 + 1 := ti_add rfl (by decide) (by omega) (by omega)
                  exact hk_224 (q_4, p1, x2_6, v_26, (x4_230 + 1)) (show (q_4 = q_4) ∧ (p1 = p1) ∧ (x2_6 = x2_6) ∧ (v_26 = v_26) ∧ (Int32.toInt x2_6 + 1 ≤ Int32.toInt (x4_230 + 1)) ∧ (Int32.toInt (x4_230 + 1) ≤ Int32.toInt p1) from ⟨rfl, rfl, rfl, rfl, by omega, by omega⟩) (show (Int32.toInt p1 - Int32.toInt (x4_230 + 1)).toNat < (Int32.toInt p1 - Int32.toInt x4_230).toNat by omega)
            · try have t_596 : Int32.toInt (x2_6 + 1) = Int32.toInt x2_6 + 1 := ti_add rfl (by decide) (by omega) (by omega)
              exact (show (q_4 = q_4) ∧ (p1 = p1) ∧ (x2_6 = x2_6) ∧ (v_26 = v_26) ∧ (Int32.toInt x2_6 + 1 ≤ Int32.toInt (x2_6 + 1)) ∧ (Int32.toInt (x2_6 + 1) ≤ Int32.toInt p1) from ⟨rfl, rfl, rfl, rfl, by omega, by omega⟩)
            · try have t_597 : Int32.toInt (x2_6 + 1) = Int32.toInt x2_6 + 1 := ti_add rfl (by decide) (by omega) (by omega)
              show (Int32.toInt p1 - Int32.toInt (x2_6 + 1)).toNat < 1000000000000
              omega
        · unfold zX10_splits_43
          refine dFix_ok (fun (a : dS × Int32 × Int32 × Int32 × Int32) => (a.1 = q_4) ∧ (a.2.1 = p1) ∧ (a.2.2.1 = x2_6) ∧ (a.2.2.2.1 = v_26) ∧ (Int32.toInt a.2.2.1 + 1 ≤ Int32.toInt a.2.2.2.2) ∧ (Int32.toInt a.2.2.2.2 ≤ Int32.toInt a.2.1)) (fun (a : dS × Int32 × Int32 × Int32 × Int32) => (Int32.toInt a.2.1 - Int32.toInt a.2.2.2.2).toNat) ?_ _ ?_ _ (dF_gt ?_)
          · intro a ha k_599 hk_598
            obtain ⟨q_600, x1_601, x2_602, x3_603, x4_604⟩ := a
            replace ha : (q_600 = q_4) ∧ (x1_601 = p1) ∧ (x2_602 = x2_6) ∧ (x3_603 = v_26) ∧ (Int32.toInt x2_602 + 1 ≤ Int32.toInt x4_604) ∧ (Int32.toInt x4_604 ≤ Int32.toInt x1_601) := ha
            obtain ⟨a_605, a_606, a_607, a_608, a_609, a_610⟩ := ha
            show dOk (zX10_splits_43b _ (fun q x1 x2 x3 x4 => k_599 (q, x1, x2, x3, x4)) q_600 x1_601 x2_602 x3_603 x4_604) _
            unfold zX10_splits_43b
            subst q_600
            subst x1_601
            subst x2_602
            subst x3_603
            refine dOk_le (A := Int32.toInt p1) (B := Int32.toInt x4_604) rfl rfl (fun c_611 => ?_) (fun c_612 => ?_)
            · unfold zX10_splits_68
              refine dOk_V (ok_isDigit v_26) (fun r_613 h_614 => ?_)
              replace h_614 : ((Int32.toInt r_613 = 1 ∧ 48 ≤ Int32.toInt v_26 ∧ Int32.toInt v_26 ≤ 57) ∨ (Int32.toInt r_613 = 0 ∧ (Int32.toInt v_26 < 48 ∨ 57 < Int32.toInt v_26))) := h_614
              have i_615 := h_614
              refine dOk_eq (A := Int32.toInt r_613) (B := 0) rfl (by decide) (fun c_616z c_616 => ?_) (fun c_617z c_617 => ?_)
              · unfold zX10_splits_100
                refine dOk_G (dg_ok (show 0 ≤ Int32.toInt (q_4.1 0 18) by omega) (show Int32.toInt (q_4.1 0 18) < ((401 : Nat) : Int) by omega)) ?_
                have n_619 : ((Int32.toNatClampNeg (q_4.1 0 18) : Nat) : Int) = Int32.toInt (q_4.1 0 18) := cl_eq (by omega)
                refine dOk_L (fun q_620 eq_620 => ?_)
                have hTq_620 : TS q_620 := by rw [eq_620]; exact ts_set a_7 (by decide) (show 0 ≤ Int32.toInt x2_6 by omega) (show Int32.toInt x2_6 ≤ 400 by omega)
                have hFq_620 : dFr [9, 10, 11] [18] q q_620 := by rw [eq_620]; exact hFq_4.i (by decide) (by decide)
                try have w_621 : Int32.toInt (q_620.1 0 18) = Int32.toInt (q_4.1 0 18) := by rw [eq_620, dui_o (by decide)]
                refine dOk_G (dg_ok (show 0 ≤ Int32.toInt (q_620.1 0 18) by omega) (show Int32.toInt (q_620.1 0 18) < ((401 : Nat) : Int) by omega)) ?_
                have n_622 : ((Int32.toNatClampNeg (q_620.1 0 18) : Nat) : Int) = Int32.toInt (q_620.1 0 18) := cl_eq (by omega)
                refine dOk_L (fun q_623 eq_623 => ?_)
                have hTq_623 : TS q_623 := by rw [eq_623]; exact ts_any hTq_620 rfl
                have hFq_623 : dFr [9, 10, 11] [18] q q_623 := by rw [eq_623]; exact hFq_620.i (by decide) (by decide)
                refine dOk_V (ok_isSmall v_26) (fun r_624 h_625 => ?_)
                replace h_625 : ((Int32.toInt r_624 = 1 ∧ 97 ≤ Int32.toInt v_26 ∧ Int32.toInt v_26 ≤ 122) ∨ (Int32.toInt r_624 = 0 ∧ (Int32.toInt v_26 < 97 ∨ 122 < Int32.toInt v_26))) := h_625
                have i_626 := h_625
                refine dOk_eq (A := Int32.toInt r_624) (B := 0) rfl (by decide) (fun c_627z c_627 => ?_) (fun c_628z c_628 => ?_)
                · refine dOk_V (ok_isDigit v_26) (fun r_630 h_631 => ?_)
                  replace h_631 : ((Int32.toInt r_630 = 1 ∧ 48 ≤ Int32.toInt v_26 ∧ Int32.toInt v_26 ≤ 57) ∨ (Int32.toInt r_630 = 0 ∧ (Int32.toInt v_26 < 48 ∨ 57 < Int32.toInt v_26))) := h_631
                  have i_632 := h_631
                  refine dOk_eq (A := Int32.toInt r_630) (B := 0) rfl (by decide) (fun c_633z c_633 => ?_) (fun c_634z c_634 => ?_)
                  · unfold zX10_splits_165
                    try have w_636 : Int32.toInt (q_623.1 0 18) = Int32.toInt (q_620.1 0 18) := by rw [eq_623, dui_o (by decide)]
                    refine dOk_G (dg_ok (show 0 ≤ Int32.toInt (q_623.1 0 18) by omega) (show Int32.toInt (q_623.1 0 18) < ((401 : Nat) : Int) by omega)) ?_
                    have n_637 : ((Int32.toNatClampNeg (q_623.1 0 18) : Nat) : Int) = Int32.toInt (q_623.1 0 18) := cl_eq (by omega)
                    refine dOk_L (fun q_638 eq_638 => ?_)
                    have hTq_638 : TS q_638 := by rw [eq_638]; exact ts_any hTq_623 rfl
                    have hFq_638 : dFr [9, 10, 11] [18] q q_638 := by rw [eq_638]; exact hFq_623.i (by decide) (by decide)
                    unfold zX10_splits_169
                    refine dFix_ok (fun (a : dS × Int32 × Int32 × Int32 × Int32) => (TS a.1) ∧ (dFr [10] [] q_638 a.1) ∧ (a.2.1 = p1) ∧ (a.2.2.1 = v_26) ∧ (a.2.2.2.1 = x4_604) ∧ (0 ≤ Int32.toInt a.2.2.2.2) ∧ (Int32.toInt a.2.2.2.2 ≤ Int32.toInt a.2.2.2.1)) (fun (a : dS × Int32 × Int32 × Int32 × Int32) => (Int32.toInt a.2.2.2.1 - Int32.toInt a.2.2.2.2).toNat) ?_ _ ?_ _ (dF_gt ?_)
                    · intro a ha k_640 hk_639
                      obtain ⟨q_641, x1_642, x3_643, x4_644, x5_645⟩ := a
                      replace ha : (TS q_641) ∧ (dFr [10] [] q_638 q_641) ∧ (x1_642 = p1) ∧ (x3_643 = v_26) ∧ (x4_644 = x4_604) ∧ (0 ≤ Int32.toInt x5_645) ∧ (Int32.toInt x5_645 ≤ Int32.toInt x4_644) := ha
                      obtain ⟨a_646, a_647, a_648, a_649, a_650, a_651, a_652⟩ := ha
                      show dOk (zX10_splits_169b _ (fun q x1 x3 x4 x5 => k_640 (q, x1, x3, x4, x5)) q_641 x1_642 x3_643 x4_644 x5_645) _
                      unfold zX10_splits_169b
                      have hFq_641 : dFr [9, 10, 11] [18] q q_641 := hFq_638.t a_647 (by decide) (by decide)
                      subst x1_642
                      subst x3_643
                      subst x4_644
                      refine dOk_le (A := Int32.toInt x4_604) (B := Int32.toInt x5_645) rfl rfl (fun c_653 => ?_) (fun c_654 => ?_)
                      · unfold zX10_splits_247
                        refine dOk_L (fun q_655 eq_655 => ?_)
                        try have w_656 : Int32.toInt (q_638.1 0 18) = Int32.toInt (q_623.1 0 18) := by rw [eq_638, dui_o (by decide)]
                        have w_657 : Int32.toInt (q_641.1 0 18) = Int32.toInt (q_638.1 0 18) := by rw [a_647.2 18 (by decide)]
                        try have t_658 : Int32.toInt (q_641.1 0 18 + 1) = Int32.toInt (q_641.1 0 18) + 1 := ti_add rfl (by decide) (by omega) (by omega)
                        have hTq_655 : TS q_655 := by rw [eq_655]; exact ts_f a_646 (ti_rg _).1 (ti_rg _).2
                        have hFq_655 : dFr [9, 10, 11] [18] q q_655 := by rw [eq_655]; exact hFq_641.f (by decide)
                        have w_659 : Int32.toInt (q_655.1 0 18) = Int32.toInt (q_641.1 0 18 + 1) := by rw [eq_655, dui_e]
                        exact hk_2 (q_655, p1, x4_604) (show (TS q_655) ∧ (dFr [9, 10, 11] [18] q_1 q_655) ∧ (p1 = p1) ∧ (0 ≤ Int32.toInt x4_604) ∧ (Int32.toInt x4_604 ≤ Int32.toInt p1) ∧ (0 ≤ Int32.toInt (q_655.1 0 18)) ∧ (Int32.toInt (q_655.1 0 18) ≤ Int32.toInt x4_604) from ⟨hTq_655, (by rw [eq_655]; exact ((((by rw [eq_638]; exact ((by rw [eq_623]; exact ((by rw [eq_620]; exact (((dFr.rf : dFr [9, 10, 11] [18] q_1 q_1).t a_8 (by decide) (by decide)) : dFr [9, 10, 11] [18] q_1 q_4).i (by decide) (by decide)) : dFr [9, 10, 11] [18] q_1 q_620).i (by decide) (by decide)) : dFr [9, 10, 11] [18] q_1 q_623).i (by decide) (by decide)) : dFr [9, 10, 11] [18] q_1 q_638).t a_647 (by decide) (by decide)) : dFr [9, 10, 11] [18] q_1 q_641).f (by decide)), rfl, by omega, by omega, by omega, by omega⟩) (show (Int32.toInt p1 - Int32.toInt x4_604).toNat < (Int32.toInt p1 - Int32.toInt x2_6).toNat by omega)
                      · refine dOk_V (ok_isDigit v_26) (fun r_660 h_661 => ?_)
                        replace h_661 : ((Int32.toInt r_660 = 1 ∧ 48 ≤ Int32.toInt v_26 ∧ Int32.toInt v_26 ≤ 57) ∨ (Int32.toInt r_660 = 0 ∧ (Int32.toInt v_26 < 48 ∨ 57 < Int32.toInt v_26))) := h_661
                        have i_662 := h_661
                        refine dOk_eq (A := Int32.toInt r_660) (B := 0) rfl (by decide) (fun c_663z c_663 => ?_) (fun c_664z c_664 => ?_)
                        · unfold zX10_splits_247
                          refine dOk_L (fun q_666 eq_666 => ?_)
                          try have w_667 : Int32.toInt (q_638.1 0 18) = Int32.toInt (q_623.1 0 18) := by rw [eq_638, dui_o (by decide)]
                          have w_668 : Int32.toInt (q_641.1 0 18) = Int32.toInt (q_638.1 0 18) := by rw [a_647.2 18 (by decide)]
                          try have t_669 : Int32.toInt (q_641.1 0 18 + 1) = Int32.toInt (q_641.1 0 18) + 1 := ti_add rfl (by decide) (by omega) (by omega)
                          have hTq_666 : TS q_666 := by rw [eq_666]; exact ts_f a_646 (ti_rg _).1 (ti_rg _).2
                          have hFq_666 : dFr [9, 10, 11] [18] q q_666 := by rw [eq_666]; exact hFq_641.f (by decide)
                          have w_670 : Int32.toInt (q_666.1 0 18) = Int32.toInt (q_641.1 0 18 + 1) := by rw [eq_666, dui_e]
                          exact hk_2 (q_666, p1, x4_604) (show (TS q_666) ∧ (dFr [9, 10, 11] [18] q_1 q_666) ∧ (p1 = p1) ∧ (0 ≤ Int32.toInt x4_604) ∧ (Int32.toInt x4_604 ≤ Int32.toInt p1) ∧ (0 ≤ Int32.toInt (q_666.1 0 18)) ∧ (Int32.toInt (q_666.1 0 18) ≤ Int32.toInt x4_604) from ⟨hTq_666, (by rw [eq_666]; exact ((((by rw [eq_638]; exact ((by rw [eq_623]; exact ((by rw [eq_620]; exact (((dFr.rf : dFr [9, 10, 11] [18] q_1 q_1).t a_8 (by decide) (by decide)) : dFr [9, 10, 11] [18] q_1 q_4).i (by decide) (by decide)) : dFr [9, 10, 11] [18] q_1 q_620).i (by decide) (by decide)) : dFr [9, 10, 11] [18] q_1 q_623).i (by decide) (by decide)) : dFr [9, 10, 11] [18] q_1 q_638).t a_647 (by decide) (by decide)) : dFr [9, 10, 11] [18] q_1 q_641).f (by decide)), rfl, by omega, by omega, by omega, by omega⟩) (show (Int32.toInt p1 - Int32.toInt x4_604).toNat < (Int32.toInt p1 - Int32.toInt x2_6).toNat by omega)
                        · try have w_671 : Int32.toInt (q_638.1 0 18) = Int32.toInt (q_623.1 0 18) := by rw [eq_638, dui_o (by decide)]
                          have w_672 : Int32.toInt (q_641.1 0 18) = Int32.toInt (q_638.1 0 18) := by rw [a_647.2 18 (by decide)]
                          refine dOk_G (dg_ok (show 0 ≤ Int32.toInt (q_641.1 0 18) by omega) (show Int32.toInt (q_641.1 0 18) < ((401 : Nat) : Int) by omega)) ?_
                          have n_673 : ((Int32.toNatClampNeg (q_641.1 0 18) : Nat) : Int) = Int32.toInt (q_641.1 0 18) := cl_eq (by omega)
                          refine dOk_L (fun v_674 ev_674 => ?_)
                          refine dOk_le (A := Int32.toInt v_674) (B := 1000000) rfl (by decide) (fun c_675 => ?_) (fun c_676 => ?_)
                          · refine dOk_G (dg_ok (show 0 ≤ Int32.toInt (q_641.1 0 18) by omega) (show Int32.toInt (q_641.1 0 18) < ((401 : Nat) : Int) by omega)) ?_
                            refine dOk_L (fun v_677 ev_677 => ?_)
                            have w_678 : Int32.toInt v_677 = Int32.toInt v_674 := by rw [ev_677, ev_674]
                            refine dOk_G (dg_ok (show 0 ≤ Int32.toInt x5_645 by omega) (show Int32.toInt x5_645 < ((400 : Nat) : Int) by omega)) ?_
                            have n_679 : ((Int32.toNatClampNeg x5_645 : Nat) : Int) = Int32.toInt x5_645 := cl_eq (by omega)
                            refine dOk_L (fun v_680 ev_680 => ?_)
                            unfold zX10_splits_240
                            refine dOk_G (dg_ok (show 0 ≤ Int32.toInt (q_641.1 0 18) by omega) (show Int32.toInt (q_641.1 0 18) < ((401 : Nat) : Int) by omega)) ?_
                            refine dOk_L (fun q_681 eq_681 => ?_)
                            have hTq_681 : TS q_681 := by rw [eq_681]; exact ts_any a_646 rfl
                            have hFq_681 : dFr [9, 10, 11] [18] q q_681 := by rw [eq_681]; exact hFq_641.i (by decide) (by decide)
                            try have t_682 : Int32.toInt (x5_645 + 1) = Int32.toInt x5_645 + 1 := ti_add rfl (by decide) (by omega) (by omega)
                            exact hk_639 (q_681, p1, v_26, x4_604, (x5_645 + 1)) (show (TS q_681) ∧ (dFr [10] [] q_638 q_681) ∧ (p1 = p1) ∧ (v_26 = v_26) ∧ (x4_604 = x4_604) ∧ (0 ≤ Int32.toInt (x5_645 + 1)) ∧ (Int32.toInt (x5_645 + 1) ≤ Int32.toInt x4_604) from ⟨hTq_681, (by rw [eq_681]; exact (((dFr.rf : dFr [10] [] q_638 q_638).t a_647 (by decide) (by decide)) : dFr [10] [] q_638 q_641).i (by decide) (by decide)), rfl, rfl, rfl, by omega, by omega⟩) (show (Int32.toInt x4_604 - Int32.toInt (x5_645 + 1)).toNat < (Int32.toInt x4_604 - Int32.toInt x5_645).toNat by omega)
                          · refine dOk_G (dg_ok (show 0 ≤ Int32.toInt (q_641.1 0 18) by omega) (show Int32.toInt (q_641.1 0 18) < ((401 : Nat) : Int) by omega)) ?_
                            refine dOk_L (fun v_683 ev_683 => ?_)
                            have w_684 : Int32.toInt v_683 = Int32.toInt v_674 := by rw [ev_683, ev_674]
                            unfold zX10_splits_240
                            refine dOk_G (dg_ok (show 0 ≤ Int32.toInt (q_641.1 0 18) by omega) (show Int32.toInt (q_641.1 0 18) < ((401 : Nat) : Int) by omega)) ?_
                            refine dOk_L (fun q_685 eq_685 => ?_)
                            have hTq_685 : TS q_685 := by rw [eq_685]; exact ts_any a_646 rfl
                            have hFq_685 : dFr [9, 10, 11] [18] q q_685 := by rw [eq_685]; exact hFq_641.i (by decide) (by decide)
                            try have t_686 : Int32.toInt (x5_645 + 1) = Int32.toInt x5_645 + 1 := ti_add rfl (by decide) (by omega) (by omega)
                            exact hk_639 (q_685, p1, v_26, x4_604, (x5_645 + 1)) (show (TS q_685) ∧ (dFr [10] [] q_638 q_685) ∧ (p1 = p1) ∧ (v_26 = v_26) ∧ (x4_604 = x4_604) ∧ (0 ≤ Int32.toInt (x5_645 + 1)) ∧ (Int32.toInt (x5_645 + 1) ≤ Int32.toInt x4_604) from ⟨hTq_685, (by rw [eq_685]; exact (((dFr.rf : dFr [10] [] q_638 q_638).t a_647 (by decide) (by decide)) : dFr [10] [] q_638 q_641).i (by decide) (by decide)), rfl, rfl, rfl, by omega, by omega⟩) (show (Int32.toInt x4_604 - Int32.toInt (x5_645 + 1)).toNat < (Int32.toInt x4_604 - Int32.toInt x5_645).toNat by omega)
                    · exact (show (TS q_638) ∧ (dFr [10] [] q_638 q_638) ∧ (p1 = p1) ∧ (v_26 = v_26) ∧ (x4_604 = x4_604) ∧ (0 ≤ Int32.toInt x2_6) ∧ (Int32.toInt x2_6 ≤ Int32.toInt x4_604) from ⟨hTq_638, dFr.rf, rfl, rfl, rfl, by omega, by omega⟩)
                    · show (Int32.toInt x4_604 - Int32.toInt x2_6).toNat < 1000000000000
                      omega
                  · unfold zX10_splits_165
                    try have w_687 : Int32.toInt (q_623.1 0 18) = Int32.toInt (q_620.1 0 18) := by rw [eq_623, dui_o (by decide)]
                    refine dOk_G (dg_ok (show 0 ≤ Int32.toInt (q_623.1 0 18) by omega) (show Int32.toInt (q_623.1 0 18) < ((401 : Nat) : Int) by omega)) ?_
                    have n_688 : ((Int32.toNatClampNeg (q_623.1 0 18) : Nat) : Int) = Int32.toInt (q_623.1 0 18) := cl_eq (by omega)
                    refine dOk_L (fun q_689 eq_689 => ?_)
                    have hTq_689 : TS q_689 := by rw [eq_689]; exact ts_any hTq_623 rfl
                    have hFq_689 : dFr [9, 10, 11] [18] q q_689 := by rw [eq_689]; exact hFq_623.i (by decide) (by decide)
                    unfold zX10_splits_169
                    refine dFix_ok (fun (a : dS × Int32 × Int32 × Int32 × Int32) => (TS a.1) ∧ (dFr [10] [] q_689 a.1) ∧ (a.2.1 = p1) ∧ (a.2.2.1 = v_26) ∧ (a.2.2.2.1 = x4_604) ∧ (0 ≤ Int32.toInt a.2.2.2.2) ∧ (Int32.toInt a.2.2.2.2 ≤ Int32.toInt a.2.2.2.1)) (fun (a : dS × Int32 × Int32 × Int32 × Int32) => (Int32.toInt a.2.2.2.1 - Int32.toInt a.2.2.2.2).toNat) ?_ _ ?_ _ (dF_gt ?_)
                    · intro a ha k_691 hk_690
                      obtain ⟨q_692, x1_693, x3_694, x4_695, x5_696⟩ := a
                      replace ha : (TS q_692) ∧ (dFr [10] [] q_689 q_692) ∧ (x1_693 = p1) ∧ (x3_694 = v_26) ∧ (x4_695 = x4_604) ∧ (0 ≤ Int32.toInt x5_696) ∧ (Int32.toInt x5_696 ≤ Int32.toInt x4_695) := ha
                      obtain ⟨a_697, a_698, a_699, a_700, a_701, a_702, a_703⟩ := ha
                      show dOk (zX10_splits_169b _ (fun q x1 x3 x4 x5 => k_691 (q, x1, x3, x4, x5)) q_692 x1_693 x3_694 x4_695 x5_696) _
                      unfold zX10_splits_169b
                      have hFq_692 : dFr [9, 10, 11] [18] q q_692 := hFq_689.t a_698 (by decide) (by decide)
                      subst x1_693
                      subst x3_694
                      subst x4_695
                      refine dOk_le (A := Int32.toInt x4_604) (B := Int32.toInt x5_696) rfl rfl (fun c_704 => ?_) (fun c_705 => ?_)
                      · unfold zX10_splits_247
                        refine dOk_L (fun q_706 eq_706 => ?_)
                        try have w_707 : Int32.toInt (q_689.1 0 18) = Int32.toInt (q_623.1 0 18) := by rw [eq_689, dui_o (by decide)]
                        have w_708 : Int32.toInt (q_692.1 0 18) = Int32.toInt (q_689.1 0 18) := by rw [a_698.2 18 (by decide)]
                        try have t_709 : Int32.toInt (q_692.1 0 18 + 1) = Int32.toInt (q_692.1 0 18) + 1 := ti_add rfl (by decide) (by omega) (by omega)
                        have hTq_706 : TS q_706 := by rw [eq_706]; exact ts_f a_697 (ti_rg _).1 (ti_rg _).2
                        have hFq_706 : dFr [9, 10, 11] [18] q q_706 := by rw [eq_706]; exact hFq_692.f (by decide)
                        have w_710 : Int32.toInt (q_706.1 0 18) = Int32.toInt (q_692.1 0 18 + 1) := by rw [eq_706, dui_e]
                        exact hk_2 (q_706, p1, x4_604) (show (TS q_706) ∧ (dFr [9, 10, 11] [18] q_1 q_706) ∧ (p1 = p1) ∧ (0 ≤ Int32.toInt x4_604) ∧ (Int32.toInt x4_604 ≤ Int32.toInt p1) ∧ (0 ≤ Int32.toInt (q_706.1 0 18)) ∧ (Int32.toInt (q_706.1 0 18) ≤ Int32.toInt x4_604) from ⟨hTq_706, (by rw [eq_706]; exact ((((by rw [eq_689]; exact ((by rw [eq_623]; exact ((by rw [eq_620]; exact (((dFr.rf : dFr [9, 10, 11] [18] q_1 q_1).t a_8 (by decide) (by decide)) : dFr [9, 10, 11] [18] q_1 q_4).i (by decide) (by decide)) : dFr [9, 10, 11] [18] q_1 q_620).i (by decide) (by decide)) : dFr [9, 10, 11] [18] q_1 q_623).i (by decide) (by decide)) : dFr [9, 10, 11] [18] q_1 q_689).t a_698 (by decide) (by decide)) : dFr [9, 10, 11] [18] q_1 q_692).f (by decide)), rfl, by omega, by omega, by omega, by omega⟩) (show (Int32.toInt p1 - Int32.toInt x4_604).toNat < (Int32.toInt p1 - Int32.toInt x2_6).toNat by omega)
                      · refine dOk_V (ok_isDigit v_26) (fun r_711 h_712 => ?_)
                        replace h_712 : ((Int32.toInt r_711 = 1 ∧ 48 ≤ Int32.toInt v_26 ∧ Int32.toInt v_26 ≤ 57) ∨ (Int32.toInt r_711 = 0 ∧ (Int32.toInt v_26 < 48 ∨ 57 < Int32.toInt v_26))) := h_712
                        have i_713 := h_712
                        refine dOk_eq (A := Int32.toInt r_711) (B := 0) rfl (by decide) (fun c_714z c_714 => ?_) (fun c_715z c_715 => ?_)
                        · unfold zX10_splits_247
                          refine dOk_L (fun q_717 eq_717 => ?_)
                          try have w_718 : Int32.toInt (q_689.1 0 18) = Int32.toInt (q_623.1 0 18) := by rw [eq_689, dui_o (by decide)]
                          have w_719 : Int32.toInt (q_692.1 0 18) = Int32.toInt (q_689.1 0 18) := by rw [a_698.2 18 (by decide)]
                          try have t_720 : Int32.toInt (q_692.1 0 18 + 1) = Int32.toInt (q_692.1 0 18) + 1 := ti_add rfl (by decide) (by omega) (by omega)
                          have hTq_717 : TS q_717 := by rw [eq_717]; exact ts_f a_697 (ti_rg _).1 (ti_rg _).2
                          have hFq_717 : dFr [9, 10, 11] [18] q q_717 := by rw [eq_717]; exact hFq_692.f (by decide)
                          have w_721 : Int32.toInt (q_717.1 0 18) = Int32.toInt (q_692.1 0 18 + 1) := by rw [eq_717, dui_e]
                          exact hk_2 (q_717, p1, x4_604) (show (TS q_717) ∧ (dFr [9, 10, 11] [18] q_1 q_717) ∧ (p1 = p1) ∧ (0 ≤ Int32.toInt x4_604) ∧ (Int32.toInt x4_604 ≤ Int32.toInt p1) ∧ (0 ≤ Int32.toInt (q_717.1 0 18)) ∧ (Int32.toInt (q_717.1 0 18) ≤ Int32.toInt x4_604) from ⟨hTq_717, (by rw [eq_717]; exact ((((by rw [eq_689]; exact ((by rw [eq_623]; exact ((by rw [eq_620]; exact (((dFr.rf : dFr [9, 10, 11] [18] q_1 q_1).t a_8 (by decide) (by decide)) : dFr [9, 10, 11] [18] q_1 q_4).i (by decide) (by decide)) : dFr [9, 10, 11] [18] q_1 q_620).i (by decide) (by decide)) : dFr [9, 10, 11] [18] q_1 q_623).i (by decide) (by decide)) : dFr [9, 10, 11] [18] q_1 q_689).t a_698 (by decide) (by decide)) : dFr [9, 10, 11] [18] q_1 q_692).f (by decide)), rfl, by omega, by omega, by omega, by omega⟩) (show (Int32.toInt p1 - Int32.toInt x4_604).toNat < (Int32.toInt p1 - Int32.toInt x2_6).toNat by omega)
                        · try have w_722 : Int32.toInt (q_689.1 0 18) = Int32.toInt (q_623.1 0 18) := by rw [eq_689, dui_o (by decide)]
                          have w_723 : Int32.toInt (q_692.1 0 18) = Int32.toInt (q_689.1 0 18) := by rw [a_698.2 18 (by decide)]
                          refine dOk_G (dg_ok (show 0 ≤ Int32.toInt (q_692.1 0 18) by omega) (show Int32.toInt (q_692.1 0 18) < ((401 : Nat) : Int) by omega)) ?_
                          have n_724 : ((Int32.toNatClampNeg (q_692.1 0 18) : Nat) : Int) = Int32.toInt (q_692.1 0 18) := cl_eq (by omega)
                          refine dOk_L (fun v_725 ev_725 => ?_)
                          refine dOk_le (A := Int32.toInt v_725) (B := 1000000) rfl (by decide) (fun c_726 => ?_) (fun c_727 => ?_)
                          · refine dOk_G (dg_ok (show 0 ≤ Int32.toInt (q_692.1 0 18) by omega) (show Int32.toInt (q_692.1 0 18) < ((401 : Nat) : Int) by omega)) ?_
                            refine dOk_L (fun v_728 ev_728 => ?_)
                            have w_729 : Int32.toInt v_728 = Int32.toInt v_725 := by rw [ev_728, ev_725]
                            refine dOk_G (dg_ok (show 0 ≤ Int32.toInt x5_696 by omega) (show Int32.toInt x5_696 < ((400 : Nat) : Int) by omega)) ?_
                            have n_730 : ((Int32.toNatClampNeg x5_696 : Nat) : Int) = Int32.toInt x5_696 := cl_eq (by omega)
                            refine dOk_L (fun v_731 ev_731 => ?_)
                            unfold zX10_splits_240
                            refine dOk_G (dg_ok (show 0 ≤ Int32.toInt (q_692.1 0 18) by omega) (show Int32.toInt (q_692.1 0 18) < ((401 : Nat) : Int) by omega)) ?_
                            refine dOk_L (fun q_732 eq_732 => ?_)
                            have hTq_732 : TS q_732 := by rw [eq_732]; exact ts_any a_697 rfl
                            have hFq_732 : dFr [9, 10, 11] [18] q q_732 := by rw [eq_732]; exact hFq_692.i (by decide) (by decide)
                            try have t_733 : Int32.toInt (x5_696 + 1) = Int32.toInt x5_696 + 1 := ti_add rfl (by decide) (by omega) (by omega)
                            exact hk_690 (q_732, p1, v_26, x4_604, (x5_696 + 1)) (show (TS q_732) ∧ (dFr [10] [] q_689 q_732) ∧ (p1 = p1) ∧ (v_26 = v_26) ∧ (x4_604 = x4_604) ∧ (0 ≤ Int32.toInt (x5_696 + 1)) ∧ (Int32.toInt (x5_696 + 1) ≤ Int32.toInt x4_604) from ⟨hTq_732, (by rw [eq_732]; exact (((dFr.rf : dFr [10] [] q_689 q_689).t a_698 (by decide) (by decide)) : dFr [10] [] q_689 q_692).i (by decide) (by decide)), rfl, rfl, rfl, by omega, by omega⟩) (show (Int32.toInt x4_604 - Int32.toInt (x5_696 + 1)).toNat < (Int32.toInt x4_604 - Int32.toInt x5_696).toNat by omega)
                          · refine dOk_G (dg_ok (show 0 ≤ Int32.toInt (q_692.1 0 18) by omega) (show Int32.toInt (q_692.1 0 18) < ((401 : Nat) : Int) by omega)) ?_
                            refine dOk_L (fun v_734 ev_734 => ?_)
                            have w_735 : Int32.toInt v_734 = Int32.toInt v_725 := by rw [ev_734, ev_725]
                            unfold zX10_splits_240
                            refine dOk_G (dg_ok (show 0 ≤ Int32.toInt (q_692.1 0 18) by omega) (show Int32.toInt (q_692.1 0 18) < ((401 : Nat) : Int) by omega)) ?_
                            refine dOk_L (fun q_736 eq_736 => ?_)
                            have hTq_736 : TS q_736 := by rw [eq_736]; exact ts_any a_697 rfl
                            have hFq_736 : dFr [9, 10, 11] [18] q q_736 := by rw [eq_736]; exact hFq_692.i (by decide) (by decide)
                            try have t_737 : Int32.toInt (x5_696 + 1) = Int32.toInt x5_696 + 1 := ti_add rfl (by decide) (by omega) (by omega)
                            exact hk_690 (q_736, p1, v_26, x4_604, (x5_696 + 1)) (show (TS q_736) ∧ (dFr [10] [] q_689 q_736) ∧ (p1 = p1) ∧ (v_26 = v_26) ∧ (x4_604 = x4_604) ∧ (0 ≤ Int32.toInt (x5_696 + 1)) ∧ (Int32.toInt (x5_696 + 1) ≤ Int32.toInt x4_604) from ⟨hTq_736, (by rw [eq_736]; exact (((dFr.rf : dFr [10] [] q_689 q_689).t a_698 (by decide) (by decide)) : dFr [10] [] q_689 q_692).i (by decide) (by decide)), rfl, rfl, rfl, by omega, by omega⟩) (show (Int32.toInt x4_604 - Int32.toInt (x5_696 + 1)).toNat < (Int32.toInt x4_604 - Int32.toInt x5_696).toNat by omega)
                    · exact (show (TS q_689) ∧ (dFr [10] [] q_689 q_689) ∧ (p1 = p1) ∧ (v_26 = v_26) ∧ (x4_604 = x4_604) ∧ (0 ≤ Int32.toInt x2_6) ∧ (Int32.toInt x2_6 ≤ Int32.toInt x4_604) from ⟨hTq_689, dFr.rf, rfl, rfl, rfl, by omega, by omega⟩)
                    · show (Int32.toInt x4_604 - Int32.toInt x2_6).toNat < 1000000000000
                      omega
                · refine dOk_B (ok_wordOf q_623 x2_6 x4_604 hTq_623 (show 0 ≤ Int32.toInt x2_6 by omega) (show Int32.toInt x2_6 < Int32.toInt x4_604 by omega) (show Int32.toInt x4_604 ≤ 400 by omega)) (fun r_738 q_739 h_740 => ?_)
                  replace h_740 : (q_739 = q_623) := h_740
                  have i_741 := h_740
                  subst q_739
                  unfold zX10_splits_165
                  try have w_742 : Int32.toInt (q_623.1 0 18) = Int32.toInt (q_620.1 0 18) := by rw [eq_623, dui_o (by decide)]
                  refine dOk_G (dg_ok (show 0 ≤ Int32.toInt (q_623.1 0 18) by omega) (show Int32.toInt (q_623.1 0 18) < ((401 : Nat) : Int) by omega)) ?_
                  have n_743 : ((Int32.toNatClampNeg (q_623.1 0 18) : Nat) : Int) = Int32.toInt (q_623.1 0 18) := cl_eq (by omega)
                  refine dOk_L (fun q_744 eq_744 => ?_)
                  have hTq_744 : TS q_744 := by rw [eq_744]; exact ts_any hTq_623 rfl
                  have hFq_744 : dFr [9, 10, 11] [18] q q_744 := by rw [eq_744]; exact hFq_623.i (by decide) (by decide)
                  unfold zX10_splits_169
                  refine dFix_ok (fun (a : dS × Int32 × Int32 × Int32 × Int32) => (TS a.1) ∧ (dFr [10] [] q_744 a.1) ∧ (a.2.1 = p1) ∧ (a.2.2.1 = v_26) ∧ (a.2.2.2.1 = x4_604) ∧ (0 ≤ Int32.toInt a.2.2.2.2) ∧ (Int32.toInt a.2.2.2.2 ≤ Int32.toInt a.2.2.2.1)) (fun (a : dS × Int32 × Int32 × Int32 × Int32) => (Int32.toInt a.2.2.2.1 - Int32.toInt a.2.2.2.2).toNat) ?_ _ ?_ _ (dF_gt ?_)
                  · intro a ha k_746 hk_745
                    obtain ⟨q_747, x1_748, x3_749, x4_750, x5_751⟩ := a
                    replace ha : (TS q_747) ∧ (dFr [10] [] q_744 q_747) ∧ (x1_748 = p1) ∧ (x3_749 = v_26) ∧ (x4_750 = x4_604) ∧ (0 ≤ Int32.toInt x5_751) ∧ (Int32.toInt x5_751 ≤ Int32.toInt x4_750) := ha
                    obtain ⟨a_752, a_753, a_754, a_755, a_756, a_757, a_758⟩ := ha
                    show dOk (zX10_splits_169b _ (fun q x1 x3 x4 x5 => k_746 (q, x1, x3, x4, x5)) q_747 x1_748 x3_749 x4_750 x5_751) _
                    unfold zX10_splits_169b
                    have hFq_747 : dFr [9, 10, 11] [18] q q_747 := hFq_744.t a_753 (by decide) (by decide)
                    subst x1_748
                    subst x3_749
                    subst x4_750
                    refine dOk_le (A := Int32.toInt x4_604) (B := Int32.toInt x5_751) rfl rfl (fun c_759 => ?_) (fun c_760 => ?_)
                    · unfold zX10_splits_247
                      refine dOk_L (fun q_761 eq_761 => ?_)
                      try have w_762 : Int32.toInt (q_744.1 0 18) = Int32.toInt (q_623.1 0 18) := by rw [eq_744, dui_o (by decide)]
                      have w_763 : Int32.toInt (q_747.1 0 18) = Int32.toInt (q_744.1 0 18) := by rw [a_753.2 18 (by decide)]
                      try have t_764 : Int32.toInt (q_747.1 0 18 + 1) = Int32.toInt (q_747.1 0 18) + 1 := ti_add rfl (by decide) (by omega) (by omega)
                      have hTq_761 : TS q_761 := by rw [eq_761]; exact ts_f a_752 (ti_rg _).1 (ti_rg _).2
                      have hFq_761 : dFr [9, 10, 11] [18] q q_761 := by rw [eq_761]; exact hFq_747.f (by decide)
                      have w_765 : Int32.toInt (q_761.1 0 18) = Int32.toInt (q_747.1 0 18 + 1) := by rw [eq_761, dui_e]
                      exact hk_2 (q_761, p1, x4_604) (show (TS q_761) ∧ (dFr [9, 10, 11] [18] q_1 q_761) ∧ (p1 = p1) ∧ (0 ≤ Int32.toInt x4_604) ∧ (Int32.toInt x4_604 ≤ Int32.toInt p1) ∧ (0 ≤ Int32.toInt (q_761.1 0 18)) ∧ (Int32.toInt (q_761.1 0 18) ≤ Int32.toInt x4_604) from ⟨hTq_761, (by rw [eq_761]; exact ((((by rw [eq_744]; exact ((by rw [eq_623]; exact ((by rw [eq_620]; exact (((dFr.rf : dFr [9, 10, 11] [18] q_1 q_1).t a_8 (by decide) (by decide)) : dFr [9, 10, 11] [18] q_1 q_4).i (by decide) (by decide)) : dFr [9, 10, 11] [18] q_1 q_620).i (by decide) (by decide)) : dFr [9, 10, 11] [18] q_1 q_623).i (by decide) (by decide)) : dFr [9, 10, 11] [18] q_1 q_744).t a_753 (by decide) (by decide)) : dFr [9, 10, 11] [18] q_1 q_747).f (by decide)), rfl, by omega, by omega, by omega, by omega⟩) (show (Int32.toInt p1 - Int32.toInt x4_604).toNat < (Int32.toInt p1 - Int32.toInt x2_6).toNat by omega)
                    · refine dOk_V (ok_isDigit v_26) (fun r_766 h_767 => ?_)
                      replace h_767 : ((Int32.toInt r_766 = 1 ∧ 48 ≤ Int32.toInt v_26 ∧ Int32.toInt v_26 ≤ 57) ∨ (Int32.toInt r_766 = 0 ∧ (Int32.toInt v_26 < 48 ∨ 57 < Int32.toInt v_26))) := h_767
                      have i_768 := h_767
                      refine dOk_eq (A := Int32.toInt r_766) (B := 0) rfl (by decide) (fun c_769z c_769 => ?_) (fun c_770z c_770 => ?_)
                      · unfold zX10_splits_247
                        refine dOk_L (fun q_772 eq_772 => ?_)
                        try have w_773 : Int32.toInt (q_744.1 0 18) = Int32.toInt (q_623.1 0 18) := by rw [eq_744, dui_o (by decide)]
                        have w_774 : Int32.toInt (q_747.1 0 18) = Int32.toInt (q_744.1 0 18) := by rw [a_753.2 18 (by decide)]
                        try have t_775 : Int32.toInt (q_747.1 0 18 + 1) = Int32.toInt (q_747.1 0 18) + 1 := ti_add rfl (by decide) (by omega) (by omega)
                        have hTq_772 : TS q_772 := by rw [eq_772]; exact ts_f a_752 (ti_rg _).1 (ti_rg _).2
                        have hFq_772 : dFr [9, 10, 11] [18] q q_772 := by rw [eq_772]; exact hFq_747.f (by decide)
                        have w_776 : Int32.toInt (q_772.1 0 18) = Int32.toInt (q_747.1 0 18 + 1) := by rw [eq_772, dui_e]
                        exact hk_2 (q_772, p1, x4_604) (show (TS q_772) ∧ (dFr [9, 10, 11] [18] q_1 q_772) ∧ (p1 = p1) ∧ (0 ≤ Int32.toInt x4_604) ∧ (Int32.toInt x4_604 ≤ Int32.toInt p1) ∧ (0 ≤ Int32.toInt (q_772.1 0 18)) ∧ (Int32.toInt (q_772.1 0 18) ≤ Int32.toInt x4_604) from ⟨hTq_772, (by rw [eq_772]; exact ((((by rw [eq_744]; exact ((by rw [eq_623]; exact ((by rw [eq_620]; exact (((dFr.rf : dFr [9, 10, 11] [18] q_1 q_1).t a_8 (by decide) (by decide)) : dFr [9, 10, 11] [18] q_1 q_4).i (by decide) (by decide)) : dFr [9, 10, 11] [18] q_1 q_620).i (by decide) (by decide)) : dFr [9, 10, 11] [18] q_1 q_623).i (by decide) (by decide)) : dFr [9, 10, 11] [18] q_1 q_744).t a_753 (by decide) (by decide)) : dFr [9, 10, 11] [18] q_1 q_747).f (by decide)), rfl, by omega, by omega, by omega, by omega⟩) (show (Int32.toInt p1 - Int32.toInt x4_604).toNat < (Int32.toInt p1 - Int32.toInt x2_6).toNat by omega)
                      · try have w_777 : Int32.toInt (q_744.1 0 18) = Int32.toInt (q_623.1 0 18) := by rw [eq_744, dui_o (by decide)]
                        have w_778 : Int32.toInt (q_747.1 0 18) = Int32.toInt (q_744.1 0 18) := by rw [a_753.2 18 (by decide)]
                        refine dOk_G (dg_ok (show 0 ≤ Int32.toInt (q_747.1 0 18) by omega) (show Int32.toInt (q_747.1 0 18) < ((401 : Nat) : Int) by omega)) ?_
                        have n_779 : ((Int32.toNatClampNeg (q_747.1 0 18) : Nat) : Int) = Int32.toInt (q_747.1 0 18) := cl_eq (by omega)
                        refine dOk_L (fun v_780 ev_780 => ?_)
                        refine dOk_le (A := Int32.toInt v_780) (B := 1000000) rfl (by decide) (fun c_781 => ?_) (fun c_782 => ?_)
                        · refine dOk_G (dg_ok (show 0 ≤ Int32.toInt (q_747.1 0 18) by omega) (show Int32.toInt (q_747.1 0 18) < ((401 : Nat) : Int) by omega)) ?_
                          refine dOk_L (fun v_783 ev_783 => ?_)
                          have w_784 : Int32.toInt v_783 = Int32.toInt v_780 := by rw [ev_783, ev_780]
                          refine dOk_G (dg_ok (show 0 ≤ Int32.toInt x5_751 by omega) (show Int32.toInt x5_751 < ((400 : Nat) : Int) by omega)) ?_
                          have n_785 : ((Int32.toNatClampNeg x5_751 : Nat) : Int) = Int32.toInt x5_751 := cl_eq (by omega)
                          refine dOk_L (fun v_786 ev_786 => ?_)
                          unfold zX10_splits_240
                          refine dOk_G (dg_ok (show 0 ≤ Int32.toInt (q_747.1 0 18) by omega) (show Int32.toInt (q_747.1 0 18) < ((401 : Nat) : Int) by omega)) ?_
                          refine dOk_L (fun q_787 eq_787 => ?_)
                          have hTq_787 : TS q_787 := by rw [eq_787]; exact ts_any a_752 rfl
                          have hFq_787 : dFr [9, 10, 11] [18] q q_787 := by rw [eq_787]; exact hFq_747.i (by decide) (by decide)
                          try have t_788 : Int32.toInt (x5_751 + 1) = Int32.toInt x5_751 + 1 := ti_add rfl (by decide) (by omega) (by omega)
                          exact hk_745 (q_787, p1, v_26, x4_604, (x5_751 + 1)) (show (TS q_787) ∧ (dFr [10] [] q_744 q_787) ∧ (p1 = p1) ∧ (v_26 = v_26) ∧ (x4_604 = x4_604) ∧ (0 ≤ Int32.toInt (x5_751 + 1)) ∧ (Int32.toInt (x5_751 + 1) ≤ Int32.toInt x4_604) from ⟨hTq_787, (by rw [eq_787]; exact (((dFr.rf : dFr [10] [] q_744 q_744).t a_753 (by decide) (by decide)) : dFr [10] [] q_744 q_747).i (by decide) (by decide)), rfl, rfl, rfl, by omega, by omega⟩) (show (Int32.toInt x4_604 - Int32.toInt (x5_751 + 1)).toNat < (Int32.toInt x4_604 - Int32.toInt x5_751).toNat by omega)
                        · refine dOk_G (dg_ok (show 0 ≤ Int32.toInt (q_747.1 0 18) by omega) (show Int32.toInt (q_747.1 0 18) < ((401 : Nat) : Int) by omega)) ?_
                          refine dOk_L (fun v_789 ev_789 => ?_)
                          have w_790 : Int32.toInt v_789 = Int32.toInt v_780 := by rw [ev_789, ev_780]
                          unfold zX10_splits_240
                          refine dOk_G (dg_ok (show 0 ≤ Int32.toInt (q_747.1 0 18) by omega) (show Int32.toInt (q_747.1 0 18) < ((401 : Nat) : Int) by omega)) ?_
                          refine dOk_L (fun q_791 eq_791 => ?_)
                          have hTq_791 : TS q_791 := by rw [eq_791]; exact ts_any a_752 rfl
                          have hFq_791 : dFr [9, 10, 11] [18] q q_791 := by rw [eq_791]; exact hFq_747.i (by decide) (by decide)
                          try have t_792 : Int32.toInt (x5_751 + 1) = Int32.toInt x5_751 + 1 := ti_add rfl (by decide) (by omega) (by omega)
                          exact hk_745 (q_791, p1, v_26, x4_604, (x5_751 + 1)) (show (TS q_791) ∧ (dFr [10] [] q_744 q_791) ∧ (p1 = p1) ∧ (v_26 = v_26) ∧ (x4_604 = x4_604) ∧ (0 ≤ Int32.toInt (x5_751 + 1)) ∧ (Int32.toInt (x5_751 + 1) ≤ Int32.toInt x4_604) from ⟨hTq_791, (by rw [eq_791]; exact (((dFr.rf : dFr [10] [] q_744 q_744).t a_753 (by decide) (by decide)) : dFr [10] [] q_744 q_747).i (by decide) (by decide)), rfl, rfl, rfl, by omega, by omega⟩) (show (Int32.toInt x4_604 - Int32.toInt (x5_751 + 1)).toNat < (Int32.toInt x4_604 - Int32.toInt x5_751).toNat by omega)
                  · exact (show (TS q_744) ∧ (dFr [10] [] q_744 q_744) ∧ (p1 = p1) ∧ (v_26 = v_26) ∧ (x4_604 = x4_604) ∧ (0 ≤ Int32.toInt x2_6) ∧ (Int32.toInt x2_6 ≤ Int32.toInt x4_604) from ⟨hTq_744, dFr.rf, rfl, rfl, rfl, by omega, by omega⟩)
                  · show (Int32.toInt x4_604 - Int32.toInt x2_6).toNat < 1000000000000
                    omega
              · unfold zX10_splits_75
                refine dFix_ok (fun (a : dS × Int32 × Int32 × Int32 × Int32) => (a.1 = q_4) ∧ (a.2.1 = p1) ∧ (a.2.2.1 = x2_6) ∧ (a.2.2.2.1 = v_26) ∧ (Int32.toInt a.2.2.1 + 1 ≤ Int32.toInt a.2.2.2.2) ∧ (Int32.toInt a.2.2.2.2 ≤ Int32.toInt a.2.1)) (fun (a : dS × Int32 × Int32 × Int32 × Int32) => (Int32.toInt a.2.1 - Int32.toInt a.2.2.2.2).toNat) ?_ _ ?_ _ (dF_gt ?_)
                · intro a ha k_794 hk_793
                  obtain ⟨q_795, x1_796, x2_797, x3_798, x4_799⟩ := a
                  replace ha : (q_795 = q_4) ∧ (x1_796 = p1) ∧ (x2_797 = x2_6) ∧ (x3_798 = v_26) ∧ (Int32.toInt x2_797 + 1 ≤ Int32.toInt x4_799) ∧ (Int32.toInt x4_799 ≤ Int32.toInt x1_796) := ha
                  obtain ⟨a_800, a_801, a_802, a_803, a_804, a_805⟩ := ha
                  show dOk (zX10_splits_75b _ (fun q x1 x2 x3 x4 => k_794 (q, x1, x2, x3, x4)) q_795 x1_796 x2_797 x3_798 x4_799) _
                  unfold zX10_splits_75b
                  subst q_795
                  subst x1_796
                  subst x2_797
                  subst x3_798
                  refine dOk_le (A := Int32.toInt p1) (B := Int32.toInt x4_799) rfl rfl (fun c_806 => ?_) (fun c_807 => ?_)
                  · unfold zX10_splits_100
                    refine dOk_G (dg_ok (show 0 ≤ Int32.toInt (q_4.1 0 18) by omega) (show Int32.toInt (q_4.1 0 18) < ((401 : Nat) : Int) by omega)) ?_
                    have n_808 : ((Int32.toNatClampNeg (q_4.1 0 18) : Nat) : Int) = Int32.toInt (q_4.1 0 18) := cl_eq (by omega)
                    refine dOk_L (fun q_809 eq_809 => ?_)
                    have hTq_809 : TS q_809 := by rw [eq_809]; exact ts_set a_7 (by decide) (show 0 ≤ Int32.toInt x2_6 by omega) (show Int32.toInt x2_6 ≤ 400 by omega)
                    have hFq_809 : dFr [9, 10, 11] [18] q q_809 := by rw [eq_809]; exact hFq_4.i (by decide) (by decide)
                    try have w_810 : Int32.toInt (q_809.1 0 18) = Int32.toInt (q_4.1 0 18) := by rw [eq_809, dui_o (by decide)]
                    refine dOk_G (dg_ok (show 0 ≤ Int32.toInt (q_809.1 0 18) by omega) (show Int32.toInt (q_809.1 0 18) < ((401 : Nat) : Int) by omega)) ?_
                    have n_811 : ((Int32.toNatClampNeg (q_809.1 0 18) : Nat) : Int) = Int32.toInt (q_809.1 0 18) := cl_eq (by omega)
                    refine dOk_L (fun q_812 eq_812 => ?_)
                    have hTq_812 : TS q_812 := by rw [eq_812]; exact ts_any hTq_809 rfl
                    have hFq_812 : dFr [9, 10, 11] [18] q q_812 := by rw [eq_812]; exact hFq_809.i (by decide) (by decide)
                    refine dOk_V (ok_isSmall v_26) (fun r_813 h_814 => ?_)
                    replace h_814 : ((Int32.toInt r_813 = 1 ∧ 97 ≤ Int32.toInt v_26 ∧ Int32.toInt v_26 ≤ 122) ∨ (Int32.toInt r_813 = 0 ∧ (Int32.toInt v_26 < 97 ∨ 122 < Int32.toInt v_26))) := h_814
                    have i_815 := h_814
                    refine dOk_eq (A := Int32.toInt r_813) (B := 0) rfl (by decide) (fun c_816z c_816 => ?_) (fun c_817z c_817 => ?_)
                    · refine dOk_V (ok_isDigit v_26) (fun r_819 h_820 => ?_)
                      replace h_820 : ((Int32.toInt r_819 = 1 ∧ 48 ≤ Int32.toInt v_26 ∧ Int32.toInt v_26 ≤ 57) ∨ (Int32.toInt r_819 = 0 ∧ (Int32.toInt v_26 < 48 ∨ 57 < Int32.toInt v_26))) := h_820
                      have i_821 := h_820
                      refine dOk_eq (A := Int32.toInt r_819) (B := 0) rfl (by decide) (fun c_822z c_822 => ?_) (fun c_823z c_823 => ?_)
                      · unfold zX10_splits_165
                        try have w_825 : Int32.toInt (q_812.1 0 18) = Int32.toInt (q_809.1 0 18) := by rw [eq_812, dui_o (by decide)]
                        refine dOk_G (dg_ok (show 0 ≤ Int32.toInt (q_812.1 0 18) by omega) (show Int32.toInt (q_812.1 0 18) < ((401 : Nat) : Int) by omega)) ?_
                        have n_826 : ((Int32.toNatClampNeg (q_812.1 0 18) : Nat) : Int) = Int32.toInt (q_812.1 0 18) := cl_eq (by omega)
                        refine dOk_L (fun q_827 eq_827 => ?_)
                        have hTq_827 : TS q_827 := by rw [eq_827]; exact ts_any hTq_812 rfl
                        have hFq_827 : dFr [9, 10, 11] [18] q q_827 := by rw [eq_827]; exact hFq_812.i (by decide) (by decide)
                        unfold zX10_splits_169
                        refine dFix_ok (fun (a : dS × Int32 × Int32 × Int32 × Int32) => (TS a.1) ∧ (dFr [10] [] q_827 a.1) ∧ (a.2.1 = p1) ∧ (a.2.2.1 = v_26) ∧ (a.2.2.2.1 = x4_799) ∧ (0 ≤ Int32.toInt a.2.2.2.2) ∧ (Int32.toInt a.2.2.2.2 ≤ Int32.toInt a.2.2.2.1)) (fun (a : dS × Int32 × Int32 × Int32 × Int32) => (Int32.toInt a.2.2.2.1 - Int32.toInt a.2.2.2.2).toNat) ?_ _ ?_ _ (dF_gt ?_)
                        · intro a ha k_829 hk_828
                          obtain ⟨q_830, x1_831, x3_832, x4_833, x5_834⟩ := a
                          replace ha : (TS q_830) ∧ (dFr [10] [] q_827 q_830) ∧ (x1_831 = p1) ∧ (x3_832 = v_26) ∧ (x4_833 = x4_799) ∧ (0 ≤ Int32.toInt x5_834) ∧ (Int32.toInt x5_834 ≤ Int32.toInt x4_833) := ha
                          obtain ⟨a_835, a_836, a_837, a_838, a_839, a_840, a_841⟩ := ha
                          show dOk (zX10_splits_169b _ (fun q x1 x3 x4 x5 => k_829 (q, x1, x3, x4, x5)) q_830 x1_831 x3_832 x4_833 x5_834) _
                          unfold zX10_splits_169b
                          have hFq_830 : dFr [9, 10, 11] [18] q q_830 := hFq_827.t a_836 (by decide) (by decide)
                          subst x1_831
                          subst x3_832
                          subst x4_833
                          refine dOk_le (A := Int32.toInt x4_799) (B := Int32.toInt x5_834) rfl rfl (fun c_842 => ?_) (fun c_843 => ?_)
                          · unfold zX10_splits_247
                            refine dOk_L (fun q_844 eq_844 => ?_)
                            try have w_845 : Int32.toInt (q_827.1 0 18) = Int32.toInt (q_812.1 0 18) := by rw [eq_827, dui_o (by decide)]
                            have w_846 : Int32.toInt (q_830.1 0 18) = Int32.toInt (q_827.1 0 18) := by rw [a_836.2 18 (by decide)]
                            try have t_847 : Int32.toInt (q_830.1 0 18 + 1) = Int32.toInt (q_830.1 0 18) + 1 := ti_add rfl (by decide) (by omega) (by omega)
                            have hTq_844 : TS q_844 := by rw [eq_844]; exact ts_f a_835 (ti_rg _).1 (ti_rg _).2
                            have hFq_844 : dFr [9, 10, 11] [18] q q_844 := by rw [eq_844]; exact hFq_830.f (by decide)
                            have w_848 : Int32.toInt (q_844.1 0 18) = Int32.toInt (q_830.1 0 18 + 1) := by rw [eq_844, dui_e]
                            exact hk_2 (q_844, p1, x4_799) (show (TS q_844) ∧ (dFr [9, 10, 11] [18] q_1 q_844) ∧ (p1 = p1) ∧ (0 ≤ Int32.toInt x4_799) ∧ (Int32.toInt x4_799 ≤ Int32.toInt p1) ∧ (0 ≤ Int32.toInt (q_844.1 0 18)) ∧ (Int32.toInt (q_844.1 0 18) ≤ Int32.toInt x4_799) from ⟨hTq_844, (by rw [eq_844]; exact ((((by rw [eq_827]; exact ((by rw [eq_812]; exact ((by rw [eq_809]; exact (((dFr.rf : dFr [9, 10, 11] [18] q_1 q_1).t a_8 (by decide) (by decide)) : dFr [9, 10, 11] [18] q_1 q_4).i (by decide) (by decide)) : dFr [9, 10, 11] [18] q_1 q_809).i (by decide) (by decide)) : dFr [9, 10, 11] [18] q_1 q_812).i (by decide) (by decide)) : dFr [9, 10, 11] [18] q_1 q_827).t a_836 (by decide) (by decide)) : dFr [9, 10, 11] [18] q_1 q_830).f (by decide)), rfl, by omega, by omega, by omega, by omega⟩) (show (Int32.toInt p1 - Int32.toInt x4_799).toNat < (Int32.toInt p1 - Int32.toInt x2_6).toNat by omega)
                          · refine dOk_V (ok_isDigit v_26) (fun r_849 h_850 => ?_)
                            replace h_850 : ((Int32.toInt r_849 = 1 ∧ 48 ≤ Int32.toInt v_26 ∧ Int32.toInt v_26 ≤ 57) ∨ (Int32.toInt r_849 = 0 ∧ (Int32.toInt v_26 < 48 ∨ 57 < Int32.toInt v_26))) := h_850
                            have i_851 := h_850
                            refine dOk_eq (A := Int32.toInt r_849) (B := 0) rfl (by decide) (fun c_852z c_852 => ?_) (fun c_853z c_853 => ?_)
                            · unfold zX10_splits_247
                              refine dOk_L (fun q_855 eq_855 => ?_)
                              try have w_856 : Int32.toInt (q_827.1 0 18) = Int32.toInt (q_812.1 0 18) := by rw [eq_827, dui_o (by decide)]
                              have w_857 : Int32.toInt (q_830.1 0 18) = Int32.toInt (q_827.1 0 18) := by rw [a_836.2 18 (by decide)]
                              try have t_858 : Int32.toInt (q_830.1 0 18 + 1) = Int32.toInt (q_830.1 0 18) + 1 := ti_add rfl (by decide) (by omega) (by omega)
                              have hTq_855 : TS q_855 := by rw [eq_855]; exact ts_f a_835 (ti_rg _).1 (ti_rg _).2
                              have hFq_855 : dFr [9, 10, 11] [18] q q_855 := by rw [eq_855]; exact hFq_830.f (by decide)
                              have w_859 : Int32.toInt (q_855.1 0 18) = Int32.toInt (q_830.1 0 18 + 1) := by rw [eq_855, dui_e]
                              exact hk_2 (q_855, p1, x4_799) (show (TS q_855) ∧ (dFr [9, 10, 11] [18] q_1 q_855) ∧ (p1 = p1) ∧ (0 ≤ Int32.toInt x4_799) ∧ (Int32.toInt x4_799 ≤ Int32.toInt p1) ∧ (0 ≤ Int32.toInt (q_855.1 0 18)) ∧ (Int32.toInt (q_855.1 0 18) ≤ Int32.toInt x4_799) from ⟨hTq_855, (by rw [eq_855]; exact ((((by rw [eq_827]; exact ((by rw [eq_812]; exact ((by rw [eq_809]; exact (((dFr.rf : dFr [9, 10, 11] [18] q_1 q_1).t a_8 (by decide) (by decide)) : dFr [9, 10, 11] [18] q_1 q_4).i (by decide) (by decide)) : dFr [9, 10, 11] [18] q_1 q_809).i (by decide) (by decide)) : dFr [9, 10, 11] [18] q_1 q_812).i (by decide) (by decide)) : dFr [9, 10, 11] [18] q_1 q_827).t a_836 (by decide) (by decide)) : dFr [9, 10, 11] [18] q_1 q_830).f (by decide)), rfl, by omega, by omega, by omega, by omega⟩) (show (Int32.toInt p1 - Int32.toInt x4_799).toNat < (Int32.toInt p1 - Int32.toInt x2_6).toNat by omega)
                            · try have w_860 : Int32.toInt (q_827.1 0 18) = Int32.toInt (q_812.1 0 18) := by rw [eq_827, dui_o (by decide)]
                              have w_861 : Int32.toInt (q_830.1 0 18) = Int32.toInt (q_827.1 0 18) := by rw [a_836.2 18 (by decide)]
                              refine dOk_G (dg_ok (show 0 ≤ Int32.toInt (q_830.1 0 18) by omega) (show Int32.toInt (q_830.1 0 18) < ((401 : Nat) : Int) by omega)) ?_
                              have n_862 : ((Int32.toNatClampNeg (q_830.1 0 18) : Nat) : Int) = Int32.toInt (q_830.1 0 18) := cl_eq (by omega)
                              refine dOk_L (fun v_863 ev_863 => ?_)
                              refine dOk_le (A := Int32.toInt v_863) (B := 1000000) rfl (by decide) (fun c_864 => ?_) (fun c_865 => ?_)
                              · refine dOk_G (dg_ok (show 0 ≤ Int32.toInt (q_830.1 0 18) by omega) (show Int32.toInt (q_830.1 0 18) < ((401 : Nat) : Int) by omega)) ?_
                                refine dOk_L (fun v_866 ev_866 => ?_)
                                have w_867 : Int32.toInt v_866 = Int32.toInt v_863 := by rw [ev_866, ev_863]
                                refine dOk_G (dg_ok (show 0 ≤ Int32.toInt x5_834 by omega) (show Int32.toInt x5_834 < ((400 : Nat) : Int) by omega)) ?_
                                have n_868 : ((Int32.toNatClampNeg x5_834 : Nat) : Int) = Int32.toInt x5_834 := cl_eq (by omega)
                                refine dOk_L (fun v_869 ev_869 => ?_)
                                unfold zX10_splits_240
                                refine dOk_G (dg_ok (show 0 ≤ Int32.toInt (q_830.1 0 18) by omega) (show Int32.toInt (q_830.1 0 18) < ((401 : Nat) : Int) by omega)) ?_
                                refine dOk_L (fun q_870 eq_870 => ?_)
                                have hTq_870 : TS q_870 := by rw [eq_870]; exact ts_any a_835 rfl
                                have hFq_870 : dFr [9, 10, 11] [18] q q_870 := by rw [eq_870]; exact hFq_830.i (by decide) (by decide)
                                try have t_871 : Int32.toInt (x5_834 + 1) = Int32.toInt x5_834 + 1 := ti_add rfl (by decide) (by omega) (by omega)
                                exact hk_828 (q_870, p1, v_26, x4_799, (x5_834 + 1)) (show (TS q_870) ∧ (dFr [10] [] q_827 q_870) ∧ (p1 = p1) ∧ (v_26 = v_26) ∧ (x4_799 = x4_799) ∧ (0 ≤ Int32.toInt (x5_834 + 1)) ∧ (Int32.toInt (x5_834 + 1) ≤ Int32.toInt x4_799) from ⟨hTq_870, (by rw [eq_870]; exact (((dFr.rf : dFr [10] [] q_827 q_827).t a_836 (by decide) (by decide)) : dFr [10] [] q_827 q_830).i (by decide) (by decide)), rfl, rfl, rfl, by omega, by omega⟩) (show (Int32.toInt x4_799 - Int32.toInt (x5_834 + 1)).toNat < (Int32.toInt x4_799 - Int32.toInt x5_834).toNat by omega)
                              · refine dOk_G (dg_ok (show 0 ≤ Int32.toInt (q_830.1 0 18) by omega) (show Int32.toInt (q_830.1 0 18) < ((401 : Nat) : Int) by omega)) ?_
                                refine dOk_L (fun v_872 ev_872 => ?_)
                                have w_873 : Int32.toInt v_872 = Int32.toInt v_863 := by rw [ev_872, ev_863]
                                unfold zX10_splits_240
                                refine dOk_G (dg_ok (show 0 ≤ Int32.toInt (q_830.1 0 18) by omega) (show Int32.toInt (q_830.1 0 18) < ((401 : Nat) : Int) by omega)) ?_
                                refine dOk_L (fun q_874 eq_874 => ?_)
                                have hTq_874 : TS q_874 := by rw [eq_874]; exact ts_any a_835 rfl
                                have hFq_874 : dFr [9, 10, 11] [18] q q_874 := by rw [eq_874]; exact hFq_830.i (by decide) (by decide)
                                try have t_875 : Int32.toInt (x5_834 + 1) = Int32.toInt x5_834 + 1 := ti_add rfl (by decide) (by omega) (by omega)
                                exact hk_828 (q_874, p1, v_26, x4_799, (x5_834 + 1)) (show (TS q_874) ∧ (dFr [10] [] q_827 q_874) ∧ (p1 = p1) ∧ (v_26 = v_26) ∧ (x4_799 = x4_799) ∧ (0 ≤ Int32.toInt (x5_834 + 1)) ∧ (Int32.toInt (x5_834 + 1) ≤ Int32.toInt x4_799) from ⟨hTq_874, (by rw [eq_874]; exact (((dFr.rf : dFr [10] [] q_827 q_827).t a_836 (by decide) (by decide)) : dFr [10] [] q_827 q_830).i (by decide) (by decide)), rfl, rfl, rfl, by omega, by omega⟩) (show (Int32.toInt x4_799 - Int32.toInt (x5_834 + 1)).toNat < (Int32.toInt x4_799 - Int32.toInt x5_834).toNat by omega)
                        · exact (show (TS q_827) ∧ (dFr [10] [] q_827 q_827) ∧ (p1 = p1) ∧ (v_26 = v_26) ∧ (x4_799 = x4_799) ∧ (0 ≤ Int32.toInt x2_6) ∧ (Int32.toInt x2_6 ≤ Int32.toInt x4_799) from ⟨hTq_827, dFr.rf, rfl, rfl, rfl, by omega, by omega⟩)
                        · show (Int32.toInt x4_799 - Int32.toInt x2_6).toNat < 1000000000000
                          omega
                      · unfold zX10_splits_165
                        try have w_876 : Int32.toInt (q_812.1 0 18) = Int32.toInt (q_809.1 0 18) := by rw [eq_812, dui_o (by decide)]
                        refine dOk_G (dg_ok (show 0 ≤ Int32.toInt (q_812.1 0 18) by omega) (show Int32.toInt (q_812.1 0 18) < ((401 : Nat) : Int) by omega)) ?_
                        have n_877 : ((Int32.toNatClampNeg (q_812.1 0 18) : Nat) : Int) = Int32.toInt (q_812.1 0 18) := cl_eq (by omega)
                        refine dOk_L (fun q_878 eq_878 => ?_)
                        have hTq_878 : TS q_878 := by rw [eq_878]; exact ts_any hTq_812 rfl
                        have hFq_878 : dFr [9, 10, 11] [18] q q_878 := by rw [eq_878]; exact hFq_812.i (by decide) (by decide)
                        unfold zX10_splits_169
                        refine dFix_ok (fun (a : dS × Int32 × Int32 × Int32 × Int32) => (TS a.1) ∧ (dFr [10] [] q_878 a.1) ∧ (a.2.1 = p1) ∧ (a.2.2.1 = v_26) ∧ (a.2.2.2.1 = x4_799) ∧ (0 ≤ Int32.toInt a.2.2.2.2) ∧ (Int32.toInt a.2.2.2.2 ≤ Int32.toInt a.2.2.2.1)) (fun (a : dS × Int32 × Int32 × Int32 × Int32) => (Int32.toInt a.2.2.2.1 - Int32.toInt a.2.2.2.2).toNat) ?_ _ ?_ _ (dF_gt ?_)
                        · intro a ha k_880 hk_879
                          obtain ⟨q_881, x1_882, x3_883, x4_884, x5_885⟩ := a
                          replace ha : (TS q_881) ∧ (dFr [10] [] q_878 q_881) ∧ (x1_882 = p1) ∧ (x3_883 = v_26) ∧ (x4_884 = x4_799) ∧ (0 ≤ Int32.toInt x5_885) ∧ (Int32.toInt x5_885 ≤ Int32.toInt x4_884) := ha
                          obtain ⟨a_886, a_887, a_888, a_889, a_890, a_891, a_892⟩ := ha
                          show dOk (zX10_splits_169b _ (fun q x1 x3 x4 x5 => k_880 (q, x1, x3, x4, x5)) q_881 x1_882 x3_883 x4_884 x5_885) _
                          unfold zX10_splits_169b
                          have hFq_881 : dFr [9, 10, 11] [18] q q_881 := hFq_878.t a_887 (by decide) (by decide)
                          subst x1_882
                          subst x3_883
                          subst x4_884
                          refine dOk_le (A := Int32.toInt x4_799) (B := Int32.toInt x5_885) rfl rfl (fun c_893 => ?_) (fun c_894 => ?_)
                          · unfold zX10_splits_247
                            refine dOk_L (fun q_895 eq_895 => ?_)
                            try have w_896 : Int32.toInt (q_878.1 0 18) = Int32.toInt (q_812.1 0 18) := by rw [eq_878, dui_o (by decide)]
                            have w_897 : Int32.toInt (q_881.1 0 18) = Int32.toInt (q_878.1 0 18) := by rw [a_887.2 18 (by decide)]
                            try have t_898 : Int32.toInt (q_881.1 0 18 + 1) = Int32.toInt (q_881.1 0 18) + 1 := ti_add rfl (by decide) (by omega) (by omega)
                            have hTq_895 : TS q_895 := by rw [eq_895]; exact ts_f a_886 (ti_rg _).1 (ti_rg _).2
                            have hFq_895 : dFr [9, 10, 11] [18] q q_895 := by rw [eq_895]; exact hFq_881.f (by decide)
                            have w_899 : Int32.toInt (q_895.1 0 18) = Int32.toInt (q_881.1 0 18 + 1) := by rw [eq_895, dui_e]
                            exact hk_2 (q_895, p1, x4_799) (show (TS q_895) ∧ (dFr [9, 10, 11] [18] q_1 q_895) ∧ (p1 = p1) ∧ (0 ≤ Int32.toInt x4_799) ∧ (Int32.toInt x4_799 ≤ Int32.toInt p1) ∧ (0 ≤ Int32.toInt (q_895.1 0 18)) ∧ (Int32.toInt (q_895.1 0 18) ≤ Int32.toInt x4_799) from ⟨hTq_895, (by rw [eq_895]; exact ((((by rw [eq_878]; exact ((by rw [eq_812]; exact ((by rw [eq_809]; exact (((dFr.rf : dFr [9, 10, 11] [18] q_1 q_1).t a_8 (by decide) (by decide)) : dFr [9, 10, 11] [18] q_1 q_4).i (by decide) (by decide)) : dFr [9, 10, 11] [18] q_1 q_809).i (by decide) (by decide)) : dFr [9, 10, 11] [18] q_1 q_812).i (by decide) (by decide)) : dFr [9, 10, 11] [18] q_1 q_878).t a_887 (by decide) (by decide)) : dFr [9, 10, 11] [18] q_1 q_881).f (by decide)), rfl, by omega, by omega, by omega, by omega⟩) (show (Int32.toInt p1 - Int32.toInt x4_799).toNat < (Int32.toInt p1 - Int32.toInt x2_6).toNat by omega)
                          · refine dOk_V (ok_isDigit v_26) (fun r_900 h_901 => ?_)
                            replace h_901 : ((Int32.toInt r_900 = 1 ∧ 48 ≤ Int32.toInt v_26 ∧ Int32.toInt v_26 ≤ 57) ∨ (Int32.toInt r_900 = 0 ∧ (Int32.toInt v_26 < 48 ∨ 57 < Int32.toInt v_26))) := h_901
                            have i_902 := h_901
                            refine dOk_eq (A := Int32.toInt r_900) (B := 0) rfl (by decide) (fun c_903z c_903 => ?_) (fun c_904z c_904 => ?_)
                            · unfold zX10_splits_247
                              refine dOk_L (fun q_906 eq_906 => ?_)
                              try have w_907 : Int32.toInt (q_878.1 0 18) = Int32.toInt (q_812.1 0 18) := by rw [eq_878, dui_o (by decide)]
                              have w_908 : Int32.toInt (q_881.1 0 18) = Int32.toInt (q_878.1 0 18) := by rw [a_887.2 18 (by decide)]
                              try have t_909 : Int32.toInt (q_881.1 0 18 + 1) = Int32.toInt (q_881.1 0 18) + 1 := ti_add rfl (by decide) (by omega) (by omega)
                              have hTq_906 : TS q_906 := by rw [eq_906]; exact ts_f a_886 (ti_rg _).1 (ti_rg _).2
                              have hFq_906 : dFr [9, 10, 11] [18] q q_906 := by rw [eq_906]; exact hFq_881.f (by decide)
                              have w_910 : Int32.toInt (q_906.1 0 18) = Int32.toInt (q_881.1 0 18 + 1) := by rw [eq_906, dui_e]
                              exact hk_2 (q_906, p1, x4_799) (show (TS q_906) ∧ (dFr [9, 10, 11] [18] q_1 q_906) ∧ (p1 = p1) ∧ (0 ≤ Int32.toInt x4_799) ∧ (Int32.toInt x4_799 ≤ Int32.toInt p1) ∧ (0 ≤ Int32.toInt (q_906.1 0 18)) ∧ (Int32.toInt (q_906.1 0 18) ≤ Int32.toInt x4_799) from ⟨hTq_906, (by rw [eq_906]; exact ((((by rw [eq_878]; exact ((by rw [eq_812]; exact ((by rw [eq_809]; exact (((dFr.rf : dFr [9, 10, 11] [18] q_1 q_1).t a_8 (by decide) (by decide)) : dFr [9, 10, 11] [18] q_1 q_4).i (by decide) (by decide)) : dFr [9, 10, 11] [18] q_1 q_809).i (by decide) (by decide)) : dFr [9, 10, 11] [18] q_1 q_812).i (by decide) (by decide)) : dFr [9, 10, 11] [18] q_1 q_878).t a_887 (by decide) (by decide)) : dFr [9, 10, 11] [18] q_1 q_881).f (by decide)), rfl, by omega, by omega, by omega, by omega⟩) (show (Int32.toInt p1 - Int32.toInt x4_799).toNat < (Int32.toInt p1 - Int32.toInt x2_6).toNat by omega)
                            · try have w_911 : Int32.toInt (q_878.1 0 18) = Int32.toInt (q_812.1 0 18) := by rw [eq_878, dui_o (by decide)]
                              have w_912 : Int32.toInt (q_881.1 0 18) = Int32.toInt (q_878.1 0 18) := by rw [a_887.2 18 (by decide)]
                              refine dOk_G (dg_ok (show 0 ≤ Int32.toInt (q_881.1 0 18) by omega) (show Int32.toInt (q_881.1 0 18) < ((401 : Nat) : Int) by omega)) ?_
                              have n_913 : ((Int32.toNatClampNeg (q_881.1 0 18) : Nat) : Int) = Int32.toInt (q_881.1 0 18) := cl_eq (by omega)
                              refine dOk_L (fun v_914 ev_914 => ?_)
                              refine dOk_le (A := Int32.toInt v_914) (B := 1000000) rfl (by decide) (fun c_915 => ?_) (fun c_916 => ?_)
                              · refine dOk_G (dg_ok (show 0 ≤ Int32.toInt (q_881.1 0 18) by omega) (show Int32.toInt (q_881.1 0 18) < ((401 : Nat) : Int) by omega)) ?_
                                refine dOk_L (fun v_917 ev_917 => ?_)
                                have w_918 : Int32.toInt v_917 = Int32.toInt v_914 := by rw [ev_917, ev_914]
                                refine dOk_G (dg_ok (show 0 ≤ Int32.toInt x5_885 by omega) (show Int32.toInt x5_885 < ((400 : Nat) : Int) by omega)) ?_
                                have n_919 : ((Int32.toNatClampNeg x5_885 : Nat) : Int) = Int32.toInt x5_885 := cl_eq (by omega)
                                refine dOk_L (fun v_920 ev_920 => ?_)
                                unfold zX10_splits_240
                                refine dOk_G (dg_ok (show 0 ≤ Int32.toInt (q_881.1 0 18) by omega) (show Int32.toInt (q_881.1 0 18) < ((401 : Nat) : Int) by omega)) ?_
                                refine dOk_L (fun q_921 eq_921 => ?_)
                                have hTq_921 : TS q_921 := by rw [eq_921]; exact ts_any a_886 rfl
                                have hFq_921 : dFr [9, 10, 11] [18] q q_921 := by rw [eq_921]; exact hFq_881.i (by decide) (by decide)
                                try have t_922 : Int32.toInt (x5_885 + 1) = Int32.toInt x5_885 + 1 := ti_add rfl (by decide) (by omega) (by omega)
                                exact hk_879 (q_921, p1, v_26, x4_799, (x5_885 + 1)) (show (TS q_921) ∧ (dFr [10] [] q_878 q_921) ∧ (p1 = p1) ∧ (v_26 = v_26) ∧ (x4_799 = x4_799) ∧ (0 ≤ Int32.toInt (x5_885 + 1)) ∧ (Int32.toInt (x5_885 + 1) ≤ Int32.toInt x4_799) from ⟨hTq_921, (by rw [eq_921]; exact (((dFr.rf : dFr [10] [] q_878 q_878).t a_887 (by decide) (by decide)) : dFr [10] [] q_878 q_881).i (by decide) (by decide)), rfl, rfl, rfl, by omega, by omega⟩) (show (Int32.toInt x4_799 - Int32.toInt (x5_885 + 1)).toNat < (Int32.toInt x4_799 - Int32.toInt x5_885).toNat by omega)
                              · refine dOk_G (dg_ok (show 0 ≤ Int32.toInt (q_881.1 0 18) by omega) (show Int32.toInt (q_881.1 0 18) < ((401 : Nat) : Int) by omega)) ?_
                                refine dOk_L (fun v_923 ev_923 => ?_)
                                have w_924 : Int32.toInt v_923 = Int32.toInt v_914 := by rw [ev_923, ev_914]
                                unfold zX10_splits_240
                                refine dOk_G (dg_ok (show 0 ≤ Int32.toInt (q_881.1 0 18) by omega) (show Int32.toInt (q_881.1 0 18) < ((401 : Nat) : Int) by omega)) ?_
                                refine dOk_L (fun q_925 eq_925 => ?_)
                                have hTq_925 : TS q_925 := by rw [eq_925]; exact ts_any a_886 rfl
                                have hFq_925 : dFr [9, 10, 11] [18] q q_925 := by rw [eq_925]; exact hFq_881.i (by decide) (by decide)
                                try have t_926 : Int32.toInt (x5_885 + 1) = Int32.toInt x5_885 + 1 := ti_add rfl (by decide) (by omega) (by omega)
                                exact hk_879 (q_925, p1, v_26, x4_799, (x5_885 + 1)) (show (TS q_925) ∧ (dFr [10] [] q_878 q_925) ∧ (p1 = p1) ∧ (v_26 = v_26) ∧ (x4_799 = x4_799) ∧ (0 ≤ Int32.toInt (x5_885 + 1)) ∧ (Int32.toInt (x5_885 + 1) ≤ Int32.toInt x4_799) from ⟨hTq_925, (by rw [eq_925]; exact (((dFr.rf : dFr [10] [] q_878 q_878).t a_887 (by decide) (by decide)) : dFr [10] [] q_878 q_881).i (by decide) (by decide)), rfl, rfl, rfl, by omega, by omega⟩) (show (Int32.toInt x4_799 - Int32.toInt (x5_885 + 1)).toNat < (Int32.toInt x4_799 - Int32.toInt x5_885).toNat by omega)
                        · exact (show (TS q_878) ∧ (dFr [10] [] q_878 q_878) ∧ (p1 = p1) ∧ (v_26 = v_26) ∧ (x4_799 = x4_799) ∧ (0 ≤ Int32.toInt x2_6) ∧ (Int32.toInt x2_6 ≤ Int32.toInt x4_799) from ⟨hTq_878, dFr.rf, rfl, rfl, rfl, by omega, by omega⟩)
                        · show (Int32.toInt x4_799 - Int32.toInt x2_6).toNat < 1000000000000
                          omega
                    · refine dOk_B (ok_wordOf q_812 x2_6 x4_799 hTq_812 (show 0 ≤ Int32.toInt x2_6 by omega) (show Int32.toInt x2_6 < Int32.toInt x4_799 by omega) (show Int32.toInt x4_799 ≤ 400 by omega)) (fun r_927 q_928 h_929 => ?_)
                      replace h_929 : (q_928 = q_812) := h_929
                      have i_930 := h_929
                      subst q_928
                      unfold zX10_splits_165
                      try have w_931 : Int32.toInt (q_812.1 0 18) = Int32.toInt (q_809.1 0 18) := by rw [eq_812, dui_o (by decide)]
                      refine dOk_G (dg_ok (show 0 ≤ Int32.toInt (q_812.1 0 18) by omega) (show Int32.toInt (q_812.1 0 18) < ((401 : Nat) : Int) by omega)) ?_
                      have n_932 : ((Int32.toNatClampNeg (q_812.1 0 18) : Nat) : Int) = Int32.toInt (q_812.1 0 18) := cl_eq (by omega)
                      refine dOk_L (fun q_933 eq_933 => ?_)
                      have hTq_933 : TS q_933 := by rw [eq_933]; exact ts_any hTq_812 rfl
                      have hFq_933 : dFr [9, 10, 11] [18] q q_933 := by rw [eq_933]; exact hFq_812.i (by decide) (by decide)
                      unfold zX10_splits_169
                      refine dFix_ok (fun (a : dS × Int32 × Int32 × Int32 × Int32) => (TS a.1) ∧ (dFr [10] [] q_933 a.1) ∧ (a.2.1 = p1) ∧ (a.2.2.1 = v_26) ∧ (a.2.2.2.1 = x4_799) ∧ (0 ≤ Int32.toInt a.2.2.2.2) ∧ (Int32.toInt a.2.2.2.2 ≤ Int32.toInt a.2.2.2.1)) (fun (a : dS × Int32 × Int32 × Int32 × Int32) => (Int32.toInt a.2.2.2.1 - Int32.toInt a.2.2.2.2).toNat) ?_ _ ?_ _ (dF_gt ?_)
                      · intro a ha k_935 hk_934
                        obtain ⟨q_936, x1_937, x3_938, x4_939, x5_940⟩ := a
                        replace ha : (TS q_936) ∧ (dFr [10] [] q_933 q_936) ∧ (x1_937 = p1) ∧ (x3_938 = v_26) ∧ (x4_939 = x4_799) ∧ (0 ≤ Int32.toInt x5_940) ∧ (Int32.toInt x5_940 ≤ Int32.toInt x4_939) := ha
                        obtain ⟨a_941, a_942, a_943, a_944, a_945, a_946, a_947⟩ := ha
                        show dOk (zX10_splits_169b _ (fun q x1 x3 x4 x5 => k_935 (q, x1, x3, x4, x5)) q_936 x1_937 x3_938 x4_939 x5_940) _
                        unfold zX10_splits_169b
                        have hFq_936 : dFr [9, 10, 11] [18] q q_936 := hFq_933.t a_942 (by decide) (by decide)
                        subst x1_937
                        subst x3_938
                        subst x4_939
                        refine dOk_le (A := Int32.toInt x4_799) (B := Int32.toInt x5_940) rfl rfl (fun c_948 => ?_) (fun c_949 => ?_)
                        · unfold zX10_splits_247
                          refine dOk_L (fun q_950 eq_950 => ?_)
                          try have w_951 : Int32.toInt (q_933.1 0 18) = Int32.toInt (q_812.1 0 18) := by rw [eq_933, dui_o (by decide)]
                          have w_952 : Int32.toInt (q_936.1 0 18) = Int32.toInt (q_933.1 0 18) := by rw [a_942.2 18 (by decide)]
                          try have t_953 : Int32.toInt (q_936.1 0 18 + 1) = Int32.toInt (q_936.1 0 18) + 1 := ti_add rfl (by decide) (by omega) (by omega)
                          have hTq_950 : TS q_950 := by rw [eq_950]; exact ts_f a_941 (ti_rg _).1 (ti_rg _).2
                          have hFq_950 : dFr [9, 10, 11] [18] q q_950 := by rw [eq_950]; exact hFq_936.f (by decide)
                          have w_954 : Int32.toInt (q_950.1 0 18) = Int32.toInt (q_936.1 0 18 + 1) := by rw [eq_950, dui_e]
                          exact hk_2 (q_950, p1, x4_799) (show (TS q_950) ∧ (dFr [9, 10, 11] [18] q_1 q_950) ∧ (p1 = p1) ∧ (0 ≤ Int32.toInt x4_799) ∧ (Int32.toInt x4_799 ≤ Int32.toInt p1) ∧ (0 ≤ Int32.toInt (q_950.1 0 18)) ∧ (Int32.toInt (q_950.1 0 18) ≤ Int32.toInt x4_799) from ⟨hTq_950, (by rw [eq_950]; exact ((((by rw [eq_933]; exact ((by rw [eq_812]; exact ((by rw [eq_809]; exact (((dFr.rf : dFr [9, 10, 11] [18] q_1 q_1).t a_8 (by decide) (by decide)) : dFr [9, 10, 11] [18] q_1 q_4).i (by decide) (by decide)) : dFr [9, 10, 11] [18] q_1 q_809).i (by decide) (by decide)) : dFr [9, 10, 11] [18] q_1 q_812).i (by decide) (by decide)) : dFr [9, 10, 11] [18] q_1 q_933).t a_942 (by decide) (by decide)) : dFr [9, 10, 11] [18] q_1 q_936).f (by decide)), rfl, by omega, by omega, by omega, by omega⟩) (show (Int32.toInt p1 - Int32.toInt x4_799).toNat < (Int32.toInt p1 - Int32.toInt x2_6).toNat by omega)
                        · refine dOk_V (ok_isDigit v_26) (fun r_955 h_956 => ?_)
                          replace h_956 : ((Int32.toInt r_955 = 1 ∧ 48 ≤ Int32.toInt v_26 ∧ Int32.toInt v_26 ≤ 57) ∨ (Int32.toInt r_955 = 0 ∧ (Int32.toInt v_26 < 48 ∨ 57 < Int32.toInt v_26))) := h_956
                          have i_957 := h_956
                          refine dOk_eq (A := Int32.toInt r_955) (B := 0) rfl (by decide) (fun c_958z c_958 => ?_) (fun c_959z c_959 => ?_)
                          · unfold zX10_splits_247
                            refine dOk_L (fun q_961 eq_961 => ?_)
                            try have w_962 : Int32.toInt (q_933.1 0 18) = Int32.toInt (q_812.1 0 18) := by rw [eq_933, dui_o (by decide)]
                            have w_963 : Int32.toInt (q_936.1 0 18) = Int32.toInt (q_933.1 0 18) := by rw [a_942.2 18 (by decide)]
                            try have t_964 : Int32.toInt (q_936.1 0 18 + 1) = Int32.toInt (q_936.1 0 18) + 1 := ti_add rfl (by decide) (by omega) (by omega)
                            have hTq_961 : TS q_961 := by rw [eq_961]; exact ts_f a_941 (ti_rg _).1 (ti_rg _).2
                            have hFq_961 : dFr [9, 10, 11] [18] q q_961 := by rw [eq_961]; exact hFq_936.f (by decide)
                            have w_965 : Int32.toInt (q_961.1 0 18) = Int32.toInt (q_936.1 0 18 + 1) := by rw [eq_961, dui_e]
                            exact hk_2 (q_961, p1, x4_799) (show (TS q_961) ∧ (dFr [9, 10, 11] [18] q_1 q_961) ∧ (p1 = p1) ∧ (0 ≤ Int32.toInt x4_799) ∧ (Int32.toInt x4_799 ≤ Int32.toInt p1) ∧ (0 ≤ Int32.toInt (q_961.1 0 18)) ∧ (Int32.toInt (q_961.1 0 18) ≤ Int32.toInt x4_799) from ⟨hTq_961, (by rw [eq_961]; exact ((((by rw [eq_933]; exact ((by rw [eq_812]; exact ((by rw [eq_809]; exact (((dFr.rf : dFr [9, 10, 11] [18] q_1 q_1).t a_8 (by decide) (by decide)) : dFr [9, 10, 11] [18] q_1 q_4).i (by decide) (by decide)) : dFr [9, 10, 11] [18] q_1 q_809).i (by decide) (by decide)) : dFr [9, 10, 11] [18] q_1 q_812).i (by decide) (by decide)) : dFr [9, 10, 11] [18] q_1 q_933).t a_942 (by decide) (by decide)) : dFr [9, 10, 11] [18] q_1 q_936).f (by decide)), rfl, by omega, by omega, by omega, by omega⟩) (show (Int32.toInt p1 - Int32.toInt x4_799).toNat < (Int32.toInt p1 - Int32.toInt x2_6).toNat by omega)
                          · try have w_966 : Int32.toInt (q_933.1 0 18) = Int32.toInt (q_812.1 0 18) := by rw [eq_933, dui_o (by decide)]
                            have w_967 : Int32.toInt (q_936.1 0 18) = Int32.toInt (q_933.1 0 18) := by rw [a_942.2 18 (by decide)]
                            refine dOk_G (dg_ok (show 0 ≤ Int32.toInt (q_936.1 0 18) by omega) (show Int32.toInt (q_936.1 0 18) < ((401 : Nat) : Int) by omega)) ?_
                            have n_968 : ((Int32.toNatClampNeg (q_936.1 0 18) : Nat) : Int) = Int32.toInt (q_936.1 0 18) := cl_eq (by omega)
                            refine dOk_L (fun v_969 ev_969 => ?_)
                            refine dOk_le (A := Int32.toInt v_969) (B := 1000000) rfl (by decide) (fun c_970 => ?_) (fun c_971 => ?_)
                            · refine dOk_G (dg_ok (show 0 ≤ Int32.toInt (q_936.1 0 18) by omega) (show Int32.toInt (q_936.1 0 18) < ((401 : Nat) : Int) by omega)) ?_
                              refine dOk_L (fun v_972 ev_972 => ?_)
                              have w_973 : Int32.toInt v_972 = Int32.toInt v_969 := by rw [ev_972, ev_969]
                              refine dOk_G (dg_ok (show 0 ≤ Int32.toInt x5_940 by omega) (show Int32.toInt x5_940 < ((400 : Nat) : Int) by omega)) ?_
                              have n_974 : ((Int32.toNatClampNeg x5_940 : Nat) : Int) = Int32.toInt x5_940 := cl_eq (by omega)
                              refine dOk_L (fun v_975 ev_975 => ?_)
                              unfold zX10_splits_240
                              refine dOk_G (dg_ok (show 0 ≤ Int32.toInt (q_936.1 0 18) by omega) (show Int32.toInt (q_936.1 0 18) < ((401 : Nat) : Int) by omega)) ?_
                              refine dOk_L (fun q_976 eq_976 => ?_)
                              have hTq_976 : TS q_976 := by rw [eq_976]; exact ts_any a_941 rfl
                              have hFq_976 : dFr [9, 10, 11] [18] q q_976 := by rw [eq_976]; exact hFq_936.i (by decide) (by decide)
                              try have t_977 : Int32.toInt (x5_940 + 1) = Int32.toInt x5_940 + 1 := ti_add rfl (by decide) (by omega) (by omega)
                              exact hk_934 (q_976, p1, v_26, x4_799, (x5_940 + 1)) (show (TS q_976) ∧ (dFr [10] [] q_933 q_976) ∧ (p1 = p1) ∧ (v_26 = v_26) ∧ (x4_799 = x4_799) ∧ (0 ≤ Int32.toInt (x5_940 + 1)) ∧ (Int32.toInt (x5_940 + 1) ≤ Int32.toInt x4_799) from ⟨hTq_976, (by rw [eq_976]; exact (((dFr.rf : dFr [10] [] q_933 q_933).t a_942 (by decide) (by decide)) : dFr [10] [] q_933 q_936).i (by decide) (by decide)), rfl, rfl, rfl, by omega, by omega⟩) (show (Int32.toInt x4_799 - Int32.toInt (x5_940 + 1)).toNat < (Int32.toInt x4_799 - Int32.toInt x5_940).toNat by omega)
                            · refine dOk_G (dg_ok (show 0 ≤ Int32.toInt (q_936.1 0 18) by omega) (show Int32.toInt (q_936.1 0 18) < ((401 : Nat) : Int) by omega)) ?_
                              refine dOk_L (fun v_978 ev_978 => ?_)
                              have w_979 : Int32.toInt v_978 = Int32.toInt v_969 := by rw [ev_978, ev_969]
                              unfold zX10_splits_240
                              refine dOk_G (dg_ok (show 0 ≤ Int32.toInt (q_936.1 0 18) by omega) (show Int32.toInt (q_936.1 0 18) < ((401 : Nat) : Int) by omega)) ?_
                              refine dOk_L (fun q_980 eq_980 => ?_)
                              have hTq_980 : TS q_980 := by rw [eq_980]; exact ts_any a_941 rfl
                              have hFq_980 : dFr [9, 10, 11] [18] q q_980 := by rw [eq_980]; exact hFq_936.i (by decide) (by decide)
                              try have t_981 : Int32.toInt (x5_940 + 1) = Int32.toInt x5_940 + 1 := ti_add rfl (by decide) (by omega) (by omega)
                              exact hk_934 (q_980, p1, v_26, x4_799, (x5_940 + 1)) (show (TS q_980) ∧ (dFr [10] [] q_933 q_980) ∧ (p1 = p1) ∧ (v_26 = v_26) ∧ (x4_799 = x4_799) ∧ (0 ≤ Int32.toInt (x5_940 + 1)) ∧ (Int32.toInt (x5_940 + 1) ≤ Int32.toInt x4_799) from ⟨hTq_980, (by rw [eq_980]; exact (((dFr.rf : dFr [10] [] q_933 q_933).t a_942 (by decide) (by decide)) : dFr [10] [] q_933 q_936).i (by decide) (by decide)), rfl, rfl, rfl, by omega, by omega⟩) (show (Int32.toInt x4_799 - Int32.toInt (x5_940 + 1)).toNat < (Int32.toInt x4_799 - Int32.toInt x5_940).toNat by omega)
                      · exact (show (TS q_933) ∧ (dFr [10] [] q_933 q_933) ∧ (p1 = p1) ∧ (v_26 = v_26) ∧ (x4_799 = x4_799) ∧ (0 ≤ Int32.toInt x2_6) ∧ (Int32.toInt x2_6 ≤ Int32.toInt x4_799) from ⟨hTq_933, dFr.rf, rfl, rfl, rfl, by omega, by omega⟩)
                      · show (Int32.toInt x4_799 - Int32.toInt x2_6).toNat < 1000000000000
                        omega
                  · refine dOk_G (dg_ok (show 0 ≤ Int32.toInt x4_799 by omega) (show Int32.toInt x4_799 < ((400 : Nat) : Int) by omega)) ?_
                    have n_982 : ((Int32.toNatClampNeg x4_799 : Nat) : Int) = Int32.toInt x4_799 := cl_eq (by omega)
                    refine dOk_L (fun v_983 ev_983 => ?_)
                    refine dOk_V (ok_isDigit v_983) (fun r_984 h_985 => ?_)
                    replace h_985 : ((Int32.toInt r_984 = 1 ∧ 48 ≤ Int32.toInt v_983 ∧ Int32.toInt v_983 ≤ 57) ∨ (Int32.toInt r_984 = 0 ∧ (Int32.toInt v_983 < 48 ∨ 57 < Int32.toInt v_983))) := h_985
                    have i_986 := h_985
                    refine dOk_eq (A := Int32.toInt r_984) (B := 0) rfl (by decide) (fun c_987z c_987 => ?_) (fun c_988z c_988 => ?_)
                    · unfold zX10_splits_100
                      refine dOk_G (dg_ok (show 0 ≤ Int32.toInt (q_4.1 0 18) by omega) (show Int32.toInt (q_4.1 0 18) < ((401 : Nat) : Int) by omega)) ?_
                      have n_990 : ((Int32.toNatClampNeg (q_4.1 0 18) : Nat) : Int) = Int32.toInt (q_4.1 0 18) := cl_eq (by omega)
                      refine dOk_L (fun q_991 eq_991 => ?_)
                      have hTq_991 : TS q_991 := by rw [eq_991]; exact ts_set a_7 (by decide) (show 0 ≤ Int32.toInt x2_6 by omega) (show Int32.toInt x2_6 ≤ 400 by omega)
                      have hFq_991 : dFr [9, 10, 11] [18] q q_991 := by rw [eq_991]; exact hFq_4.i (by decide) (by decide)
                      try have w_992 : Int32.toInt (q_991.1 0 18) = Int32.toInt (q_4.1 0 18) := by rw [eq_991, dui_o (by decide)]
                      refine dOk_G (dg_ok (show 0 ≤ Int32.toInt (q_991.1 0 18) by omega) (show Int32.toInt (q_991.1 0 18) < ((401 : Nat) : Int) by omega)) ?_
                      have n_993 : ((Int32.toNatClampNeg (q_991.1 0 18) : Nat) : Int) = Int32.toInt (q_991.1 0 18) := cl_eq (by omega)
                      refine dOk_L (fun q_994 eq_994 => ?_)
                      have hTq_994 : TS q_994 := by rw [eq_994]; exact ts_any hTq_991 rfl
                      have hFq_994 : dFr [9, 10, 11] [18] q q_994 := by rw [eq_994]; exact hFq_991.i (by decide) (by decide)
                      refine dOk_V (ok_isSmall v_26) (fun r_995 h_996 => ?_)
                      replace h_996 : ((Int32.toInt r_995 = 1 ∧ 97 ≤ Int32.toInt v_26 ∧ Int32.toInt v_26 ≤ 122) ∨ (Int32.toInt r_995 = 0 ∧ (Int32.toInt v_26 < 97 ∨ 122 < Int32.toInt v_26))) := h_996
                      have i_997 := h_996
                      refine dOk_eq (A := Int32.toInt r_995) (B := 0) rfl (by decide) (fun c_998z c_998 => ?_) (fun c_999z c_999 => ?_)
                      · refine dOk_V (ok_isDigit v_26) (fun r_1001 h_1002 => ?_)
                        replace h_1002 : ((Int32.toInt r_1001 = 1 ∧ 48 ≤ Int32.toInt v_26 ∧ Int32.toInt v_26 ≤ 57) ∨ (Int32.toInt r_1001 = 0 ∧ (Int32.toInt v_26 < 48 ∨ 57 < Int32.toInt v_26))) := h_1002
                        have i_1003 := h_1002
                        refine dOk_eq (A := Int32.toInt r_1001) (B := 0) rfl (by decide) (fun c_1004z c_1004 => ?_) (fun c_1005z c_1005 => ?_)
                        · unfold zX10_splits_165
                          try have w_1007 : Int32.toInt (q_994.1 0 18) = Int32.toInt (q_991.1 0 18) := by rw [eq_994, dui_o (by decide)]
                          refine dOk_G (dg_ok (show 0 ≤ Int32.toInt (q_994.1 0 18) by omega) (show Int32.toInt (q_994.1 0 18) < ((401 : Nat) : Int) by omega)) ?_
                          have n_1008 : ((Int32.toNatClampNeg (q_994.1 0 18) : Nat) : Int) = Int32.toInt (q_994.1 0 18) := cl_eq (by omega)
                          refine dOk_L (fun q_1009 eq_1009 => ?_)
                          have hTq_1009 : TS q_1009 := by rw [eq_1009]; exact ts_any hTq_994 rfl
                          have hFq_1009 : dFr [9, 10, 11] [18] q q_1009 := by rw [eq_1009]; exact hFq_994.i (by decide) (by decide)
                          unfold zX10_splits_169
                          refine dFix_ok (fun (a : dS × Int32 × Int32 × Int32 × Int32) => (TS a.1) ∧ (dFr [10] [] q_1009 a.1) ∧ (a.2.1 = p1) ∧ (a.2.2.1 = v_26) ∧ (a.2.2.2.1 = x4_799) ∧ (0 ≤ Int32.toInt a.2.2.2.2) ∧ (Int32.toInt a.2.2.2.2 ≤ Int32.toInt a.2.2.2.1)) (fun (a : dS × Int32 × Int32 × Int32 × Int32) => (Int32.toInt a.2.2.2.1 - Int32.toInt a.2.2.2.2).toNat) ?_ _ ?_ _ (dF_gt ?_)
                          · intro a ha k_1011 hk_1010
                            obtain ⟨q_1012, x1_1013, x3_1014, x4_1015, x5_1016⟩ := a
                            replace ha : (TS q_1012) ∧ (dFr [10] [] q_1009 q_1012) ∧ (x1_1013 = p1) ∧ (x3_1014 = v_26) ∧ (x4_1015 = x4_799) ∧ (0 ≤ Int32.toInt x5_1016) ∧ (Int32.toInt x5_1016 ≤ Int32.toInt x4_1015) := ha
                            obtain ⟨a_1017, a_1018, a_1019, a_1020, a_1021, a_1022, a_1023⟩ := ha
                            show dOk (zX10_splits_169b _ (fun q x1 x3 x4 x5 => k_1011 (q, x1, x3, x4, x5)) q_1012 x1_1013 x3_1014 x4_1015 x5_1016) _
                            unfold zX10_splits_169b
                            have hFq_1012 : dFr [9, 10, 11] [18] q q_1012 := hFq_1009.t a_1018 (by decide) (by decide)
                            subst x1_1013
                            subst x3_1014
                            subst x4_1015
                            refine dOk_le (A := Int32.toInt x4_799) (B := Int32.toInt x5_1016) rfl rfl (fun c_1024 => ?_) (fun c_1025 => ?_)
                            · unfold zX10_splits_247
                              refine dOk_L (fun q_1026 eq_1026 => ?_)
                              try have w_1027 : Int32.toInt (q_1009.1 0 18) = Int32.toInt (q_994.1 0 18) := by rw [eq_1009, dui_o (by decide)]
                              have w_1028 : Int32.toInt (q_1012.1 0 18) = Int32.toInt (q_1009.1 0 18) := by rw [a_1018.2 18 (by decide)]
                              try have t_1029 : Int32.toInt (q_1012.1 0 18 + 1) = Int32.toInt (q_1012.1 0 18) + 1 := ti_add rfl (by decide) (by omega) (by omega)
                              have hTq_1026 : TS q_1026 := by rw [eq_1026]; exact ts_f a_1017 (ti_rg _).1 (ti_rg _).2
                              have hFq_1026 : dFr [9, 10, 11] [18] q q_1026 := by rw [eq_1026]; exact hFq_1012.f (by decide)
                              have w_1030 : Int32.toInt (q_1026.1 0 18) = Int32.toInt (q_1012.1 0 18 + 1) := by rw [eq_1026, dui_e]
                              exact hk_2 (q_1026, p1, x4_799) (show (TS q_1026) ∧ (dFr [9, 10, 11] [18] q_1 q_1026) ∧ (p1 = p1) ∧ (0 ≤ Int32.toInt x4_799) ∧ (Int32.toInt x4_799 ≤ Int32.toInt p1) ∧ (0 ≤ Int32.toInt (q_1026.1 0 18)) ∧ (Int32.toInt (q_1026.1 0 18) ≤ Int32.toInt x4_799) from ⟨hTq_1026, (by rw [eq_1026]; exact ((((by rw [eq_1009]; exact ((by rw [eq_994]; exact ((by rw [eq_991]; exact (((dFr.rf : dFr [9, 10, 11] [18] q_1 q_1).t a_8 (by decide) (by decide)) : dFr [9, 10, 11] [18] q_1 q_4).i (by decide) (by decide)) : dFr [9, 10, 11] [18] q_1 q_991).i (by decide) (by decide)) : dFr [9, 10, 11] [18] q_1 q_994).i (by decide) (by decide)) : dFr [9, 10, 11] [18] q_1 q_1009).t a_1018 (by decide) (by decide)) : dFr [9, 10, 11] [18] q_1 q_1012).f (by decide)), rfl, by omega, by omega, by omega, by omega⟩) (show (Int32.toInt p1 - Int32.toInt x4_799).toNat < (Int32.toInt p1 - Int32.toInt x2_6).toNat by omega)
                            · refine dOk_V (ok_isDigit v_26) (fun r_1031 h_1032 => ?_)
                              replace h_1032 : ((Int32.toInt r_1031 = 1 ∧ 48 ≤ Int32.toInt v_26 ∧ Int32.toInt v_26 ≤ 57) ∨ (Int32.toInt r_1031 = 0 ∧ (Int32.toInt v_26 < 48 ∨ 57 < Int32.toInt v_26))) := h_1032
                              have i_1033 := h_1032
                              refine dOk_eq (A := Int32.toInt r_1031) (B := 0) rfl (by decide) (fun c_1034z c_1034 => ?_) (fun c_1035z c_1035 => ?_)
                              · unfold zX10_splits_247
                                refine dOk_L (fun q_1037 eq_1037 => ?_)
                                try have w_1038 : Int32.toInt (q_1009.1 0 18) = Int32.toInt (q_994.1 0 18) := by rw [eq_1009, dui_o (by decide)]
                                have w_1039 : Int32.toInt (q_1012.1 0 18) = Int32.toInt (q_1009.1 0 18) := by rw [a_1018.2 18 (by decide)]
                                try have t_1040 : Int32.toInt (q_1012.1 0 18 + 1) = Int32.toInt (q_1012.1 0 18) + 1 := ti_add rfl (by decide) (by omega) (by omega)
                                have hTq_1037 : TS q_1037 := by rw [eq_1037]; exact ts_f a_1017 (ti_rg _).1 (ti_rg _).2
                                have hFq_1037 : dFr [9, 10, 11] [18] q q_1037 := by rw [eq_1037]; exact hFq_1012.f (by decide)
                                have w_1041 : Int32.toInt (q_1037.1 0 18) = Int32.toInt (q_1012.1 0 18 + 1) := by rw [eq_1037, dui_e]
                                exact hk_2 (q_1037, p1, x4_799) (show (TS q_1037) ∧ (dFr [9, 10, 11] [18] q_1 q_1037) ∧ (p1 = p1) ∧ (0 ≤ Int32.toInt x4_799) ∧ (Int32.toInt x4_799 ≤ Int32.toInt p1) ∧ (0 ≤ Int32.toInt (q_1037.1 0 18)) ∧ (Int32.toInt (q_1037.1 0 18) ≤ Int32.toInt x4_799) from ⟨hTq_1037, (by rw [eq_1037]; exact ((((by rw [eq_1009]; exact ((by rw [eq_994]; exact ((by rw [eq_991]; exact (((dFr.rf : dFr [9, 10, 11] [18] q_1 q_1).t a_8 (by decide) (by decide)) : dFr [9, 10, 11] [18] q_1 q_4).i (by decide) (by decide)) : dFr [9, 10, 11] [18] q_1 q_991).i (by decide) (by decide)) : dFr [9, 10, 11] [18] q_1 q_994).i (by decide) (by decide)) : dFr [9, 10, 11] [18] q_1 q_1009).t a_1018 (by decide) (by decide)) : dFr [9, 10, 11] [18] q_1 q_1012).f (by decide)), rfl, by omega, by omega, by omega, by omega⟩) (show (Int32.toInt p1 - Int32.toInt x4_799).toNat < (Int32.toInt p1 - Int32.toInt x2_6).toNat by omega)
                              · try have w_1042 : Int32.toInt (q_1009.1 0 18) = Int32.toInt (q_994.1 0 18) := by rw [eq_1009, dui_o (by decide)]
                                have w_1043 : Int32.toInt (q_1012.1 0 18) = Int32.toInt (q_1009.1 0 18) := by rw [a_1018.2 18 (by decide)]
                                refine dOk_G (dg_ok (show 0 ≤ Int32.toInt (q_1012.1 0 18) by omega) (show Int32.toInt (q_1012.1 0 18) < ((401 : Nat) : Int) by omega)) ?_
                                have n_1044 : ((Int32.toNatClampNeg (q_1012.1 0 18) : Nat) : Int) = Int32.toInt (q_1012.1 0 18) := cl_eq (by omega)
                                refine dOk_L (fun v_1045 ev_1045 => ?_)
                                refine dOk_le (A := Int32.toInt v_1045) (B := 1000000) rfl (by decide) (fun c_1046 => ?_) (fun c_1047 => ?_)
                                · refine dOk_G (dg_ok (show 0 ≤ Int32.toInt (q_1012.1 0 18) by omega) (show Int32.toInt (q_1012.1 0 18) < ((401 : Nat) : Int) by omega)) ?_
                                  refine dOk_L (fun v_1048 ev_1048 => ?_)
                                  have w_1049 : Int32.toInt v_1048 = Int32.toInt v_1045 := by rw [ev_1048, ev_1045]
                                  refine dOk_G (dg_ok (show 0 ≤ Int32.toInt x5_1016 by omega) (show Int32.toInt x5_1016 < ((400 : Nat) : Int) by omega)) ?_
                                  have n_1050 : ((Int32.toNatClampNeg x5_1016 : Nat) : Int) = Int32.toInt x5_1016 := cl_eq (by omega)
                                  refine dOk_L (fun v_1051 ev_1051 => ?_)
                                  unfold zX10_splits_240
                                  refine dOk_G (dg_ok (show 0 ≤ Int32.toInt (q_1012.1 0 18) by omega) (show Int32.toInt (q_1012.1 0 18) < ((401 : Nat) : Int) by omega)) ?_
                                  refine dOk_L (fun q_1052 eq_1052 => ?_)
                                  have hTq_1052 : TS q_1052 := by rw [eq_1052]; exact ts_any a_1017 rfl
                                  have hFq_1052 : dFr [9, 10, 11] [18] q q_1052 := by rw [eq_1052]; exact hFq_1012.i (by decide) (by decide)
                                  try have t_1053 : Int32.toInt (x5_1016 + 1) = Int32.toInt x5_1016 + 1 := ti_add rfl (by decide) (by omega) (by omega)
                                  exact hk_1010 (q_1052, p1, v_26, x4_799, (x5_1016 + 1)) (show (TS q_1052) ∧ (dFr [10] [] q_1009 q_1052) ∧ (p1 = p1) ∧ (v_26 = v_26) ∧ (x4_799 = x4_799) ∧ (0 ≤ Int32.toInt (x5_1016 + 1)) ∧ (Int32.toInt (x5_1016 + 1) ≤ Int32.toInt x4_799) from ⟨hTq_1052, (by rw [eq_1052]; exact (((dFr.rf : dFr [10] [] q_1009 q_1009).t a_1018 (by decide) (by decide)) : dFr [10] [] q_1009 q_1012).i (by decide) (by decide)), rfl, rfl, rfl, by omega, by omega⟩) (show (Int32.toInt x4_799 - Int32.toInt (x5_1016 + 1)).toNat < (Int32.toInt x4_799 - Int32.toInt x5_1016).toNat by omega)
                                · refine dOk_G (dg_ok (show 0 ≤ Int32.toInt (q_1012.1 0 18) by omega) (show Int32.toInt (q_1012.1 0 18) < ((401 : Nat) : Int) by omega)) ?_
                                  refine dOk_L (fun v_1054 ev_1054 => ?_)
                                  have w_1055 : Int32.toInt v_1054 = Int32.toInt v_1045 := by rw [ev_1054, ev_1045]
                                  unfold zX10_splits_240
                                  refine dOk_G (dg_ok (show 0 ≤ Int32.toInt (q_1012.1 0 18) by omega) (show Int32.toInt (q_1012.1 0 18) < ((401 : Nat) : Int) by omega)) ?_
                                  refine dOk_L (fun q_1056 eq_1056 => ?_)
                                  have hTq_1056 : TS q_1056 := by rw [eq_1056]; exact ts_any a_1017 rfl
                                  have hFq_1056 : dFr [9, 10, 11] [18] q q_1056 := by rw [eq_1056]; exact hFq_1012.i (by decide) (by decide)
                                  try have t_1057 : Int32.toInt (x5_1016 + 1) = Int32.toInt x5_1016 + 1 := ti_add rfl (by decide) (by omega) (by omega)
                                  exact hk_1010 (q_1056, p1, v_26, x4_799, (x5_1016 + 1)) (show (TS q_1056) ∧ (dFr [10] [] q_1009 q_1056) ∧ (p1 = p1) ∧ (v_26 = v_26) ∧ (x4_799 = x4_799) ∧ (0 ≤ Int32.toInt (x5_1016 + 1)) ∧ (Int32.toInt (x5_1016 + 1) ≤ Int32.toInt x4_799) from ⟨hTq_1056, (by rw [eq_1056]; exact (((dFr.rf : dFr [10] [] q_1009 q_1009).t a_1018 (by decide) (by decide)) : dFr [10] [] q_1009 q_1012).i (by decide) (by decide)), rfl, rfl, rfl, by omega, by omega⟩) (show (Int32.toInt x4_799 - Int32.toInt (x5_1016 + 1)).toNat < (Int32.toInt x4_799 - Int32.toInt x5_1016).toNat by omega)
                          · exact (show (TS q_1009) ∧ (dFr [10] [] q_1009 q_1009) ∧ (p1 = p1) ∧ (v_26 = v_26) ∧ (x4_799 = x4_799) ∧ (0 ≤ Int32.toInt x2_6) ∧ (Int32.toInt x2_6 ≤ Int32.toInt x4_799) from ⟨hTq_1009, dFr.rf, rfl, rfl, rfl, by omega, by omega⟩)
                          · show (Int32.toInt x4_799 - Int32.toInt x2_6).toNat < 1000000000000
                            omega
                        · unfold zX10_splits_165
                          try have w_1058 : Int32.toInt (q_994.1 0 18) = Int32.toInt (q_991.1 0 18) := by rw [eq_994, dui_o (by decide)]
                          refine dOk_G (dg_ok (show 0 ≤ Int32.toInt (q_994.1 0 18) by omega) (show Int32.toInt (q_994.1 0 18) < ((401 : Nat) : Int) by omega)) ?_
                          have n_1059 : ((Int32.toNatClampNeg (q_994.1 0 18) : Nat) : Int) = Int32.toInt (q_994.1 0 18) := cl_eq (by omega)
                          refine dOk_L (fun q_1060 eq_1060 => ?_)
                          have hTq_1060 : TS q_1060 := by rw [eq_1060]; exact ts_any hTq_994 rfl
                          have hFq_1060 : dFr [9, 10, 11] [18] q q_1060 := by rw [eq_1060]; exact hFq_994.i (by decide) (by decide)
                          unfold zX10_splits_169
                          refine dFix_ok (fun (a : dS × Int32 × Int32 × Int32 × Int32) => (TS a.1) ∧ (dFr [10] [] q_1060 a.1) ∧ (a.2.1 = p1) ∧ (a.2.2.1 = v_26) ∧ (a.2.2.2.1 = x4_799) ∧ (0 ≤ Int32.toInt a.2.2.2.2) ∧ (Int32.toInt a.2.2.2.2 ≤ Int32.toInt a.2.2.2.1)) (fun (a : dS × Int32 × Int32 × Int32 × Int32) => (Int32.toInt a.2.2.2.1 - Int32.toInt a.2.2.2.2).toNat) ?_ _ ?_ _ (dF_gt ?_)
                          · intro a ha k_1062 hk_1061
                            obtain ⟨q_1063, x1_1064, x3_1065, x4_1066, x5_1067⟩ := a
                            replace ha : (TS q_1063) ∧ (dFr [10] [] q_1060 q_1063) ∧ (x1_1064 = p1) ∧ (x3_1065 = v_26) ∧ (x4_1066 = x4_799) ∧ (0 ≤ Int32.toInt x5_1067) ∧ (Int32.toInt x5_1067 ≤ Int32.toInt x4_1066) := ha
                            obtain ⟨a_1068, a_1069, a_1070, a_1071, a_1072, a_1073, a_1074⟩ := ha
                            show dOk (zX10_splits_169b _ (fun q x1 x3 x4 x5 => k_1062 (q, x1, x3, x4, x5)) q_1063 x1_1064 x3_1065 x4_1066 x5_1067) _
                            unfold zX10_splits_169b
                            have hFq_1063 : dFr [9, 10, 11] [18] q q_1063 := hFq_1060.t a_1069 (by decide) (by decide)
                            subst x1_1064
                            subst x3_1065
                            subst x4_1066
                            refine dOk_le (A := Int32.toInt x4_799) (B := Int32.toInt x5_1067) rfl rfl (fun c_1075 => ?_) (fun c_1076 => ?_)
                            · unfold zX10_splits_247
                              refine dOk_L (fun q_1077 eq_1077 => ?_)
                              try have w_1078 : Int32.toInt (q_1060.1 0 18) = Int32.toInt (q_994.1 0 18) := by rw [eq_1060, dui_o (by decide)]
                              have w_1079 : Int32.toInt (q_1063.1 0 18) = Int32.toInt (q_1060.1 0 18) := by rw [a_1069.2 18 (by decide)]
                              try have t_1080 : Int32.toInt (q_1063.1 0 18 + 1) = Int32.toInt (q_1063.1 0 18) + 1 := ti_add rfl (by decide) (by omega) (by omega)
                              have hTq_1077 : TS q_1077 := by rw [eq_1077]; exact ts_f a_1068 (ti_rg _).1 (ti_rg _).2
                              have hFq_1077 : dFr [9, 10, 11] [18] q q_1077 := by rw [eq_1077]; exact hFq_1063.f (by decide)
                              have w_1081 : Int32.toInt (q_1077.1 0 18) = Int32.toInt (q_1063.1 0 18 + 1) := by rw [eq_1077, dui_e]
                              exact hk_2 (q_1077, p1, x4_799) (show (TS q_1077) ∧ (dFr [9, 10, 11] [18] q_1 q_1077) ∧ (p1 = p1) ∧ (0 ≤ Int32.toInt x4_799) ∧ (Int32.toInt x4_799 ≤ Int32.toInt p1) ∧ (0 ≤ Int32.toInt (q_1077.1 0 18)) ∧ (Int32.toInt (q_1077.1 0 18) ≤ Int32.toInt x4_799) from ⟨hTq_1077, (by rw [eq_1077]; exact ((((by rw [eq_1060]; exact ((by rw [eq_994]; exact ((by rw [eq_991]; exact (((dFr.rf : dFr [9, 10, 11] [18] q_1 q_1).t a_8 (by decide) (by decide)) : dFr [9, 10, 11] [18] q_1 q_4).i (by decide) (by decide)) : dFr [9, 10, 11] [18] q_1 q_991).i (by decide) (by decide)) : dFr [9, 10, 11] [18] q_1 q_994).i (by decide) (by decide)) : dFr [9, 10, 11] [18] q_1 q_1060).t a_1069 (by decide) (by decide)) : dFr [9, 10, 11] [18] q_1 q_1063).f (by decide)), rfl, by omega, by omega, by omega, by omega⟩) (show (Int32.toInt p1 - Int32.toInt x4_799).toNat < (Int32.toInt p1 - Int32.toInt x2_6).toNat by omega)
                            · refine dOk_V (ok_isDigit v_26) (fun r_1082 h_1083 => ?_)
                              replace h_1083 : ((Int32.toInt r_1082 = 1 ∧ 48 ≤ Int32.toInt v_26 ∧ Int32.toInt v_26 ≤ 57) ∨ (Int32.toInt r_1082 = 0 ∧ (Int32.toInt v_26 < 48 ∨ 57 < Int32.toInt v_26))) := h_1083
                              have i_1084 := h_1083
                              refine dOk_eq (A := Int32.toInt r_1082) (B := 0) rfl (by decide) (fun c_1085z c_1085 => ?_) (fun c_1086z c_1086 => ?_)
                              · unfold zX10_splits_247
                                refine dOk_L (fun q_1088 eq_1088 => ?_)
                                try have w_1089 : Int32.toInt (q_1060.1 0 18) = Int32.toInt (q_994.1 0 18) := by rw [eq_1060, dui_o (by decide)]
                                have w_1090 : Int32.toInt (q_1063.1 0 18) = Int32.toInt (q_1060.1 0 18) := by rw [a_1069.2 18 (by decide)]
                                try have t_1091 : Int32.toInt (q_1063.1 0 18 + 1) = Int32.toInt (q_1063.1 0 18) + 1 := ti_add rfl (by decide) (by omega) (by omega)
                                have hTq_1088 : TS q_1088 := by rw [eq_1088]; exact ts_f a_1068 (ti_rg _).1 (ti_rg _).2
                                have hFq_1088 : dFr [9, 10, 11] [18] q q_1088 := by rw [eq_1088]; exact hFq_1063.f (by decide)
                                have w_1092 : Int32.toInt (q_1088.1 0 18) = Int32.toInt (q_1063.1 0 18 + 1) := by rw [eq_1088, dui_e]
                                exact hk_2 (q_1088, p1, x4_799) (show (TS q_1088) ∧ (dFr [9, 10, 11] [18] q_1 q_1088) ∧ (p1 = p1) ∧ (0 ≤ Int32.toInt x4_799) ∧ (Int32.toInt x4_799 ≤ Int32.toInt p1) ∧ (0 ≤ Int32.toInt (q_1088.1 0 18)) ∧ (Int32.toInt (q_1088.1 0 18) ≤ Int32.toInt x4_799) from ⟨hTq_1088, (by rw [eq_1088]; exact ((((by rw [eq_1060]; exact ((by rw [eq_994]; exact ((by rw [eq_991]; exact (((dFr.rf : dFr [9, 10, 11] [18] q_1 q_1).t a_8 (by decide) (by decide)) : dFr [9, 10, 11] [18] q_1 q_4).i (by decide) (by decide)) : dFr [9, 10, 11] [18] q_1 q_991).i (by decide) (by decide)) : dFr [9, 10, 11] [18] q_1 q_994).i (by decide) (by decide)) : dFr [9, 10, 11] [18] q_1 q_1060).t a_1069 (by decide) (by decide)) : dFr [9, 10, 11] [18] q_1 q_1063).f (by decide)), rfl, by omega, by omega, by omega, by omega⟩) (show (Int32.toInt p1 - Int32.toInt x4_799).toNat < (Int32.toInt p1 - Int32.toInt x2_6).toNat by omega)
                              · try have w_1093 : Int32.toInt (q_1060.1 0 18) = Int32.toInt (q_994.1 0 18) := by rw [eq_1060, dui_o (by decide)]
                                have w_1094 : Int32.toInt (q_1063.1 0 18) = Int32.toInt (q_1060.1 0 18) := by rw [a_1069.2 18 (by decide)]
                                refine dOk_G (dg_ok (show 0 ≤ Int32.toInt (q_1063.1 0 18) by omega) (show Int32.toInt (q_1063.1 0 18) < ((401 : Nat) : Int) by omega)) ?_
                                have n_1095 : ((Int32.toNatClampNeg (q_1063.1 0 18) : Nat) : Int) = Int32.toInt (q_1063.1 0 18) := cl_eq (by omega)
                                refine dOk_L (fun v_1096 ev_1096 => ?_)
                                refine dOk_le (A := Int32.toInt v_1096) (B := 1000000) rfl (by decide) (fun c_1097 => ?_) (fun c_1098 => ?_)
                                · refine dOk_G (dg_ok (show 0 ≤ Int32.toInt (q_1063.1 0 18) by omega) (show Int32.toInt (q_1063.1 0 18) < ((401 : Nat) : Int) by omega)) ?_
                                  refine dOk_L (fun v_1099 ev_1099 => ?_)
                                  have w_1100 : Int32.toInt v_1099 = Int32.toInt v_1096 := by rw [ev_1099, ev_1096]
                                  refine dOk_G (dg_ok (show 0 ≤ Int32.toInt x5_1067 by omega) (show Int32.toInt x5_1067 < ((400 : Nat) : Int) by omega)) ?_
                                  have n_1101 : ((Int32.toNatClampNeg x5_1067 : Nat) : Int) = Int32.toInt x5_1067 := cl_eq (by omega)
                                  refine dOk_L (fun v_1102 ev_1102 => ?_)
                                  unfold zX10_splits_240
                                  refine dOk_G (dg_ok (show 0 ≤ Int32.toInt (q_1063.1 0 18) by omega) (show Int32.toInt (q_1063.1 0 18) < ((401 : Nat) : Int) by omega)) ?_
                                  refine dOk_L (fun q_1103 eq_1103 => ?_)
                                  have hTq_1103 : TS q_1103 := by rw [eq_1103]; exact ts_any a_1068 rfl
                                  have hFq_1103 : dFr [9, 10, 11] [18] q q_1103 := by rw [eq_1103]; exact hFq_1063.i (by decide) (by decide)
                                  try have t_1104 : Int32.toInt (x5_1067 + 1) = Int32.toInt x5_1067 + 1 := ti_add rfl (by decide) (by omega) (by omega)
                                  exact hk_1061 (q_1103, p1, v_26, x4_799, (x5_1067 + 1)) (show (TS q_1103) ∧ (dFr [10] [] q_1060 q_1103) ∧ (p1 = p1) ∧ (v_26 = v_26) ∧ (x4_799 = x4_799) ∧ (0 ≤ Int32.toInt (x5_1067 + 1)) ∧ (Int32.toInt (x5_1067 + 1) ≤ Int32.toInt x4_799) from ⟨hTq_1103, (by rw [eq_1103]; exact (((dFr.rf : dFr [10] [] q_1060 q_1060).t a_1069 (by decide) (by decide)) : dFr [10] [] q_1060 q_1063).i (by decide) (by decide)), rfl, rfl, rfl, by omega, by omega⟩) (show (Int32.toInt x4_799 - Int32.toInt (x5_1067 + 1)).toNat < (Int32.toInt x4_799 - Int32.toInt x5_1067).toNat by omega)
                                · refine dOk_G (dg_ok (show 0 ≤ Int32.toInt (q_1063.1 0 18) by omega) (show Int32.toInt (q_1063.1 0 18) < ((401 : Nat) : Int) by omega)) ?_
                                  refine dOk_L (fun v_1105 ev_1105 => ?_)
                                  have w_1106 : Int32.toInt v_1105 = Int32.toInt v_1096 := by rw [ev_1105, ev_1096]
                                  unfold zX10_splits_240
                                  refine dOk_G (dg_ok (show 0 ≤ Int32.toInt (q_1063.1 0 18) by omega) (show Int32.toInt (q_1063.1 0 18) < ((401 : Nat) : Int) by omega)) ?_
                                  refine dOk_L (fun q_1107 eq_1107 => ?_)
                                  have hTq_1107 : TS q_1107 := by rw [eq_1107]; exact ts_any a_1068 rfl
                                  have hFq_1107 : dFr [9, 10, 11] [18] q q_1107 := by rw [eq_1107]; exact hFq_1063.i (by decide) (by decide)
                                  try have t_1108 : Int32.toInt (x5_1067 + 1) = Int32.toInt x5_1067 + 1 := ti_add rfl (by decide) (by omega) (by omega)
                                  exact hk_1061 (q_1107, p1, v_26, x4_799, (x5_1067 + 1)) (show (TS q_1107) ∧ (dFr [10] [] q_1060 q_1107) ∧ (p1 = p1) ∧ (v_26 = v_26) ∧ (x4_799 = x4_799) ∧ (0 ≤ Int32.toInt (x5_1067 + 1)) ∧ (Int32.toInt (x5_1067 + 1) ≤ Int32.toInt x4_799) from ⟨hTq_1107, (by rw [eq_1107]; exact (((dFr.rf : dFr [10] [] q_1060 q_1060).t a_1069 (by decide) (by decide)) : dFr [10] [] q_1060 q_1063).i (by decide) (by decide)), rfl, rfl, rfl, by omega, by omega⟩) (show (Int32.toInt x4_799 - Int32.toInt (x5_1067 + 1)).toNat < (Int32.toInt x4_799 - Int32.toInt x5_1067).toNat by omega)
                          · exact (show (TS q_1060) ∧ (dFr [10] [] q_1060 q_1060) ∧ (p1 = p1) ∧ (v_26 = v_26) ∧ (x4_799 = x4_799) ∧ (0 ≤ Int32.toInt x2_6) ∧ (Int32.toInt x2_6 ≤ Int32.toInt x4_799) from ⟨hTq_1060, dFr.rf, rfl, rfl, rfl, by omega, by omega⟩)
                          · show (Int32.toInt x4_799 - Int32.toInt x2_6).toNat < 1000000000000
                            omega
                      · refine dOk_B (ok_wordOf q_994 x2_6 x4_799 hTq_994 (show 0 ≤ Int32.toInt x2_6 by omega) (show Int32.toInt x2_6 < Int32.toInt x4_799 by omega) (show Int32.toInt x4_799 ≤ 400 by omega)) (fun r_1109 q_1110 h_1111 => ?_)
                        replace h_1111 : (q_1110 = q_994) := h_1111
                        have i_1112 := h_1111
                        subst q_1110
                        unfold zX10_splits_165
                        try have w_1113 : Int32.toInt (q_994.1 0 18) = Int32.toInt (q_991.1 0 18) := by rw [eq_994, dui_o (by decide)]
                        refine dOk_G (dg_ok (show 0 ≤ Int32.toInt (q_994.1 0 18) by omega) (show Int32.toInt (q_994.1 0 18) < ((401 : Nat) : Int) by omega)) ?_
                        have n_1114 : ((Int32.toNatClampNeg (q_994.1 0 18) : Nat) : Int) = Int32.toInt (q_994.1 0 18) := cl_eq (by omega)
                        refine dOk_L (fun q_1115 eq_1115 => ?_)
                        have hTq_1115 : TS q_1115 := by rw [eq_1115]; exact ts_any hTq_994 rfl
                        have hFq_1115 : dFr [9, 10, 11] [18] q q_1115 := by rw [eq_1115]; exact hFq_994.i (by decide) (by decide)
                        unfold zX10_splits_169
                        refine dFix_ok (fun (a : dS × Int32 × Int32 × Int32 × Int32) => (TS a.1) ∧ (dFr [10] [] q_1115 a.1) ∧ (a.2.1 = p1) ∧ (a.2.2.1 = v_26) ∧ (a.2.2.2.1 = x4_799) ∧ (0 ≤ Int32.toInt a.2.2.2.2) ∧ (Int32.toInt a.2.2.2.2 ≤ Int32.toInt a.2.2.2.1)) (fun (a : dS × Int32 × Int32 × Int32 × Int32) => (Int32.toInt a.2.2.2.1 - Int32.toInt a.2.2.2.2).toNat) ?_ _ ?_ _ (dF_gt ?_)
                        · intro a ha k_1117 hk_1116
                          obtain ⟨q_1118, x1_1119, x3_1120, x4_1121, x5_1122⟩ := a
                          replace ha : (TS q_1118) ∧ (dFr [10] [] q_1115 q_1118) ∧ (x1_1119 = p1) ∧ (x3_1120 = v_26) ∧ (x4_1121 = x4_799) ∧ (0 ≤ Int32.toInt x5_1122) ∧ (Int32.toInt x5_1122 ≤ Int32.toInt x4_1121) := ha
                          obtain ⟨a_1123, a_1124, a_1125, a_1126, a_1127, a_1128, a_1129⟩ := ha
                          show dOk (zX10_splits_169b _ (fun q x1 x3 x4 x5 => k_1117 (q, x1, x3, x4, x5)) q_1118 x1_1119 x3_1120 x4_1121 x5_1122) _
                          unfold zX10_splits_169b
                          have hFq_1118 : dFr [9, 10, 11] [18] q q_1118 := hFq_1115.t a_1124 (by decide) (by decide)
                          subst x1_1119
                          subst x3_1120
                          subst x4_1121
                          refine dOk_le (A := Int32.toInt x4_799) (B := Int32.toInt x5_1122) rfl rfl (fun c_1130 => ?_) (fun c_1131 => ?_)
                          · unfold zX10_splits_247
                            refine dOk_L (fun q_1132 eq_1132 => ?_)
                            try have w_1133 : Int32.toInt (q_1115.1 0 18) = Int32.toInt (q_994.1 0 18) := by rw [eq_1115, dui_o (by decide)]
                            have w_1134 : Int32.toInt (q_1118.1 0 18) = Int32.toInt (q_1115.1 0 18) := by rw [a_1124.2 18 (by decide)]
                            try have t_1135 : Int32.toInt (q_1118.1 0 18 + 1) = Int32.toInt (q_1118.1 0 18) + 1 := ti_add rfl (by decide) (by omega) (by omega)
                            have hTq_1132 : TS q_1132 := by rw [eq_1132]; exact ts_f a_1123 (ti_rg _).1 (ti_rg _).2
                            have hFq_1132 : dFr [9, 10, 11] [18] q q_1132 := by rw [eq_1132]; exact hFq_1118.f (by decide)
                            have w_1136 : Int32.toInt (q_1132.1 0 18) = Int32.toInt (q_1118.1 0 18 + 1) := by rw [eq_1132, dui_e]
                            exact hk_2 (q_1132, p1, x4_799) (show (TS q_1132) ∧ (dFr [9, 10, 11] [18] q_1 q_1132) ∧ (p1 = p1) ∧ (0 ≤ Int32.toInt x4_799) ∧ (Int32.toInt x4_799 ≤ Int32.toInt p1) ∧ (0 ≤ Int32.toInt (q_1132.1 0 18)) ∧ (Int32.toInt (q_1132.1 0 18) ≤ Int32.toInt x4_799) from ⟨hTq_1132, (by rw [eq_1132]; exact ((((by rw [eq_1115]; exact ((by rw [eq_994]; exact ((by rw [eq_991]; exact (((dFr.rf : dFr [9, 10, 11] [18] q_1 q_1).t a_8 (by decide) (by decide)) : dFr [9, 10, 11] [18] q_1 q_4).i (by decide) (by decide)) : dFr [9, 10, 11] [18] q_1 q_991).i (by decide) (by decide)) : dFr [9, 10, 11] [18] q_1 q_994).i (by decide) (by decide)) : dFr [9, 10, 11] [18] q_1 q_1115).t a_1124 (by decide) (by decide)) : dFr [9, 10, 11] [18] q_1 q_1118).f (by decide)), rfl, by omega, by omega, by omega, by omega⟩) (show (Int32.toInt p1 - Int32.toInt x4_799).toNat < (Int32.toInt p1 - Int32.toInt x2_6).toNat by omega)
                          · refine dOk_V (ok_isDigit v_26) (fun r_1137 h_1138 => ?_)
                            replace h_1138 : ((Int32.toInt r_1137 = 1 ∧ 48 ≤ Int32.toInt v_26 ∧ Int32.toInt v_26 ≤ 57) ∨ (Int32.toInt r_1137 = 0 ∧ (Int32.toInt v_26 < 48 ∨ 57 < Int32.toInt v_26))) := h_1138
                            have i_1139 := h_1138
                            refine dOk_eq (A := Int32.toInt r_1137) (B := 0) rfl (by decide) (fun c_1140z c_1140 => ?_) (fun c_1141z c_1141 => ?_)
                            · unfold zX10_splits_247
                              refine dOk_L (fun q_1143 eq_1143 => ?_)
                              try have w_1144 : Int32.toInt (q_1115.1 0 18) = Int32.toInt (q_994.1 0 18) := by rw [eq_1115, dui_o (by decide)]
                              have w_1145 : Int32.toInt (q_1118.1 0 18) = Int32.toInt (q_1115.1 0 18) := by rw [a_1124.2 18 (by decide)]
                              try have t_1146 : Int32.toInt (q_1118.1 0 18 + 1) = Int32.toInt (q_1118.1 0 18) + 1 := ti_add rfl (by decide) (by omega) (by omega)
                              have hTq_1143 : TS q_1143 := by rw [eq_1143]; exact ts_f a_1123 (ti_rg _).1 (ti_rg _).2
                              have hFq_1143 : dFr [9, 10, 11] [18] q q_1143 := by rw [eq_1143]; exact hFq_1118.f (by decide)
                              have w_1147 : Int32.toInt (q_1143.1 0 18) = Int32.toInt (q_1118.1 0 18 + 1) := by rw [eq_1143, dui_e]
                              exact hk_2 (q_1143, p1, x4_799) (show (TS q_1143) ∧ (dFr [9, 10, 11] [18] q_1 q_1143) ∧ (p1 = p1) ∧ (0 ≤ Int32.toInt x4_799) ∧ (Int32.toInt x4_799 ≤ Int32.toInt p1) ∧ (0 ≤ Int32.toInt (q_1143.1 0 18)) ∧ (Int32.toInt (q_1143.1 0 18) ≤ Int32.toInt x4_799) from ⟨hTq_1143, (by rw [eq_1143]; exact ((((by rw [eq_1115]; exact ((by rw [eq_994]; exact ((by rw [eq_991]; exact (((dFr.rf : dFr [9, 10, 11] [18] q_1 q_1).t a_8 (by decide) (by decide)) : dFr [9, 10, 11] [18] q_1 q_4).i (by decide) (by decide)) : dFr [9, 10, 11] [18] q_1 q_991).i (by decide) (by decide)) : dFr [9, 10, 11] [18] q_1 q_994).i (by decide) (by decide)) : dFr [9, 10, 11] [18] q_1 q_1115).t a_1124 (by decide) (by decide)) : dFr [9, 10, 11] [18] q_1 q_1118).f (by decide)), rfl, by omega, by omega, by omega, by omega⟩) (show (Int32.toInt p1 - Int32.toInt x4_799).toNat < (Int32.toInt p1 - Int32.toInt x2_6).toNat by omega)
                            · try have w_1148 : Int32.toInt (q_1115.1 0 18) = Int32.toInt (q_994.1 0 18) := by rw [eq_1115, dui_o (by decide)]
                              have w_1149 : Int32.toInt (q_1118.1 0 18) = Int32.toInt (q_1115.1 0 18) := by rw [a_1124.2 18 (by decide)]
                              refine dOk_G (dg_ok (show 0 ≤ Int32.toInt (q_1118.1 0 18) by omega) (show Int32.toInt (q_1118.1 0 18) < ((401 : Nat) : Int) by omega)) ?_
                              have n_1150 : ((Int32.toNatClampNeg (q_1118.1 0 18) : Nat) : Int) = Int32.toInt (q_1118.1 0 18) := cl_eq (by omega)
                              refine dOk_L (fun v_1151 ev_1151 => ?_)
                              refine dOk_le (A := Int32.toInt v_1151) (B := 1000000) rfl (by decide) (fun c_1152 => ?_) (fun c_1153 => ?_)
                              · refine dOk_G (dg_ok (show 0 ≤ Int32.toInt (q_1118.1 0 18) by omega) (show Int32.toInt (q_1118.1 0 18) < ((401 : Nat) : Int) by omega)) ?_
                                refine dOk_L (fun v_1154 ev_1154 => ?_)
                                have w_1155 : Int32.toInt v_1154 = Int32.toInt v_1151 := by rw [ev_1154, ev_1151]
                                refine dOk_G (dg_ok (show 0 ≤ Int32.toInt x5_1122 by omega) (show Int32.toInt x5_1122 < ((400 : Nat) : Int) by omega)) ?_
                                have n_1156 : ((Int32.toNatClampNeg x5_1122 : Nat) : Int) = Int32.toInt x5_1122 := cl_eq (by omega)
                                refine dOk_L (fun v_1157 ev_1157 => ?_)
                                unfold zX10_splits_240
                                refine dOk_G (dg_ok (show 0 ≤ Int32.toInt (q_1118.1 0 18) by omega) (show Int32.toInt (q_1118.1 0 18) < ((401 : Nat) : Int) by omega)) ?_
                                refine dOk_L (fun q_1158 eq_1158 => ?_)
                                have hTq_1158 : TS q_1158 := by rw [eq_1158]; exact ts_any a_1123 rfl
                                have hFq_1158 : dFr [9, 10, 11] [18] q q_1158 := by rw [eq_1158]; exact hFq_1118.i (by decide) (by decide)
                                try have t_1159 : Int32.toInt (x5_1122 + 1) = Int32.toInt x5_1122 + 1 := ti_add rfl (by decide) (by omega) (by omega)
                                exact hk_1116 (q_1158, p1, v_26, x4_799, (x5_1122 + 1)) (show (TS q_1158) ∧ (dFr [10] [] q_1115 q_1158) ∧ (p1 = p1) ∧ (v_26 = v_26) ∧ (x4_799 = x4_799) ∧ (0 ≤ Int32.toInt (x5_1122 + 1)) ∧ (Int32.toInt (x5_1122 + 1) ≤ Int32.toInt x4_799) from ⟨hTq_1158, (by rw [eq_1158]; exact (((dFr.rf : dFr [10] [] q_1115 q_1115).t a_1124 (by decide) (by decide)) : dFr [10] [] q_1115 q_1118).i (by decide) (by decide)), rfl, rfl, rfl, by omega, by omega⟩) (show (Int32.toInt x4_799 - Int32.toInt (x5_1122 + 1)).toNat < (Int32.toInt x4_799 - Int32.toInt x5_1122).toNat by omega)
                              · refine dOk_G (dg_ok (show 0 ≤ Int32.toInt (q_1118.1 0 18) by omega) (show Int32.toInt (q_1118.1 0 18) < ((401 : Nat) : Int) by omega)) ?_
                                refine dOk_L (fun v_1160 ev_1160 => ?_)
                                have w_1161 : Int32.toInt v_1160 = Int32.toInt v_1151 := by rw [ev_1160, ev_1151]
                                unfold zX10_splits_240
                                refine dOk_G (dg_ok (show 0 ≤ Int32.toInt (q_1118.1 0 18) by omega) (show Int32.toInt (q_1118.1 0 18) < ((401 : Nat) : Int) by omega)) ?_
                                refine dOk_L (fun q_1162 eq_1162 => ?_)
                                have hTq_1162 : TS q_1162 := by rw [eq_1162]; exact ts_any a_1123 rfl
                                have hFq_1162 : dFr [9, 10, 11] [18] q q_1162 := by rw [eq_1162]; exact hFq_1118.i (by decide) (by decide)
                                try have t_1163 : Int32.toInt (x5_1122 + 1) = Int32.toInt x5_1122 + 1 := ti_add rfl (by decide) (by omega) (by omega)
                                exact hk_1116 (q_1162, p1, v_26, x4_799, (x5_1122 + 1)) (show (TS q_1162) ∧ (dFr [10] [] q_1115 q_1162) ∧ (p1 = p1) ∧ (v_26 = v_26) ∧ (x4_799 = x4_799) ∧ (0 ≤ Int32.toInt (x5_1122 + 1)) ∧ (Int32.toInt (x5_1122 + 1) ≤ Int32.toInt x4_799) from ⟨hTq_1162, (by rw [eq_1162]; exact (((dFr.rf : dFr [10] [] q_1115 q_1115).t a_1124 (by decide) (by decide)) : dFr [10] [] q_1115 q_1118).i (by decide) (by decide)), rfl, rfl, rfl, by omega, by omega⟩) (show (Int32.toInt x4_799 - Int32.toInt (x5_1122 + 1)).toNat < (Int32.toInt x4_799 - Int32.toInt x5_1122).toNat by omega)
                        · exact (show (TS q_1115) ∧ (dFr [10] [] q_1115 q_1115) ∧ (p1 = p1) ∧ (v_26 = v_26) ∧ (x4_799 = x4_799) ∧ (0 ≤ Int32.toInt x2_6) ∧ (Int32.toInt x2_6 ≤ Int32.toInt x4_799) from ⟨hTq_1115, dFr.rf, rfl, rfl, rfl, by omega, by omega⟩)
                        · show (Int32.toInt x4_799 - Int32.toInt x2_6).toNat < 1000000000000
                          omega
                    · try have t_1164 : Int32.toInt (x4_799 + 1) = Int32.toInt x4_799 + 1 := ti_add rfl (by decide) (by omega) (by omega)
                      exact hk_793 (q_4, p1, x2_6, v_26, (x4_799 + 1)) (show (q_4 = q_4) ∧ (p1 = p1) ∧ (x2_6 = x2_6) ∧ (v_26 = v_26) ∧ (Int32.toInt x2_6 + 1 ≤ Int32.toInt (x4_799 + 1)) ∧ (Int32.toInt (x4_799 + 1) ≤ Int32.toInt p1) from ⟨rfl, rfl, rfl, rfl, by omega, by omega⟩) (show (Int32.toInt p1 - Int32.toInt (x4_799 + 1)).toNat < (Int32.toInt p1 - Int32.toInt x4_799).toNat by omega)
                · exact (show (q_4 = q_4) ∧ (p1 = p1) ∧ (x2_6 = x2_6) ∧ (v_26 = v_26) ∧ (Int32.toInt x2_6 + 1 ≤ Int32.toInt x4_604) ∧ (Int32.toInt x4_604 ≤ Int32.toInt p1) from ⟨rfl, rfl, rfl, rfl, by omega, by omega⟩)
                · show (Int32.toInt p1 - Int32.toInt x4_604).toNat < 1000000000000
                  omega
            · refine dOk_G (dg_ok (show 0 ≤ Int32.toInt x4_604 by omega) (show Int32.toInt x4_604 < ((400 : Nat) : Int) by omega)) ?_
              have n_1165 : ((Int32.toNatClampNeg x4_604 : Nat) : Int) = Int32.toInt x4_604 := cl_eq (by omega)
              refine dOk_L (fun v_1166 ev_1166 => ?_)
              refine dOk_V (ok_isSmall v_1166) (fun r_1167 h_1168 => ?_)
              replace h_1168 : ((Int32.toInt r_1167 = 1 ∧ 97 ≤ Int32.toInt v_1166 ∧ Int32.toInt v_1166 ≤ 122) ∨ (Int32.toInt r_1167 = 0 ∧ (Int32.toInt v_1166 < 97 ∨ 122 < Int32.toInt v_1166))) := h_1168
              have i_1169 := h_1168
              refine dOk_eq (A := Int32.toInt r_1167) (B := 0) rfl (by decide) (fun c_1170z c_1170 => ?_) (fun c_1171z c_1171 => ?_)
              · unfold zX10_splits_68
                refine dOk_V (ok_isDigit v_26) (fun r_1173 h_1174 => ?_)
                replace h_1174 : ((Int32.toInt r_1173 = 1 ∧ 48 ≤ Int32.toInt v_26 ∧ Int32.toInt v_26 ≤ 57) ∨ (Int32.toInt r_1173 = 0 ∧ (Int32.toInt v_26 < 48 ∨ 57 < Int32.toInt v_26))) := h_1174
                have i_1175 := h_1174
                refine dOk_eq (A := Int32.toInt r_1173) (B := 0) rfl (by decide) (fun c_1176z c_1176 => ?_) (fun c_1177z c_1177 => ?_)
                · unfold zX10_splits_100
                  refine dOk_G (dg_ok (show 0 ≤ Int32.toInt (q_4.1 0 18) by omega) (show Int32.toInt (q_4.1 0 18) < ((401 : Nat) : Int) by omega)) ?_
                  have n_1179 : ((Int32.toNatClampNeg (q_4.1 0 18) : Nat) : Int) = Int32.toInt (q_4.1 0 18) := cl_eq (by omega)
                  refine dOk_L (fun q_1180 eq_1180 => ?_)
                  have hTq_1180 : TS q_1180 := by rw [eq_1180]; exact ts_set a_7 (by decide) (show 0 ≤ Int32.toInt x2_6 by omega) (show Int32.toInt x2_6 ≤ 400 by omega)
                  have hFq_1180 : dFr [9, 10, 11] [18] q q_1180 := by rw [eq_1180]; exact hFq_4.i (by decide) (by decide)
                  try have w_1181 : Int32.toInt (q_1180.1 0 18) = Int32.toInt (q_4.1 0 18) := by rw [eq_1180, dui_o (by decide)]
                  refine dOk_G (dg_ok (show 0 ≤ Int32.toInt (q_1180.1 0 18) by omega) (show Int32.toInt (q_1180.1 0 18) < ((401 : Nat) : Int) by omega)) ?_
                  have n_1182 : ((Int32.toNatClampNeg (q_1180.1 0 18) : Nat) : Int) = Int32.toInt (q_1180.1 0 18) := cl_eq (by omega)
                  refine dOk_L (fun q_1183 eq_1183 => ?_)
                  have hTq_1183 : TS q_1183 := by rw [eq_1183]; exact ts_any hTq_1180 rfl
                  have hFq_1183 : dFr [9, 10, 11] [18] q q_1183 := by rw [eq_1183]; exact hFq_1180.i (by decide) (by decide)
                  refine dOk_V (ok_isSmall v_26) (fun r_1184 h_1185 => ?_)
                  replace h_1185 : ((Int32.toInt r_1184 = 1 ∧ 97 ≤ Int32.toInt v_26 ∧ Int32.toInt v_26 ≤ 122) ∨ (Int32.toInt r_1184 = 0 ∧ (Int32.toInt v_26 < 97 ∨ 122 < Int32.toInt v_26))) := h_1185
                  have i_1186 := h_1185
                  refine dOk_eq (A := Int32.toInt r_1184) (B := 0) rfl (by decide) (fun c_1187z c_1187 => ?_) (fun c_1188z c_1188 => ?_)
                  · refine dOk_V (ok_isDigit v_26) (fun r_1190 h_1191 => ?_)
                    replace h_1191 : ((Int32.toInt r_1190 = 1 ∧ 48 ≤ Int32.toInt v_26 ∧ Int32.toInt v_26 ≤ 57) ∨ (Int32.toInt r_1190 = 0 ∧ (Int32.toInt v_26 < 48 ∨ 57 < Int32.toInt v_26))) := h_1191
                    have i_1192 := h_1191
                    refine dOk_eq (A := Int32.toInt r_1190) (B := 0) rfl (by decide) (fun c_1193z c_1193 => ?_) (fun c_1194z c_1194 => ?_)
                    · unfold zX10_splits_165
                      try have w_1196 : Int32.toInt (q_1183.1 0 18) = Int32.toInt (q_1180.1 0 18) := by rw [eq_1183, dui_o (by decide)]
                      refine dOk_G (dg_ok (show 0 ≤ Int32.toInt (q_1183.1 0 18) by omega) (show Int32.toInt (q_1183.1 0 18) < ((401 : Nat) : Int) by omega)) ?_
                      have n_1197 : ((Int32.toNatClampNeg (q_1183.1 0 18) : Nat) : Int) = Int32.toInt (q_1183.1 0 18) := cl_eq (by omega)
                      refine dOk_L (fun q_1198 eq_1198 => ?_)
                      have hTq_1198 : TS q_1198 := by rw [eq_1198]; exact ts_any hTq_1183 rfl
                      have hFq_1198 : dFr [9, 10, 11] [18] q q_1198 := by rw [eq_1198]; exact hFq_1183.i (by decide) (by decide)
                      unfold zX10_splits_169
                      refine dFix_ok (fun (a : dS × Int32 × Int32 × Int32 × Int32) => (TS a.1) ∧ (dFr [10] [] q_1198 a.1) ∧ (a.2.1 = p1) ∧ (a.2.2.1 = v_26) ∧ (a.2.2.2.1 = x4_604) ∧ (0 ≤ Int32.toInt a.2.2.2.2) ∧ (Int32.toInt a.2.2.2.2 ≤ Int32.toInt a.2.2.2.1)) (fun (a : dS × Int32 × Int32 × Int32 × Int32) => (Int32.toInt a.2.2.2.1 - Int32.toInt a.2.2.2.2).toNat) ?_ _ ?_ _ (dF_gt ?_)
                      · intro a ha k_1200 hk_1199
                        obtain ⟨q_1201, x1_1202, x3_1203, x4_1204, x5_1205⟩ := a
                        replace ha : (TS q_1201) ∧ (dFr [10] [] q_1198 q_1201) ∧ (x1_1202 = p1) ∧ (x3_1203 = v_26) ∧ (x4_1204 = x4_604) ∧ (0 ≤ Int32.toInt x5_1205) ∧ (Int32.toInt x5_1205 ≤ Int32.toInt x4_1204) := ha
                        obtain ⟨a_1206, a_1207, a_1208, a_1209, a_1210, a_1211, a_1212⟩ := ha
                        show dOk (zX10_splits_169b _ (fun q x1 x3 x4 x5 => k_1200 (q, x1, x3, x4, x5)) q_1201 x1_1202 x3_1203 x4_1204 x5_1205) _
                        unfold zX10_splits_169b
                        have hFq_1201 : dFr [9, 10, 11] [18] q q_1201 := hFq_1198.t a_1207 (by decide) (by decide)
                        subst x1_1202
                        subst x3_1203
                        subst x4_1204
                        refine dOk_le (A := Int32.toInt x4_604) (B := Int32.toInt x5_1205) rfl rfl (fun c_1213 => ?_) (fun c_1214 => ?_)
                        · unfold zX10_splits_247
                          refine dOk_L (fun q_1215 eq_1215 => ?_)
                          try have w_1216 : Int32.toInt (q_1198.1 0 18) = Int32.toInt (q_1183.1 0 18) := by rw [eq_1198, dui_o (by decide)]
                          have w_1217 : Int32.toInt (q_1201.1 0 18) = Int32.toInt (q_1198.1 0 18) := by rw [a_1207.2 18 (by decide)]
                          try have t_1218 : Int32.toInt (q_1201.1 0 18 + 1) = Int32.toInt (q_1201.1 0 18) + 1 := ti_add rfl (by decide) (by omega) (by omega)
                          have hTq_1215 : TS q_1215 := by rw [eq_1215]; exact ts_f a_1206 (ti_rg _).1 (ti_rg _).2
                          have hFq_1215 : dFr [9, 10, 11] [18] q q_1215 := by rw [eq_1215]; exact hFq_1201.f (by decide)
                          have w_1219 : Int32.toInt (q_1215.1 0 18) = Int32.toInt (q_1201.1 0 18 + 1) := by rw [eq_1215, dui_e]
                          exact hk_2 (q_1215, p1, x4_604) (show (TS q_1215) ∧ (dFr [9, 10, 11] [18] q_1 q_1215) ∧ (p1 = p1) ∧ (0 ≤ Int32.toInt x4_604) ∧ (Int32.toInt x4_604 ≤ Int32.toInt p1) ∧ (0 ≤ Int32.toInt (q_1215.1 0 18)) ∧ (Int32.toInt (q_1215.1 0 18) ≤ Int32.toInt x4_604) from ⟨hTq_1215, (by rw [eq_1215]; exact ((((by rw [eq_1198]; exact ((by rw [eq_1183]; exact ((by rw [eq_1180]; exact (((dFr.rf : dFr [9, 10, 11] [18] q_1 q_1).t a_8 (by decide) (by decide)) : dFr [9, 10, 11] [18] q_1 q_4).i (by decide) (by decide)) : dFr [9, 10, 11] [18] q_1 q_1180).i (by decide) (by decide)) : dFr [9, 10, 11] [18] q_1 q_1183).i (by decide) (by decide)) : dFr [9, 10, 11] [18] q_1 q_1198).t a_1207 (by decide) (by decide)) : dFr [9, 10, 11] [18] q_1 q_1201).f (by decide)), rfl, by omega, by omega, by omega, by omega⟩) (show (Int32.toInt p1 - Int32.toInt x4_604).toNat < (Int32.toInt p1 - Int32.toInt x2_6).toNat by omega)
                        · refine dOk_V (ok_isDigit v_26) (fun r_1220 h_1221 => ?_)
                          replace h_1221 : ((Int32.toInt r_1220 = 1 ∧ 48 ≤ Int32.toInt v_26 ∧ Int32.toInt v_26 ≤ 57) ∨ (Int32.toInt r_1220 = 0 ∧ (Int32.toInt v_26 < 48 ∨ 57 < Int32.toInt v_26))) := h_1221
                          have i_1222 := h_1221
                          refine dOk_eq (A := Int32.toInt r_1220) (B := 0) rfl (by decide) (fun c_1223z c_1223 => ?_) (fun c_1224z c_1224 => ?_)
                          · unfold zX10_splits_247
                            refine dOk_L (fun q_1226 eq_1226 => ?_)
                            try have w_1227 : Int32.toInt (q_1198.1 0 18) = Int32.toInt (q_1183.1 0 18) := by rw [eq_1198, dui_o (by decide)]
                            have w_1228 : Int32.toInt (q_1201.1 0 18) = Int32.toInt (q_1198.1 0 18) := by rw [a_1207.2 18 (by decide)]
                            try have t_1229 : Int32.toInt (q_1201.1 0 18 + 1) = Int32.toInt (q_1201.1 0 18) + 1 := ti_add rfl (by decide) (by omega) (by omega)
                            have hTq_1226 : TS q_1226 := by rw [eq_1226]; exact ts_f a_1206 (ti_rg _).1 (ti_rg _).2
                            have hFq_1226 : dFr [9, 10, 11] [18] q q_1226 := by rw [eq_1226]; exact hFq_1201.f (by decide)
                            have w_1230 : Int32.toInt (q_1226.1 0 18) = Int32.toInt (q_1201.1 0 18 + 1) := by rw [eq_1226, dui_e]
                            exact hk_2 (q_1226, p1, x4_604) (show (TS q_1226) ∧ (dFr [9, 10, 11] [18] q_1 q_1226) ∧ (p1 = p1) ∧ (0 ≤ Int32.toInt x4_604) ∧ (Int32.toInt x4_604 ≤ Int32.toInt p1) ∧ (0 ≤ Int32.toInt (q_1226.1 0 18)) ∧ (Int32.toInt (q_1226.1 0 18) ≤ Int32.toInt x4_604) from ⟨hTq_1226, (by rw [eq_1226]; exact ((((by rw [eq_1198]; exact ((by rw [eq_1183]; exact ((by rw [eq_1180]; exact (((dFr.rf : dFr [9, 10, 11] [18] q_1 q_1).t a_8 (by decide) (by decide)) : dFr [9, 10, 11] [18] q_1 q_4).i (by decide) (by decide)) : dFr [9, 10, 11] [18] q_1 q_1180).i (by decide) (by decide)) : dFr [9, 10, 11] [18] q_1 q_1183).i (by decide) (by decide)) : dFr [9, 10, 11] [18] q_1 q_1198).t a_1207 (by decide) (by decide)) : dFr [9, 10, 11] [18] q_1 q_1201).f (by decide)), rfl, by omega, by omega, by omega, by omega⟩) (show (Int32.toInt p1 - Int32.toInt x4_604).toNat < (Int32.toInt p1 - Int32.toInt x2_6).toNat by omega)
                          · try have w_1231 : Int32.toInt (q_1198.1 0 18) = Int32.toInt (q_1183.1 0 18) := by rw [eq_1198, dui_o (by decide)]
                            have w_1232 : Int32.toInt (q_1201.1 0 18) = Int32.toInt (q_1198.1 0 18) := by rw [a_1207.2 18 (by decide)]
                            refine dOk_G (dg_ok (show 0 ≤ Int32.toInt (q_1201.1 0 18) by omega) (show Int32.toInt (q_1201.1 0 18) < ((401 : Nat) : Int) by omega)) ?_
                            have n_1233 : ((Int32.toNatClampNeg (q_1201.1 0 18) : Nat) : Int) = Int32.toInt (q_1201.1 0 18) := cl_eq (by omega)
                            refine dOk_L (fun v_1234 ev_1234 => ?_)
                            refine dOk_le (A := Int32.toInt v_1234) (B := 1000000) rfl (by decide) (fun c_1235 => ?_) (fun c_1236 => ?_)
                            · refine dOk_G (dg_ok (show 0 ≤ Int32.toInt (q_1201.1 0 18) by omega) (show Int32.toInt (q_1201.1 0 18) < ((401 : Nat) : Int) by omega)) ?_
                              refine dOk_L (fun v_1237 ev_1237 => ?_)
                              have w_1238 : Int32.toInt v_1237 = Int32.toInt v_1234 := by rw [ev_1237, ev_1234]
                              refine dOk_G (dg_ok (show 0 ≤ Int32.toInt x5_1205 by omega) (show Int32.toInt x5_1205 < ((400 : Nat) : Int) by omega)) ?_
                              have n_1239 : ((Int32.toNatClampNeg x5_1205 : Nat) : Int) = Int32.toInt x5_1205 := cl_eq (by omega)
                              refine dOk_L (fun v_1240 ev_1240 => ?_)
                              unfold zX10_splits_240
                              refine dOk_G (dg_ok (show 0 ≤ Int32.toInt (q_1201.1 0 18) by omega) (show Int32.toInt (q_1201.1 0 18) < ((401 : Nat) : Int) by omega)) ?_
                              refine dOk_L (fun q_1241 eq_1241 => ?_)
                              have hTq_1241 : TS q_1241 := by rw [eq_1241]; exact ts_any a_1206 rfl
                              have hFq_1241 : dFr [9, 10, 11] [18] q q_1241 := by rw [eq_1241]; exact hFq_1201.i (by decide) (by decide)
                              try have t_1242 : Int32.toInt (x5_1205 + 1) = Int32.toInt x5_1205 + 1 := ti_add rfl (by decide) (by omega) (by omega)
                              exact hk_1199 (q_1241, p1, v_26, x4_604, (x5_1205 + 1)) (show (TS q_1241) ∧ (dFr [10] [] q_1198 q_1241) ∧ (p1 = p1) ∧ (v_26 = v_26) ∧ (x4_604 = x4_604) ∧ (0 ≤ Int32.toInt (x5_1205 + 1)) ∧ (Int32.toInt (x5_1205 + 1) ≤ Int32.toInt x4_604) from ⟨hTq_1241, (by rw [eq_1241]; exact (((dFr.rf : dFr [10] [] q_1198 q_1198).t a_1207 (by decide) (by decide)) : dFr [10] [] q_1198 q_1201).i (by decide) (by decide)), rfl, rfl, rfl, by omega, by omega⟩) (show (Int32.toInt x4_604 - Int32.toInt (x5_1205 + 1)).toNat < (Int32.toInt x4_604 - Int32.toInt x5_1205).toNat by omega)
                            · refine dOk_G (dg_ok (show 0 ≤ Int32.toInt (q_1201.1 0 18) by omega) (show Int32.toInt (q_1201.1 0 18) < ((401 : Nat) : Int) by omega)) ?_
                              refine dOk_L (fun v_1243 ev_1243 => ?_)
                              have w_1244 : Int32.toInt v_1243 = Int32.toInt v_1234 := by rw [ev_1243, ev_1234]
                              unfold zX10_splits_240
                              refine dOk_G (dg_ok (show 0 ≤ Int32.toInt (q_1201.1 0 18) by omega) (show Int32.toInt (q_1201.1 0 18) < ((401 : Nat) : Int) by omega)) ?_
                              refine dOk_L (fun q_1245 eq_1245 => ?_)
                              have hTq_1245 : TS q_1245 := by rw [eq_1245]; exact ts_any a_1206 rfl
                              have hFq_1245 : dFr [9, 10, 11] [18] q q_1245 := by rw [eq_1245]; exact hFq_1201.i (by decide) (by decide)
                              try have t_1246 : Int32.toInt (x5_1205 + 1) = Int32.toInt x5_1205 + 1 := ti_add rfl (by decide) (by omega) (by omega)
                              exact hk_1199 (q_1245, p1, v_26, x4_604, (x5_1205 + 1)) (show (TS q_1245) ∧ (dFr [10] [] q_1198 q_1245) ∧ (p1 = p1) ∧ (v_26 = v_26) ∧ (x4_604 = x4_604) ∧ (0 ≤ Int32.toInt (x5_1205 + 1)) ∧ (Int32.toInt (x5_1205 + 1) ≤ Int32.toInt x4_604) from ⟨hTq_1245, (by rw [eq_1245]; exact (((dFr.rf : dFr [10] [] q_1198 q_1198).t a_1207 (by decide) (by decide)) : dFr [10] [] q_1198 q_1201).i (by decide) (by decide)), rfl, rfl, rfl, by omega, by omega⟩) (show (Int32.toInt x4_604 - Int32.toInt (x5_1205 + 1)).toNat < (Int32.toInt x4_604 - Int32.toInt x5_1205).toNat by omega)
                      · exact (show (TS q_1198) ∧ (dFr [10] [] q_1198 q_1198) ∧ (p1 = p1) ∧ (v_26 = v_26) ∧ (x4_604 = x4_604) ∧ (0 ≤ Int32.toInt x2_6) ∧ (Int32.toInt x2_6 ≤ Int32.toInt x4_604) from ⟨hTq_1198, dFr.rf, rfl, rfl, rfl, by omega, by omega⟩)
                      · show (Int32.toInt x4_604 - Int32.toInt x2_6).toNat < 1000000000000
                        omega
                    · unfold zX10_splits_165
                      try have w_1247 : Int32.toInt (q_1183.1 0 18) = Int32.toInt (q_1180.1 0 18) := by rw [eq_1183, dui_o (by decide)]
                      refine dOk_G (dg_ok (show 0 ≤ Int32.toInt (q_1183.1 0 18) by omega) (show Int32.toInt (q_1183.1 0 18) < ((401 : Nat) : Int) by omega)) ?_
                      have n_1248 : ((Int32.toNatClampNeg (q_1183.1 0 18) : Nat) : Int) = Int32.toInt (q_1183.1 0 18) := cl_eq (by omega)
                      refine dOk_L (fun q_1249 eq_1249 => ?_)
                      have hTq_1249 : TS q_1249 := by rw [eq_1249]; exact ts_any hTq_1183 rfl
                      have hFq_1249 : dFr [9, 10, 11] [18] q q_1249 := by rw [eq_1249]; exact hFq_1183.i (by decide) (by decide)
                      unfold zX10_splits_169
                      refine dFix_ok (fun (a : dS × Int32 × Int32 × Int32 × Int32) => (TS a.1) ∧ (dFr [10] [] q_1249 a.1) ∧ (a.2.1 = p1) ∧ (a.2.2.1 = v_26) ∧ (a.2.2.2.1 = x4_604) ∧ (0 ≤ Int32.toInt a.2.2.2.2) ∧ (Int32.toInt a.2.2.2.2 ≤ Int32.toInt a.2.2.2.1)) (fun (a : dS × Int32 × Int32 × Int32 × Int32) => (Int32.toInt a.2.2.2.1 - Int32.toInt a.2.2.2.2).toNat) ?_ _ ?_ _ (dF_gt ?_)
                      · intro a ha k_1251 hk_1250
                        obtain ⟨q_1252, x1_1253, x3_1254, x4_1255, x5_1256⟩ := a
                        replace ha : (TS q_1252) ∧ (dFr [10] [] q_1249 q_1252) ∧ (x1_1253 = p1) ∧ (x3_1254 = v_26) ∧ (x4_1255 = x4_604) ∧ (0 ≤ Int32.toInt x5_1256) ∧ (Int32.toInt x5_1256 ≤ Int32.toInt x4_1255) := ha
                        obtain ⟨a_1257, a_1258, a_1259, a_1260, a_1261, a_1262, a_1263⟩ := ha
                        show dOk (zX10_splits_169b _ (fun q x1 x3 x4 x5 => k_1251 (q, x1, x3, x4, x5)) q_1252 x1_1253 x3_1254 x4_1255 x5_1256) _
                        unfold zX10_splits_169b
                        have hFq_1252 : dFr [9, 10, 11] [18] q q_1252 := hFq_1249.t a_1258 (by decide) (by decide)
                        subst x1_1253
                        subst x3_1254
                        subst x4_1255
                        refine dOk_le (A := Int32.toInt x4_604) (B := Int32.toInt x5_1256) rfl rfl (fun c_1264 => ?_) (fun c_1265 => ?_)
                        · unfold zX10_splits_247
                          refine dOk_L (fun q_1266 eq_1266 => ?_)
                          try have w_1267 : Int32.toInt (q_1249.1 0 18) = Int32.toInt (q_1183.1 0 18) := by rw [eq_1249, dui_o (by decide)]
                          have w_1268 : Int32.toInt (q_1252.1 0 18) = Int32.toInt (q_1249.1 0 18) := by rw [a_1258.2 18 (by decide)]
                          try have t_1269 : Int32.toInt (q_1252.1 0 18 + 1) = Int32.toInt (q_1252.1 0 18) + 1 := ti_add rfl (by decide) (by omega) (by omega)
                          have hTq_1266 : TS q_1266 := by rw [eq_1266]; exact ts_f a_1257 (ti_rg _).1 (ti_rg _).2
                          have hFq_1266 : dFr [9, 10, 11] [18] q q_1266 := by rw [eq_1266]; exact hFq_1252.f (by decide)
                          have w_1270 : Int32.toInt (q_1266.1 0 18) = Int32.toInt (q_1252.1 0 18 + 1) := by rw [eq_1266, dui_e]
                          exact hk_2 (q_1266, p1, x4_604) (show (TS q_1266) ∧ (dFr [9, 10, 11] [18] q_1 q_1266) ∧ (p1 = p1) ∧ (0 ≤ Int32.toInt x4_604) ∧ (Int32.toInt x4_604 ≤ Int32.toInt p1) ∧ (0 ≤ Int32.toInt (q_1266.1 0 18)) ∧ (Int32.toInt (q_1266.1 0 18) ≤ Int32.toInt x4_604) from ⟨hTq_1266, (by rw [eq_1266]; exact ((((by rw [eq_1249]; exact ((by rw [eq_1183]; exact ((by rw [eq_1180]; exact (((dFr.rf : dFr [9, 10, 11] [18] q_1 q_1).t a_8 (by decide) (by decide)) : dFr [9, 10, 11] [18] q_1 q_4).i (by decide) (by decide)) : dFr [9, 10, 11] [18] q_1 q_1180).i (by decide) (by decide)) : dFr [9, 10, 11] [18] q_1 q_1183).i (by decide) (by decide)) : dFr [9, 10, 11] [18] q_1 q_1249).t a_1258 (by decide) (by decide)) : dFr [9, 10, 11] [18] q_1 q_1252).f (by decide)), rfl, by omega, by omega, by omega, by omega⟩) (show (Int32.toInt p1 - Int32.toInt x4_604).toNat < (Int32.toInt p1 - Int32.toInt x2_6).toNat by omega)
                        · refine dOk_V (ok_isDigit v_26) (fun r_1271 h_1272 => ?_)
                          replace h_1272 : ((Int32.toInt r_1271 = 1 ∧ 48 ≤ Int32.toInt v_26 ∧ Int32.toInt v_26 ≤ 57) ∨ (Int32.toInt r_1271 = 0 ∧ (Int32.toInt v_26 < 48 ∨ 57 < Int32.toInt v_26))) := h_1272
                          have i_1273 := h_1272
                          refine dOk_eq (A := Int32.toInt r_1271) (B := 0) rfl (by decide) (fun c_1274z c_1274 => ?_) (fun c_1275z c_1275 => ?_)
                          · unfold zX10_splits_247
                            refine dOk_L (fun q_1277 eq_1277 => ?_)
                            try have w_1278 : Int32.toInt (q_1249.1 0 18) = Int32.toInt (q_1183.1 0 18) := by rw [eq_1249, dui_o (by decide)]
                            have w_1279 : Int32.toInt (q_1252.1 0 18) = Int32.toInt (q_1249.1 0 18) := by rw [a_1258.2 18 (by decide)]
                            try have t_1280 : Int32.toInt (q_1252.1 0 18 + 1) = Int32.toInt (q_1252.1 0 18) + 1 := ti_add rfl (by decide) (by omega) (by omega)
                            have hTq_1277 : TS q_1277 := by rw [eq_1277]; exact ts_f a_1257 (ti_rg _).1 (ti_rg _).2
                            have hFq_1277 : dFr [9, 10, 11] [18] q q_1277 := by rw [eq_1277]; exact hFq_1252.f (by decide)
                            have w_1281 : Int32.toInt (q_1277.1 0 18) = Int32.toInt (q_1252.1 0 18 + 1) := by rw [eq_1277, dui_e]
                            exact hk_2 (q_1277, p1, x4_604) (show (TS q_1277) ∧ (dFr [9, 10, 11] [18] q_1 q_1277) ∧ (p1 = p1) ∧ (0 ≤ Int32.toInt x4_604) ∧ (Int32.toInt x4_604 ≤ Int32.toInt p1) ∧ (0 ≤ Int32.toInt (q_1277.1 0 18)) ∧ (Int32.toInt (q_1277.1 0 18) ≤ Int32.toInt x4_604) from ⟨hTq_1277, (by rw [eq_1277]; exact ((((by rw [eq_1249]; exact ((by rw [eq_1183]; exact ((by rw [eq_1180]; exact (((dFr.rf : dFr [9, 10, 11] [18] q_1 q_1).t a_8 (by decide) (by decide)) : dFr [9, 10, 11] [18] q_1 q_4).i (by decide) (by decide)) : dFr [9, 10, 11] [18] q_1 q_1180).i (by decide) (by decide)) : dFr [9, 10, 11] [18] q_1 q_1183).i (by decide) (by decide)) : dFr [9, 10, 11] [18] q_1 q_1249).t a_1258 (by decide) (by decide)) : dFr [9, 10, 11] [18] q_1 q_1252).f (by decide)), rfl, by omega, by omega, by omega, by omega⟩) (show (Int32.toInt p1 - Int32.toInt x4_604).toNat < (Int32.toInt p1 - Int32.toInt x2_6).toNat by omega)
                          · try have w_1282 : Int32.toInt (q_1249.1 0 18) = Int32.toInt (q_1183.1 0 18) := by rw [eq_1249, dui_o (by decide)]
                            have w_1283 : Int32.toInt (q_1252.1 0 18) = Int32.toInt (q_1249.1 0 18) := by rw [a_1258.2 18 (by decide)]
                            refine dOk_G (dg_ok (show 0 ≤ Int32.toInt (q_1252.1 0 18) by omega) (show Int32.toInt (q_1252.1 0 18) < ((401 : Nat) : Int) by omega)) ?_
                            have n_1284 : ((Int32.toNatClampNeg (q_1252.1 0 18) : Nat) : Int) = Int32.toInt (q_1252.1 0 18) := cl_eq (by omega)
                            refine dOk_L (fun v_1285 ev_1285 => ?_)
                            refine dOk_le (A := Int32.toInt v_1285) (B := 1000000) rfl (by decide) (fun c_1286 => ?_) (fun c_1287 => ?_)
                            · refine dOk_G (dg_ok (show 0 ≤ Int32.toInt (q_1252.1 0 18) by omega) (show Int32.toInt (q_1252.1 0 18) < ((401 : Nat) : Int) by omega)) ?_
                              refine dOk_L (fun v_1288 ev_1288 => ?_)
                              have w_1289 : Int32.toInt v_1288 = Int32.toInt v_1285 := by rw [ev_1288, ev_1285]
                              refine dOk_G (dg_ok (show 0 ≤ Int32.toInt x5_1256 by omega) (show Int32.toInt x5_1256 < ((400 : Nat) : Int) by omega)) ?_
                              have n_1290 : ((Int32.toNatClampNeg x5_1256 : Nat) : Int) = Int32.toInt x5_1256 := cl_eq (by omega)
                              refine dOk_L (fun v_1291 ev_1291 => ?_)
                              unfold zX10_splits_240
                              refine dOk_G (dg_ok (show 0 ≤ Int32.toInt (q_1252.1 0 18) by omega) (show Int32.toInt (q_1252.1 0 18) < ((401 : Nat) : Int) by omega)) ?_
                              refine dOk_L (fun q_1292 eq_1292 => ?_)
                              have hTq_1292 : TS q_1292 := by rw [eq_1292]; exact ts_any a_1257 rfl
                              have hFq_1292 : dFr [9, 10, 11] [18] q q_1292 := by rw [eq_1292]; exact hFq_1252.i (by decide) (by decide)
                              try have t_1293 : Int32.toInt (x5_1256 + 1) = Int32.toInt x5_1256 + 1 := ti_add rfl (by decide) (by omega) (by omega)
                              exact hk_1250 (q_1292, p1, v_26, x4_604, (x5_1256 + 1)) (show (TS q_1292) ∧ (dFr [10] [] q_1249 q_1292) ∧ (p1 = p1) ∧ (v_26 = v_26) ∧ (x4_604 = x4_604) ∧ (0 ≤ Int32.toInt (x5_1256 + 1)) ∧ (Int32.toInt (x5_1256 + 1) ≤ Int32.toInt x4_604) from ⟨hTq_1292, (by rw [eq_1292]; exact (((dFr.rf : dFr [10] [] q_1249 q_1249).t a_1258 (by decide) (by decide)) : dFr [10] [] q_1249 q_1252).i (by decide) (by decide)), rfl, rfl, rfl, by omega, by omega⟩) (show (Int32.toInt x4_604 - Int32.toInt (x5_1256 + 1)).toNat < (Int32.toInt x4_604 - Int32.toInt x5_1256).toNat by omega)
                            · refine dOk_G (dg_ok (show 0 ≤ Int32.toInt (q_1252.1 0 18) by omega) (show Int32.toInt (q_1252.1 0 18) < ((401 : Nat) : Int) by omega)) ?_
                              refine dOk_L (fun v_1294 ev_1294 => ?_)
                              have w_1295 : Int32.toInt v_1294 = Int32.toInt v_1285 := by rw [ev_1294, ev_1285]
                              unfold zX10_splits_240
                              refine dOk_G (dg_ok (show 0 ≤ Int32.toInt (q_1252.1 0 18) by omega) (show Int32.toInt (q_1252.1 0 18) < ((401 : Nat) : Int) by omega)) ?_
                              refine dOk_L (fun q_1296 eq_1296 => ?_)
                              have hTq_1296 : TS q_1296 := by rw [eq_1296]; exact ts_any a_1257 rfl
                              have hFq_1296 : dFr [9, 10, 11] [18] q q_1296 := by rw [eq_1296]; exact hFq_1252.i (by decide) (by decide)
                              try have t_1297 : Int32.toInt (x5_1256 + 1) = Int32.toInt x5_1256 + 1 := ti_add rfl (by decide) (by omega) (by omega)
                              exact hk_1250 (q_1296, p1, v_26, x4_604, (x5_1256 + 1)) (show (TS q_1296) ∧ (dFr [10] [] q_1249 q_1296) ∧ (p1 = p1) ∧ (v_26 = v_26) ∧ (x4_604 = x4_604) ∧ (0 ≤ Int32.toInt (x5_1256 + 1)) ∧ (Int32.toInt (x5_1256 + 1) ≤ Int32.toInt x4_604) from ⟨hTq_1296, (by rw [eq_1296]; exact (((dFr.rf : dFr [10] [] q_1249 q_1249).t a_1258 (by decide) (by decide)) : dFr [10] [] q_1249 q_1252).i (by decide) (by decide)), rfl, rfl, rfl, by omega, by omega⟩) (show (Int32.toInt x4_604 - Int32.toInt (x5_1256 + 1)).toNat < (Int32.toInt x4_604 - Int32.toInt x5_1256).toNat by omega)
                      · exact (show (TS q_1249) ∧ (dFr [10] [] q_1249 q_1249) ∧ (p1 = p1) ∧ (v_26 = v_26) ∧ (x4_604 = x4_604) ∧ (0 ≤ Int32.toInt x2_6) ∧ (Int32.toInt x2_6 ≤ Int32.toInt x4_604) from ⟨hTq_1249, dFr.rf, rfl, rfl, rfl, by omega, by omega⟩)
                      · show (Int32.toInt x4_604 - Int32.toInt x2_6).toNat < 1000000000000
                        omega
                  · refine dOk_B (ok_wordOf q_1183 x2_6 x4_604 hTq_1183 (show 0 ≤ Int32.toInt x2_6 by omega) (show Int32.toInt x2_6 < Int32.toInt x4_604 by omega) (show Int32.toInt x4_604 ≤ 400 by omega)) (fun r_1298 q_1299 h_1300 => ?_)
                    replace h_1300 : (q_1299 = q_1183) := h_1300
                    have i_1301 := h_1300
                    subst q_1299
                    unfold zX10_splits_165
                    try have w_1302 : Int32.toInt (q_1183.1 0 18) = Int32.toInt (q_1180.1 0 18) := by rw [eq_1183, dui_o (by decide)]
                    refine dOk_G (dg_ok (show 0 ≤ Int32.toInt (q_1183.1 0 18) by omega) (show Int32.toInt (q_1183.1 0 18) < ((401 : Nat) : Int) by omega)) ?_
                    have n_1303 : ((Int32.toNatClampNeg (q_1183.1 0 18) : Nat) : Int) = Int32.toInt (q_1183.1 0 18) := cl_eq (by omega)
                    refine dOk_L (fun q_1304 eq_1304 => ?_)
                    have hTq_1304 : TS q_1304 := by rw [eq_1304]; exact ts_any hTq_1183 rfl
                    have hFq_1304 : dFr [9, 10, 11] [18] q q_1304 := by rw [eq_1304]; exact hFq_1183.i (by decide) (by decide)
                    unfold zX10_splits_169
                    refine dFix_ok (fun (a : dS × Int32 × Int32 × Int32 × Int32) => (TS a.1) ∧ (dFr [10] [] q_1304 a.1) ∧ (a.2.1 = p1) ∧ (a.2.2.1 = v_26) ∧ (a.2.2.2.1 = x4_604) ∧ (0 ≤ Int32.toInt a.2.2.2.2) ∧ (Int32.toInt a.2.2.2.2 ≤ Int32.toInt a.2.2.2.1)) (fun (a : dS × Int32 × Int32 × Int32 × Int32) => (Int32.toInt a.2.2.2.1 - Int32.toInt a.2.2.2.2).toNat) ?_ _ ?_ _ (dF_gt ?_)
                    · intro a ha k_1306 hk_1305
                      obtain ⟨q_1307, x1_1308, x3_1309, x4_1310, x5_1311⟩ := a
                      replace ha : (TS q_1307) ∧ (dFr [10] [] q_1304 q_1307) ∧ (x1_1308 = p1) ∧ (x3_1309 = v_26) ∧ (x4_1310 = x4_604) ∧ (0 ≤ Int32.toInt x5_1311) ∧ (Int32.toInt x5_1311 ≤ Int32.toInt x4_1310) := ha
                      obtain ⟨a_1312, a_1313, a_1314, a_1315, a_1316, a_1317, a_1318⟩ := ha
                      show dOk (zX10_splits_169b _ (fun q x1 x3 x4 x5 => k_1306 (q, x1, x3, x4, x5)) q_1307 x1_1308 x3_1309 x4_1310 x5_1311) _
                      unfold zX10_splits_169b
                      have hFq_1307 : dFr [9, 10, 11] [18] q q_1307 := hFq_1304.t a_1313 (by decide) (by decide)
                      subst x1_1308
                      subst x3_1309
                      subst x4_1310
                      refine dOk_le (A := Int32.toInt x4_604) (B := Int32.toInt x5_1311) rfl rfl (fun c_1319 => ?_) (fun c_1320 => ?_)
                      · unfold zX10_splits_247
                        refine dOk_L (fun q_1321 eq_1321 => ?_)
                        try have w_1322 : Int32.toInt (q_1304.1 0 18) = Int32.toInt (q_1183.1 0 18) := by rw [eq_1304, dui_o (by decide)]
                        have w_1323 : Int32.toInt (q_1307.1 0 18) = Int32.toInt (q_1304.1 0 18) := by rw [a_1313.2 18 (by decide)]
                        try have t_1324 : Int32.toInt (q_1307.1 0 18 + 1) = Int32.toInt (q_1307.1 0 18) + 1 := ti_add rfl (by decide) (by omega) (by omega)
                        have hTq_1321 : TS q_1321 := by rw [eq_1321]; exact ts_f a_1312 (ti_rg _).1 (ti_rg _).2
                        have hFq_1321 : dFr [9, 10, 11] [18] q q_1321 := by rw [eq_1321]; exact hFq_1307.f (by decide)
                        have w_1325 : Int32.toInt (q_1321.1 0 18) = Int32.toInt (q_1307.1 0 18 + 1) := by rw [eq_1321, dui_e]
                        exact hk_2 (q_1321, p1, x4_604) (show (TS q_1321) ∧ (dFr [9, 10, 11] [18] q_1 q_1321) ∧ (p1 = p1) ∧ (0 ≤ Int32.toInt x4_604) ∧ (Int32.toInt x4_604 ≤ Int32.toInt p1) ∧ (0 ≤ Int32.toInt (q_1321.1 0 18)) ∧ (Int32.toInt (q_1321.1 0 18) ≤ Int32.toInt x4_604) from ⟨hTq_1321, (by rw [eq_1321]; exact ((((by rw [eq_1304]; exact ((by rw [eq_1183]; exact ((by rw [eq_1180]; exact (((dFr.rf : dFr [9, 10, 11] [18] q_1 q_1).t a_8 (by decide) (by decide)) : dFr [9, 10, 11] [18] q_1 q_4).i (by decide) (by decide)) : dFr [9, 10, 11] [18] q_1 q_1180).i (by decide) (by decide)) : dFr [9, 10, 11] [18] q_1 q_1183).i (by decide) (by decide)) : dFr [9, 10, 11] [18] q_1 q_1304).t a_1313 (by decide) (by decide)) : dFr [9, 10, 11] [18] q_1 q_1307).f (by decide)), rfl, by omega, by omega, by omega, by omega⟩) (show (Int32.toInt p1 - Int32.toInt x4_604).toNat < (Int32.toInt p1 - Int32.toInt x2_6).toNat by omega)
                      · refine dOk_V (ok_isDigit v_26) (fun r_1326 h_1327 => ?_)
                        replace h_1327 : ((Int32.toInt r_1326 = 1 ∧ 48 ≤ Int32.toInt v_26 ∧ Int32.toInt v_26 ≤ 57) ∨ (Int32.toInt r_1326 = 0 ∧ (Int32.toInt v_26 < 48 ∨ 57 < Int32.toInt v_26))) := h_1327
                        have i_1328 := h_1327
                        refine dOk_eq (A := Int32.toInt r_1326) (B := 0) rfl (by decide) (fun c_1329z c_1329 => ?_) (fun c_1330z c_1330 => ?_)
                        · unfold zX10_splits_247
                          refine dOk_L (fun q_1332 eq_1332 => ?_)
                          try have w_1333 : Int32.toInt (q_1304.1 0 18) = Int32.toInt (q_1183.1 0 18) := by rw [eq_1304, dui_o (by decide)]
                          have w_1334 : Int32.toInt (q_1307.1 0 18) = Int32.toInt (q_1304.1 0 18) := by rw [a_1313.2 18 (by decide)]
                          try have t_1335 : Int32.toInt (q_1307.1 0 18 + 1) = Int32.toInt (q_1307.1 0 18) + 1 := ti_add rfl (by decide) (by omega) (by omega)
                          have hTq_1332 : TS q_1332 := by rw [eq_1332]; exact ts_f a_1312 (ti_rg _).1 (ti_rg _).2
                          have hFq_1332 : dFr [9, 10, 11] [18] q q_1332 := by rw [eq_1332]; exact hFq_1307.f (by decide)
                          have w_1336 : Int32.toInt (q_1332.1 0 18) = Int32.toInt (q_1307.1 0 18 + 1) := by rw [eq_1332, dui_e]
                          exact hk_2 (q_1332, p1, x4_604) (show (TS q_1332) ∧ (dFr [9, 10, 11] [18] q_1 q_1332) ∧ (p1 = p1) ∧ (0 ≤ Int32.toInt x4_604) ∧ (Int32.toInt x4_604 ≤ Int32.toInt p1) ∧ (0 ≤ Int32.toInt (q_1332.1 0 18)) ∧ (Int32.toInt (q_1332.1 0 18) ≤ Int32.toInt x4_604) from ⟨hTq_1332, (by rw [eq_1332]; exact ((((by rw [eq_1304]; exact ((by rw [eq_1183]; exact ((by rw [eq_1180]; exact (((dFr.rf : dFr [9, 10, 11] [18] q_1 q_1).t a_8 (by decide) (by decide)) : dFr [9, 10, 11] [18] q_1 q_4).i (by decide) (by decide)) : dFr [9, 10, 11] [18] q_1 q_1180).i (by decide) (by decide)) : dFr [9, 10, 11] [18] q_1 q_1183).i (by decide) (by decide)) : dFr [9, 10, 11] [18] q_1 q_1304).t a_1313 (by decide) (by decide)) : dFr [9, 10, 11] [18] q_1 q_1307).f (by decide)), rfl, by omega, by omega, by omega, by omega⟩) (show (Int32.toInt p1 - Int32.toInt x4_604).toNat < (Int32.toInt p1 - Int32.toInt x2_6).toNat by omega)
                        · try have w_1337 : Int32.toInt (q_1304.1 0 18) = Int32.toInt (q_1183.1 0 18) := by rw [eq_1304, dui_o (by decide)]
                          have w_1338 : Int32.toInt (q_1307.1 0 18) = Int32.toInt (q_1304.1 0 18) := by rw [a_1313.2 18 (by decide)]
                          refine dOk_G (dg_ok (show 0 ≤ Int32.toInt (q_1307.1 0 18) by omega) (show Int32.toInt (q_1307.1 0 18) < ((401 : Nat) : Int) by omega)) ?_
                          have n_1339 : ((Int32.toNatClampNeg (q_1307.1 0 18) : Nat) : Int) = Int32.toInt (q_1307.1 0 18) := cl_eq (by omega)
                          refine dOk_L (fun v_1340 ev_1340 => ?_)
                          refine dOk_le (A := Int32.toInt v_1340) (B := 1000000) rfl (by decide) (fun c_1341 => ?_) (fun c_1342 => ?_)
                          · refine dOk_G (dg_ok (show 0 ≤ Int32.toInt (q_1307.1 0 18) by omega) (show Int32.toInt (q_1307.1 0 18) < ((401 : Nat) : Int) by omega)) ?_
                            refine dOk_L (fun v_1343 ev_1343 => ?_)
                            have w_1344 : Int32.toInt v_1343 = Int32.toInt v_1340 := by rw [ev_1343, ev_1340]
                            refine dOk_G (dg_ok (show 0 ≤ Int32.toInt x5_1311 by omega) (show Int32.toInt x5_1311 < ((400 : Nat) : Int) by omega)) ?_
                            have n_1345 : ((Int32.toNatClampNeg x5_1311 : Nat) : Int) = Int32.toInt x5_1311 := cl_eq (by omega)
                            refine dOk_L (fun v_1346 ev_1346 => ?_)
                            unfold zX10_splits_240
                            refine dOk_G (dg_ok (show 0 ≤ Int32.toInt (q_1307.1 0 18) by omega) (show Int32.toInt (q_1307.1 0 18) < ((401 : Nat) : Int) by omega)) ?_
                            refine dOk_L (fun q_1347 eq_1347 => ?_)
                            have hTq_1347 : TS q_1347 := by rw [eq_1347]; exact ts_any a_1312 rfl
                            have hFq_1347 : dFr [9, 10, 11] [18] q q_1347 := by rw [eq_1347]; exact hFq_1307.i (by decide) (by decide)
                            try have t_1348 : Int32.toInt (x5_1311 + 1) = Int32.toInt x5_1311 + 1 := ti_add rfl (by decide) (by omega) (by omega)
                            exact hk_1305 (q_1347, p1, v_26, x4_604, (x5_1311 + 1)) (show (TS q_1347) ∧ (dFr [10] [] q_1304 q_1347) ∧ (p1 = p1) ∧ (v_26 = v_26) ∧ (x4_604 = x4_604) ∧ (0 ≤ Int32.toInt (x5_1311 + 1)) ∧ (Int32.toInt (x5_1311 + 1) ≤ Int32.toInt x4_604) from ⟨hTq_1347, (by rw [eq_1347]; exact (((dFr.rf : dFr [10] [] q_1304 q_1304).t a_1313 (by decide) (by decide)) : dFr [10] [] q_1304 q_1307).i (by decide) (by decide)), rfl, rfl, rfl, by omega, by omega⟩) (show (Int32.toInt x4_604 - Int32.toInt (x5_1311 + 1)).toNat < (Int32.toInt x4_604 - Int32.toInt x5_1311).toNat by omega)
                          · refine dOk_G (dg_ok (show 0 ≤ Int32.toInt (q_1307.1 0 18) by omega) (show Int32.toInt (q_1307.1 0 18) < ((401 : Nat) : Int) by omega)) ?_
                            refine dOk_L (fun v_1349 ev_1349 => ?_)
                            have w_1350 : Int32.toInt v_1349 = Int32.toInt v_1340 := by rw [ev_1349, ev_1340]
                            unfold zX10_splits_240
                            refine dOk_G (dg_ok (show 0 ≤ Int32.toInt (q_1307.1 0 18) by omega) (show Int32.toInt (q_1307.1 0 18) < ((401 : Nat) : Int) by omega)) ?_
                            refine dOk_L (fun q_1351 eq_1351 => ?_)
                            have hTq_1351 : TS q_1351 := by rw [eq_1351]; exact ts_any a_1312 rfl
                            have hFq_1351 : dFr [9, 10, 11] [18] q q_1351 := by rw [eq_1351]; exact hFq_1307.i (by decide) (by decide)
                            try have t_1352 : Int32.toInt (x5_1311 + 1) = Int32.toInt x5_1311 + 1 := ti_add rfl (by decide) (by omega) (by omega)
                            exact hk_1305 (q_1351, p1, v_26, x4_604, (x5_1311 + 1)) (show (TS q_1351) ∧ (dFr [10] [] q_1304 q_1351) ∧ (p1 = p1) ∧ (v_26 = v_26) ∧ (x4_604 = x4_604) ∧ (0 ≤ Int32.toInt (x5_1311 + 1)) ∧ (Int32.toInt (x5_1311 + 1) ≤ Int32.toInt x4_604) from ⟨hTq_1351, (by rw [eq_1351]; exact (((dFr.rf : dFr [10] [] q_1304 q_1304).t a_1313 (by decide) (by decide)) : dFr [10] [] q_1304 q_1307).i (by decide) (by decide)), rfl, rfl, rfl, by omega, by omega⟩) (show (Int32.toInt x4_604 - Int32.toInt (x5_1311 + 1)).toNat < (Int32.toInt x4_604 - Int32.toInt x5_1311).toNat by omega)
                    · exact (show (TS q_1304) ∧ (dFr [10] [] q_1304 q_1304) ∧ (p1 = p1) ∧ (v_26 = v_26) ∧ (x4_604 = x4_604) ∧ (0 ≤ Int32.toInt x2_6) ∧ (Int32.toInt x2_6 ≤ Int32.toInt x4_604) from ⟨hTq_1304, dFr.rf, rfl, rfl, rfl, by omega, by omega⟩)
                    · show (Int32.toInt x4_604 - Int32.toInt x2_6).toNat < 1000000000000
                      omega
                · unfold zX10_splits_75
                  refine dFix_ok (fun (a : dS × Int32 × Int32 × Int32 × Int32) => (a.1 = q_4) ∧ (a.2.1 = p1) ∧ (a.2.2.1 = x2_6) ∧ (a.2.2.2.1 = v_26) ∧ (Int32.toInt a.2.2.1 + 1 ≤ Int32.toInt a.2.2.2.2) ∧ (Int32.toInt a.2.2.2.2 ≤ Int32.toInt a.2.1)) (fun (a : dS × Int32 × Int32 × Int32 × Int32) => (Int32.toInt a.2.1 - Int32.toInt a.2.2.2.2).toNat) ?_ _ ?_ _ (dF_gt ?_)
                  · intro a ha k_1354 hk_1353
                    obtain ⟨q_1355, x1_1356, x2_1357, x3_1358, x4_1359⟩ := a
                    replace ha : (q_1355 = q_4) ∧ (x1_1356 = p1) ∧ (x2_1357 = x2_6) ∧ (x3_1358 = v_26) ∧ (Int32.toInt x2_1357 + 1 ≤ Int32.toInt x4_1359) ∧ (Int32.toInt x4_1359 ≤ Int32.toInt x1_1356) := ha
                    obtain ⟨a_1360, a_1361, a_1362, a_1363, a_1364, a_1365⟩ := ha
                    show dOk (zX10_splits_75b _ (fun q x1 x2 x3 x4 => k_1354 (q, x1, x2, x3, x4)) q_1355 x1_1356 x2_1357 x3_1358 x4_1359) _
                    unfold zX10_splits_75b
                    subst q_1355
                    subst x1_1356
                    subst x2_1357
                    subst x3_1358
                    refine dOk_le (A := Int32.toInt p1) (B := Int32.toInt x4_1359) rfl rfl (fun c_1366 => ?_) (fun c_1367 => ?_)
                    · unfold zX10_splits_100
                      refine dOk_G (dg_ok (show 0 ≤ Int32.toInt (q_4.1 0 18) by omega) (show Int32.toInt (q_4.1 0 18) < ((401 : Nat) : Int) by omega)) ?_
                      have n_1368 : ((Int32.toNatClampNeg (q_4.1 0 18) : Nat) : Int) = Int32.toInt (q_4.1 0 18) := cl_eq (by omega)
                      refine dOk_L (fun q_1369 eq_1369 => ?_)
                      have hTq_1369 : TS q_1369 := by rw [eq_1369]; exact ts_set a_7 (by decide) (show 0 ≤ Int32.toInt x2_6 by omega) (show Int32.toInt x2_6 ≤ 400 by omega)
                      have hFq_1369 : dFr [9, 10, 11] [18] q q_1369 := by rw [eq_1369]; exact hFq_4.i (by decide) (by decide)
                      try have w_1370 : Int32.toInt (q_1369.1 0 18) = Int32.toInt (q_4.1 0 18) := by rw [eq_1369, dui_o (by decide)]
                      refine dOk_G (dg_ok (show 0 ≤ Int32.toInt (q_1369.1 0 18) by omega) (show Int32.toInt (q_1369.1 0 18) < ((401 : Nat) : Int) by omega)) ?_
                      have n_1371 : ((Int32.toNatClampNeg (q_1369.1 0 18) : Nat) : Int) = Int32.toInt (q_1369.1 0 18) := cl_eq (by omega)
                      refine dOk_L (fun q_1372 eq_1372 => ?_)
                      have hTq_1372 : TS q_1372 := by rw [eq_1372]; exact ts_any hTq_1369 rfl
                      have hFq_1372 : dFr [9, 10, 11] [18] q q_1372 := by rw [eq_1372]; exact hFq_1369.i (by decide) (by decide)
                      refine dOk_V (ok_isSmall v_26) (fun r_1373 h_1374 => ?_)
                      replace h_1374 : ((Int32.toInt r_1373 = 1 ∧ 97 ≤ Int32.toInt v_26 ∧ Int32.toInt v_26 ≤ 122) ∨ (Int32.toInt r_1373 = 0 ∧ (Int32.toInt v_26 < 97 ∨ 122 < Int32.toInt v_26))) := h_1374
                      have i_1375 := h_1374
                      refine dOk_eq (A := Int32.toInt r_1373) (B := 0) rfl (by decide) (fun c_1376z c_1376 => ?_) (fun c_1377z c_1377 => ?_)
                      · refine dOk_V (ok_isDigit v_26) (fun r_1379 h_1380 => ?_)
                        replace h_1380 : ((Int32.toInt r_1379 = 1 ∧ 48 ≤ Int32.toInt v_26 ∧ Int32.toInt v_26 ≤ 57) ∨ (Int32.toInt r_1379 = 0 ∧ (Int32.toInt v_26 < 48 ∨ 57 < Int32.toInt v_26))) := h_1380
                        have i_1381 := h_1380
                        refine dOk_eq (A := Int32.toInt r_1379) (B := 0) rfl (by decide) (fun c_1382z c_1382 => ?_) (fun c_1383z c_1383 => ?_)
                        · unfold zX10_splits_165
                          try have w_1385 : Int32.toInt (q_1372.1 0 18) = Int32.toInt (q_1369.1 0 18) := by rw [eq_1372, dui_o (by decide)]
                          refine dOk_G (dg_ok (show 0 ≤ Int32.toInt (q_1372.1 0 18) by omega) (show Int32.toInt (q_1372.1 0 18) < ((401 : Nat) : Int) by omega)) ?_
                          have n_1386 : ((Int32.toNatClampNeg (q_1372.1 0 18) : Nat) : Int) = Int32.toInt (q_1372.1 0 18) := cl_eq (by omega)
                          refine dOk_L (fun q_1387 eq_1387 => ?_)
                          have hTq_1387 : TS q_1387 := by rw [eq_1387]; exact ts_any hTq_1372 rfl
                          have hFq_1387 : dFr [9, 10, 11] [18] q q_1387 := by rw [eq_1387]; exact hFq_1372.i (by decide) (by decide)
                          unfold zX10_splits_169
                          refine dFix_ok (fun (a : dS × Int32 × Int32 × Int32 × Int32) => (TS a.1) ∧ (dFr [10] [] q_1387 a.1) ∧ (a.2.1 = p1) ∧ (a.2.2.1 = v_26) ∧ (a.2.2.2.1 = x4_1359) ∧ (0 ≤ Int32.toInt a.2.2.2.2) ∧ (Int32.toInt a.2.2.2.2 ≤ Int32.toInt a.2.2.2.1)) (fun (a : dS × Int32 × Int32 × Int32 × Int32) => (Int32.toInt a.2.2.2.1 - Int32.toInt a.2.2.2.2).toNat) ?_ _ ?_ _ (dF_gt ?_)
                          · intro a ha k_1389 hk_1388
                            obtain ⟨q_1390, x1_1391, x3_1392, x4_1393, x5_1394⟩ := a
                            replace ha : (TS q_1390) ∧ (dFr [10] [] q_1387 q_1390) ∧ (x1_1391 = p1) ∧ (x3_1392 = v_26) ∧ (x4_1393 = x4_1359) ∧ (0 ≤ Int32.toInt x5_1394) ∧ (Int32.toInt x5_1394 ≤ Int32.toInt x4_1393) := ha
                            obtain ⟨a_1395, a_1396, a_1397, a_1398, a_1399, a_1400, a_1401⟩ := ha
                            show dOk (zX10_splits_169b _ (fun q x1 x3 x4 x5 => k_1389 (q, x1, x3, x4, x5)) q_1390 x1_1391 x3_1392 x4_1393 x5_1394) _
                            unfold zX10_splits_169b
                            have hFq_1390 : dFr [9, 10, 11] [18] q q_1390 := hFq_1387.t a_1396 (by decide) (by decide)
                            subst x1_1391
                            subst x3_1392
                            subst x4_1393
                            refine dOk_le (A := Int32.toInt x4_1359) (B := Int32.toInt x5_1394) rfl rfl (fun c_1402 => ?_) (fun c_1403 => ?_)
                            · unfold zX10_splits_247
                              refine dOk_L (fun q_1404 eq_1404 => ?_)
                              try have w_1405 : Int32.toInt (q_1387.1 0 18) = Int32.toInt (q_1372.1 0 18) := by rw [eq_1387, dui_o (by decide)]
                              have w_1406 : Int32.toInt (q_1390.1 0 18) = Int32.toInt (q_1387.1 0 18) := by rw [a_1396.2 18 (by decide)]
                              try have t_1407 : Int32.toInt (q_1390.1 0 18 + 1) = Int32.toInt (q_1390.1 0 18) + 1 := ti_add rfl (by decide) (by omega) (by omega)
                              have hTq_1404 : TS q_1404 := by rw [eq_1404]; exact ts_f a_1395 (ti_rg _).1 (ti_rg _).2
                              have hFq_1404 : dFr [9, 10, 11] [18] q q_1404 := by rw [eq_1404]; exact hFq_1390.f (by decide)
                              have w_1408 : Int32.toInt (q_1404.1 0 18) = Int32.toInt (q_1390.1 0 18 + 1) := by rw [eq_1404, dui_e]
                              exact hk_2 (q_1404, p1, x4_1359) (show (TS q_1404) ∧ (dFr [9, 10, 11] [18] q_1 q_1404) ∧ (p1 = p1) ∧ (0 ≤ Int32.toInt x4_1359) ∧ (Int32.toInt x4_1359 ≤ Int32.toInt p1) ∧ (0 ≤ Int32.toInt (q_1404.1 0 18)) ∧ (Int32.toInt (q_1404.1 0 18) ≤ Int32.toInt x4_1359) from ⟨hTq_1404, (by rw [eq_1404]; exact ((((by rw [eq_1387]; exact ((by rw [eq_1372]; exact ((by rw [eq_1369]; exact (((dFr.rf : dFr [9, 10, 11] [18] q_1 q_1).t a_8 (by decide) (by decide)) : dFr [9, 10, 11] [18] q_1 q_4).i (by decide) (by decide)) : dFr [9, 10, 11] [18] q_1 q_1369).i (by decide) (by decide)) : dFr [9, 10, 11] [18] q_1 q_1372).i (by decide) (by decide)) : dFr [9, 10, 11] [18] q_1 q_1387).t a_1396 (by decide) (by decide)) : dFr [9, 10, 11] [18] q_1 q_1390).f (by decide)), rfl, by omega, by omega, by omega, by omega⟩) (show (Int32.toInt p1 - Int32.toInt x4_1359).toNat < (Int32.toInt p1 - Int32.toInt x2_6).toNat by omega)
                            · refine dOk_V (ok_isDigit v_26) (fun r_1409 h_1410 => ?_)
                              replace h_1410 : ((Int32.toInt r_1409 = 1 ∧ 48 ≤ Int32.toInt v_26 ∧ Int32.toInt v_26 ≤ 57) ∨ (Int32.toInt r_1409 = 0 ∧ (Int32.toInt v_26 < 48 ∨ 57 < Int32.toInt v_26))) := h_1410
                              have i_1411 := h_1410
                              refine dOk_eq (A := Int32.toInt r_1409) (B := 0) rfl (by decide) (fun c_1412z c_1412 => ?_) (fun c_1413z c_1413 => ?_)
                              · unfold zX10_splits_247
                                refine dOk_L (fun q_1415 eq_1415 => ?_)
                                try have w_1416 : Int32.toInt (q_1387.1 0 18) = Int32.toInt (q_1372.1 0 18) := by rw [eq_1387, dui_o (by decide)]
                                have w_1417 : Int32.toInt (q_1390.1 0 18) = Int32.toInt (q_1387.1 0 18) := by rw [a_1396.2 18 (by decide)]
                                try have t_1418 : Int32.toInt (q_1390.1 0 18 + 1) = Int32.toInt (q_1390.1 0 18) + 1 := ti_add rfl (by decide) (by omega) (by omega)
                                have hTq_1415 : TS q_1415 := by rw [eq_1415]; exact ts_f a_1395 (ti_rg _).1 (ti_rg _).2
                                have hFq_1415 : dFr [9, 10, 11] [18] q q_1415 := by rw [eq_1415]; exact hFq_1390.f (by decide)
                                have w_1419 : Int32.toInt (q_1415.1 0 18) = Int32.toInt (q_1390.1 0 18 + 1) := by rw [eq_1415, dui_e]
                                exact hk_2 (q_1415, p1, x4_1359) (show (TS q_1415) ∧ (dFr [9, 10, 11] [18] q_1 q_1415) ∧ (p1 = p1) ∧ (0 ≤ Int32.toInt x4_1359) ∧ (Int32.toInt x4_1359 ≤ Int32.toInt p1) ∧ (0 ≤ Int32.toInt (q_1415.1 0 18)) ∧ (Int32.toInt (q_1415.1 0 18) ≤ Int32.toInt x4_1359) from ⟨hTq_1415, (by rw [eq_1415]; exact ((((by rw [eq_1387]; exact ((by rw [eq_1372]; exact ((by rw [eq_1369]; exact (((dFr.rf : dFr [9, 10, 11] [18] q_1 q_1).t a_8 (by decide) (by decide)) : dFr [9, 10, 11] [18] q_1 q_4).i (by decide) (by decide)) : dFr [9, 10, 11] [18] q_1 q_1369).i (by decide) (by decide)) : dFr [9, 10, 11] [18] q_1 q_1372).i (by decide) (by decide)) : dFr [9, 10, 11] [18] q_1 q_1387).t a_1396 (by decide) (by decide)) : dFr [9, 10, 11] [18] q_1 q_1390).f (by decide)), rfl, by omega, by omega, by omega, by omega⟩) (show (Int32.toInt p1 - Int32.toInt x4_1359).toNat < (Int32.toInt p1 - Int32.toInt x2_6).toNat by omega)
                              · try have w_1420 : Int32.toInt (q_1387.1 0 18) = Int32.toInt (q_1372.1 0 18) := by rw [eq_1387, dui_o (by decide)]
                                have w_1421 : Int32.toInt (q_1390.1 0 18) = Int32.toInt (q_1387.1 0 18) := by rw [a_1396.2 18 (by decide)]
                                refine dOk_G (dg_ok (show 0 ≤ Int32.toInt (q_1390.1 0 18) by omega) (show Int32.toInt (q_1390.1 0 18) < ((401 : Nat) : Int) by omega)) ?_
                                have n_1422 : ((Int32.toNatClampNeg (q_1390.1 0 18) : Nat) : Int) = Int32.toInt (q_1390.1 0 18) := cl_eq (by omega)
                                refine dOk_L (fun v_1423 ev_1423 => ?_)
                                refine dOk_le (A := Int32.toInt v_1423) (B := 1000000) rfl (by decide) (fun c_1424 => ?_) (fun c_1425 => ?_)
                                · refine dOk_G (dg_ok (show 0 ≤ Int32.toInt (q_1390.1 0 18) by omega) (show Int32.toInt (q_1390.1 0 18) < ((401 : Nat) : Int) by omega)) ?_
                                  refine dOk_L (fun v_1426 ev_1426 => ?_)
                                  have w_1427 : Int32.toInt v_1426 = Int32.toInt v_1423 := by rw [ev_1426, ev_1423]
                                  refine dOk_G (dg_ok (show 0 ≤ Int32.toInt x5_1394 by omega) (show Int32.toInt x5_1394 < ((400 : Nat) : Int) by omega)) ?_
                                  have n_1428 : ((Int32.toNatClampNeg x5_1394 : Nat) : Int) = Int32.toInt x5_1394 := cl_eq (by omega)
                                  refine dOk_L (fun v_1429 ev_1429 => ?_)
                                  unfold zX10_splits_240
                                  refine dOk_G (dg_ok (show 0 ≤ Int32.toInt (q_1390.1 0 18) by omega) (show Int32.toInt (q_1390.1 0 18) < ((401 : Nat) : Int) by omega)) ?_
                                  refine dOk_L (fun q_1430 eq_1430 => ?_)
                                  have hTq_1430 : TS q_1430 := by rw [eq_1430]; exact ts_any a_1395 rfl
                                  have hFq_1430 : dFr [9, 10, 11] [18] q q_1430 := by rw [eq_1430]; exact hFq_1390.i (by decide) (by decide)
                                  try have t_1431 : Int32.toInt (x5_1394 + 1) = Int32.toInt x5_1394 + 1 := ti_add rfl (by decide) (by omega) (by omega)
                                  exact hk_1388 (q_1430, p1, v_26, x4_1359, (x5_1394 + 1)) (show (TS q_1430) ∧ (dFr [10] [] q_1387 q_1430) ∧ (p1 = p1) ∧ (v_26 = v_26) ∧ (x4_1359 = x4_1359) ∧ (0 ≤ Int32.toInt (x5_1394 + 1)) ∧ (Int32.toInt (x5_1394 + 1) ≤ Int32.toInt x4_1359) from ⟨hTq_1430, (by rw [eq_1430]; exact (((dFr.rf : dFr [10] [] q_1387 q_1387).t a_1396 (by decide) (by decide)) : dFr [10] [] q_1387 q_1390).i (by decide) (by decide)), rfl, rfl, rfl, by omega, by omega⟩) (show (Int32.toInt x4_1359 - Int32.toInt (x5_1394 + 1)).toNat < (Int32.toInt x4_1359 - Int32.toInt x5_1394).toNat by omega)
                                · refine dOk_G (dg_ok (show 0 ≤ Int32.toInt (q_1390.1 0 18) by omega) (show Int32.toInt (q_1390.1 0 18) < ((401 : Nat) : Int) by omega)) ?_
                                  refine dOk_L (fun v_1432 ev_1432 => ?_)
                                  have w_1433 : Int32.toInt v_1432 = Int32.toInt v_1423 := by rw [ev_1432, ev_1423]
                                  unfold zX10_splits_240
                                  refine dOk_G (dg_ok (show 0 ≤ Int32.toInt (q_1390.1 0 18) by omega) (show Int32.toInt (q_1390.1 0 18) < ((401 : Nat) : Int) by omega)) ?_
                                  refine dOk_L (fun q_1434 eq_1434 => ?_)
                                  have hTq_1434 : TS q_1434 := by rw [eq_1434]; exact ts_any a_1395 rfl
                                  have hFq_1434 : dFr [9, 10, 11] [18] q q_1434 := by rw [eq_1434]; exact hFq_1390.i (by decide) (by decide)
                                  try have t_1435 : Int32.toInt (x5_1394 + 1) = Int32.toInt x5_1394 + 1 := ti_add rfl (by decide) (by omega) (by omega)
                                  exact hk_1388 (q_1434, p1, v_26, x4_1359, (x5_1394 + 1)) (show (TS q_1434) ∧ (dFr [10] [] q_1387 q_1434) ∧ (p1 = p1) ∧ (v_26 = v_26) ∧ (x4_1359 = x4_1359) ∧ (0 ≤ Int32.toInt (x5_1394 + 1)) ∧ (Int32.toInt (x5_1394 + 1) ≤ Int32.toInt x4_1359) from ⟨hTq_1434, (by rw [eq_1434]; exact (((dFr.rf : dFr [10] [] q_1387 q_1387).t a_1396 (by decide) (by decide)) : dFr [10] [] q_1387 q_1390).i (by decide) (by decide)), rfl, rfl, rfl, by omega, by omega⟩) (show (Int32.toInt x4_1359 - Int32.toInt (x5_1394 + 1)).toNat < (Int32.toInt x4_1359 - Int32.toInt x5_1394).toNat by omega)
                          · exact (show (TS q_1387) ∧ (dFr [10] [] q_1387 q_1387) ∧ (p1 = p1) ∧ (v_26 = v_26) ∧ (x4_1359 = x4_1359) ∧ (0 ≤ Int32.toInt x2_6) ∧ (Int32.toInt x2_6 ≤ Int32.toInt x4_1359) from ⟨hTq_1387, dFr.rf, rfl, rfl, rfl, by omega, by omega⟩)
                          · show (Int32.toInt x4_1359 - Int32.toInt x2_6).toNat < 1000000000000
                            omega
                        · unfold zX10_splits_165
                          try have w_1436 : Int32.toInt (q_1372.1 0 18) = Int32.toInt (q_1369.1 0 18) := by rw [eq_1372, dui_o (by decide)]
                          refine dOk_G (dg_ok (show 0 ≤ Int32.toInt (q_1372.1 0 18) by omega) (show Int32.toInt (q_1372.1 0 18) < ((401 : Nat) : Int) by omega)) ?_
                          have n_1437 : ((Int32.toNatClampNeg (q_1372.1 0 18) : Nat) : Int) = Int32.toInt (q_1372.1 0 18) := cl_eq (by omega)
                          refine dOk_L (fun q_1438 eq_1438 => ?_)
                          have hTq_1438 : TS q_1438 := by rw [eq_1438]; exact ts_any hTq_1372 rfl
                          have hFq_1438 : dFr [9, 10, 11] [18] q q_1438 := by rw [eq_1438]; exact hFq_1372.i (by decide) (by decide)
                          unfold zX10_splits_169
                          refine dFix_ok (fun (a : dS × Int32 × Int32 × Int32 × Int32) => (TS a.1) ∧ (dFr [10] [] q_1438 a.1) ∧ (a.2.1 = p1) ∧ (a.2.2.1 = v_26) ∧ (a.2.2.2.1 = x4_1359) ∧ (0 ≤ Int32.toInt a.2.2.2.2) ∧ (Int32.toInt a.2.2.2.2 ≤ Int32.toInt a.2.2.2.1)) (fun (a : dS × Int32 × Int32 × Int32 × Int32) => (Int32.toInt a.2.2.2.1 - Int32.toInt a.2.2.2.2).toNat) ?_ _ ?_ _ (dF_gt ?_)
                          · intro a ha k_1440 hk_1439
                            obtain ⟨q_1441, x1_1442, x3_1443, x4_1444, x5_1445⟩ := a
                            replace ha : (TS q_1441) ∧ (dFr [10] [] q_1438 q_1441) ∧ (x1_1442 = p1) ∧ (x3_1443 = v_26) ∧ (x4_1444 = x4_1359) ∧ (0 ≤ Int32.toInt x5_1445) ∧ (Int32.toInt x5_1445 ≤ Int32.toInt x4_1444) := ha
                            obtain ⟨a_1446, a_1447, a_1448, a_1449, a_1450, a_1451, a_1452⟩ := ha
                            show dOk (zX10_splits_169b _ (fun q x1 x3 x4 x5 => k_1440 (q, x1, x3, x4, x5)) q_1441 x1_1442 x3_1443 x4_1444 x5_1445) _
                            unfold zX10_splits_169b
                            have hFq_1441 : dFr [9, 10, 11] [18] q q_1441 := hFq_1438.t a_1447 (by decide) (by decide)
                            subst x1_1442
                            subst x3_1443
                            subst x4_1444
                            refine dOk_le (A := Int32.toInt x4_1359) (B := Int32.toInt x5_1445) rfl rfl (fun c_1453 => ?_) (fun c_1454 => ?_)
                            · unfold zX10_splits_247
                              refine dOk_L (fun q_1455 eq_1455 => ?_)
                              try have w_1456 : Int32.toInt (q_1438.1 0 18) = Int32.toInt (q_1372.1 0 18) := by rw [eq_1438, dui_o (by decide)]
                              have w_1457 : Int32.toInt (q_1441.1 0 18) = Int32.toInt (q_1438.1 0 18) := by rw [a_1447.2 18 (by decide)]
                              try have t_1458 : Int32.toInt (q_1441.1 0 18 + 1) = Int32.toInt (q_1441.1 0 18) + 1 := ti_add rfl (by decide) (by omega) (by omega)
                              have hTq_1455 : TS q_1455 := by rw [eq_1455]; exact ts_f a_1446 (ti_rg _).1 (ti_rg _).2
                              have hFq_1455 : dFr [9, 10, 11] [18] q q_1455 := by rw [eq_1455]; exact hFq_1441.f (by decide)
                              have w_1459 : Int32.toInt (q_1455.1 0 18) = Int32.toInt (q_1441.1 0 18 + 1) := by rw [eq_1455, dui_e]
                              exact hk_2 (q_1455, p1, x4_1359) (show (TS q_1455) ∧ (dFr [9, 10, 11] [18] q_1 q_1455) ∧ (p1 = p1) ∧ (0 ≤ Int32.toInt x4_1359) ∧ (Int32.toInt x4_1359 ≤ Int32.toInt p1) ∧ (0 ≤ Int32.toInt (q_1455.1 0 18)) ∧ (Int32.toInt (q_1455.1 0 18) ≤ Int32.toInt x4_1359) from ⟨hTq_1455, (by rw [eq_1455]; exact ((((by rw [eq_1438]; exact ((by rw [eq_1372]; exact ((by rw [eq_1369]; exact (((dFr.rf : dFr [9, 10, 11] [18] q_1 q_1).t a_8 (by decide) (by decide)) : dFr [9, 10, 11] [18] q_1 q_4).i (by decide) (by decide)) : dFr [9, 10, 11] [18] q_1 q_1369).i (by decide) (by decide)) : dFr [9, 10, 11] [18] q_1 q_1372).i (by decide) (by decide)) : dFr [9, 10, 11] [18] q_1 q_1438).t a_1447 (by decide) (by decide)) : dFr [9, 10, 11] [18] q_1 q_1441).f (by decide)), rfl, by omega, by omega, by omega, by omega⟩) (show (Int32.toInt p1 - Int32.toInt x4_1359).toNat < (Int32.toInt p1 - Int32.toInt x2_6).toNat by omega)
                            · refine dOk_V (ok_isDigit v_26) (fun r_1460 h_1461 => ?_)
                              replace h_1461 : ((Int32.toInt r_1460 = 1 ∧ 48 ≤ Int32.toInt v_26 ∧ Int32.toInt v_26 ≤ 57) ∨ (Int32.toInt r_1460 = 0 ∧ (Int32.toInt v_26 < 48 ∨ 57 < Int32.toInt v_26))) := h_1461
                              have i_1462 := h_1461
                              refine dOk_eq (A := Int32.toInt r_1460) (B := 0) rfl (by decide) (fun c_1463z c_1463 => ?_) (fun c_1464z c_1464 => ?_)
                              · unfold zX10_splits_247
                                refine dOk_L (fun q_1466 eq_1466 => ?_)
                                try have w_1467 : Int32.toInt (q_1438.1 0 18) = Int32.toInt (q_1372.1 0 18) := by rw [eq_1438, dui_o (by decide)]
                                have w_1468 : Int32.toInt (q_1441.1 0 18) = Int32.toInt (q_1438.1 0 18) := by rw [a_1447.2 18 (by decide)]
                                try have t_1469 : Int32.toInt (q_1441.1 0 18 + 1) = Int32.toInt (q_1441.1 0 18) + 1 := ti_add rfl (by decide) (by omega) (by omega)
                                have hTq_1466 : TS q_1466 := by rw [eq_1466]; exact ts_f a_1446 (ti_rg _).1 (ti_rg _).2
                                have hFq_1466 : dFr [9, 10, 11] [18] q q_1466 := by rw [eq_1466]; exact hFq_1441.f (by decide)
                                have w_1470 : Int32.toInt (q_1466.1 0 18) = Int32.toInt (q_1441.1 0 18 + 1) := by rw [eq_1466, dui_e]
                                exact hk_2 (q_1466, p1, x4_1359) (show (TS q_1466) ∧ (dFr [9, 10, 11] [18] q_1 q_1466) ∧ (p1 = p1) ∧ (0 ≤ Int32.toInt x4_1359) ∧ (Int32.toInt x4_1359 ≤ Int32.toInt p1) ∧ (0 ≤ Int32.toInt (q_1466.1 0 18)) ∧ (Int32.toInt (q_1466.1 0 18) ≤ Int32.toInt x4_1359) from ⟨hTq_1466, (by rw [eq_1466]; exact ((((by rw [eq_1438]; exact ((by rw [eq_1372]; exact ((by rw [eq_1369]; exact (((dFr.rf : dFr [9, 10, 11] [18] q_1 q_1).t a_8 (by decide) (by decide)) : dFr [9, 10, 11] [18] q_1 q_4).i (by decide) (by decide)) : dFr [9, 10, 11] [18] q_1 q_1369).i (by decide) (by decide)) : dFr [9, 10, 11] [18] q_1 q_1372).i (by decide) (by decide)) : dFr [9, 10, 11] [18] q_1 q_1438).t a_1447 (by decide) (by decide)) : dFr [9, 10, 11] [18] q_1 q_1441).f (by decide)), rfl, by omega, by omega, by omega, by omega⟩) (show (Int32.toInt p1 - Int32.toInt x4_1359).toNat < (Int32.toInt p1 - Int32.toInt x2_6).toNat by omega)
                              · try have w_1471 : Int32.toInt (q_1438.1 0 18) = Int32.toInt (q_1372.1 0 18) := by rw [eq_1438, dui_o (by decide)]
                                have w_1472 : Int32.toInt (q_1441.1 0 18) = Int32.toInt (q_1438.1 0 18) := by rw [a_1447.2 18 (by decide)]
                                refine dOk_G (dg_ok (show 0 ≤ Int32.toInt (q_1441.1 0 18) by omega) (show Int32.toInt (q_1441.1 0 18) < ((401 : Nat) : Int) by omega)) ?_
                                have n_1473 : ((Int32.toNatClampNeg (q_1441.1 0 18) : Nat) : Int) = Int32.toInt (q_1441.1 0 18) := cl_eq (by omega)
                                refine dOk_L (fun v_1474 ev_1474 => ?_)
                                refine dOk_le (A := Int32.toInt v_1474) (B := 1000000) rfl (by decide) (fun c_1475 => ?_) (fun c_1476 => ?_)
                                · refine dOk_G (dg_ok (show 0 ≤ Int32.toInt (q_1441.1 0 18) by omega) (show Int32.toInt (q_1441.1 0 18) < ((401 : Nat) : Int) by omega)) ?_
                                  refine dOk_L (fun v_1477 ev_1477 => ?_)
                                  have w_1478 : Int32.toInt v_1477 = Int32.toInt v_1474 := by rw [ev_1477, ev_1474]
                                  refine dOk_G (dg_ok (show 0 ≤ Int32.toInt x5_1445 by omega) (show Int32.toInt x5_1445 < ((400 : Nat) : Int) by omega)) ?_
                                  have n_1479 : ((Int32.toNatClampNeg x5_1445 : Nat) : Int) = Int32.toInt x5_1445 := cl_eq (by omega)
                                  refine dOk_L (fun v_1480 ev_1480 => ?_)
                                  unfold zX10_splits_240
                                  refine dOk_G (dg_ok (show 0 ≤ Int32.toInt (q_1441.1 0 18) by omega) (show Int32.toInt (q_1441.1 0 18) < ((401 : Nat) : Int) by omega)) ?_
                                  refine dOk_L (fun q_1481 eq_1481 => ?_)
                                  have hTq_1481 : TS q_1481 := by rw [eq_1481]; exact ts_any a_1446 rfl
                                  have hFq_1481 : dFr [9, 10, 11] [18] q q_1481 := by rw [eq_1481]; exact hFq_1441.i (by decide) (by decide)
                                  try have t_1482 : Int32.toInt (x5_1445 + 1) = Int32.toInt x5_1445 + 1 := ti_add rfl (by decide) (by omega) (by omega)
                                  exact hk_1439 (q_1481, p1, v_26, x4_1359, (x5_1445 + 1)) (show (TS q_1481) ∧ (dFr [10] [] q_1438 q_1481) ∧ (p1 = p1) ∧ (v_26 = v_26) ∧ (x4_1359 = x4_1359) ∧ (0 ≤ Int32.toInt (x5_1445 + 1)) ∧ (Int32.toInt (x5_1445 + 1) ≤ Int32.toInt x4_1359) from ⟨hTq_1481, (by rw [eq_1481]; exact (((dFr.rf : dFr [10] [] q_1438 q_1438).t a_1447 (by decide) (by decide)) : dFr [10] [] q_1438 q_1441).i (by decide) (by decide)), rfl, rfl, rfl, by omega, by omega⟩) (show (Int32.toInt x4_1359 - Int32.toInt (x5_1445 + 1)).toNat < (Int32.toInt x4_1359 - Int32.toInt x5_1445).toNat by omega)
                                · refine dOk_G (dg_ok (show 0 ≤ Int32.toInt (q_1441.1 0 18) by omega) (show Int32.toInt (q_1441.1 0 18) < ((401 : Nat) : Int) by omega)) ?_
                                  refine dOk_L (fun v_1483 ev_1483 => ?_)
                                  have w_1484 : Int32.toInt v_1483 = Int32.toInt v_1474 := by rw [ev_1483, ev_1474]
                                  unfold zX10_splits_240
                                  refine dOk_G (dg_ok (show 0 ≤ Int32.toInt (q_1441.1 0 18) by omega) (show Int32.toInt (q_1441.1 0 18) < ((401 : Nat) : Int) by omega)) ?_
                                  refine dOk_L (fun q_1485 eq_1485 => ?_)
                                  have hTq_1485 : TS q_1485 := by rw [eq_1485]; exact ts_any a_1446 rfl
                                  have hFq_1485 : dFr [9, 10, 11] [18] q q_1485 := by rw [eq_1485]; exact hFq_1441.i (by decide) (by decide)
                                  try have t_1486 : Int32.toInt (x5_1445 + 1) = Int32.toInt x5_1445 + 1 := ti_add rfl (by decide) (by omega) (by omega)
                                  exact hk_1439 (q_1485, p1, v_26, x4_1359, (x5_1445 + 1)) (show (TS q_1485) ∧ (dFr [10] [] q_1438 q_1485) ∧ (p1 = p1) ∧ (v_26 = v_26) ∧ (x4_1359 = x4_1359) ∧ (0 ≤ Int32.toInt (x5_1445 + 1)) ∧ (Int32.toInt (x5_1445 + 1) ≤ Int32.toInt x4_1359) from ⟨hTq_1485, (by rw [eq_1485]; exact (((dFr.rf : dFr [10] [] q_1438 q_1438).t a_1447 (by decide) (by decide)) : dFr [10] [] q_1438 q_1441).i (by decide) (by decide)), rfl, rfl, rfl, by omega, by omega⟩) (show (Int32.toInt x4_1359 - Int32.toInt (x5_1445 + 1)).toNat < (Int32.toInt x4_1359 - Int32.toInt x5_1445).toNat by omega)
                          · exact (show (TS q_1438) ∧ (dFr [10] [] q_1438 q_1438) ∧ (p1 = p1) ∧ (v_26 = v_26) ∧ (x4_1359 = x4_1359) ∧ (0 ≤ Int32.toInt x2_6) ∧ (Int32.toInt x2_6 ≤ Int32.toInt x4_1359) from ⟨hTq_1438, dFr.rf, rfl, rfl, rfl, by omega, by omega⟩)
                          · show (Int32.toInt x4_1359 - Int32.toInt x2_6).toNat < 1000000000000
                            omega
                      · refine dOk_B (ok_wordOf q_1372 x2_6 x4_1359 hTq_1372 (show 0 ≤ Int32.toInt x2_6 by omega) (show Int32.toInt x2_6 < Int32.toInt x4_1359 by omega) (show Int32.toInt x4_1359 ≤ 400 by omega)) (fun r_1487 q_1488 h_1489 => ?_)
                        replace h_1489 : (q_1488 = q_1372) := h_1489
                        have i_1490 := h_1489
                        subst q_1488
                        unfold zX10_splits_165
                        try have w_1491 : Int32.toInt (q_1372.1 0 18) = Int32.toInt (q_1369.1 0 18) := by rw [eq_1372, dui_o (by decide)]
                        refine dOk_G (dg_ok (show 0 ≤ Int32.toInt (q_1372.1 0 18) by omega) (show Int32.toInt (q_1372.1 0 18) < ((401 : Nat) : Int) by omega)) ?_
                        have n_1492 : ((Int32.toNatClampNeg (q_1372.1 0 18) : Nat) : Int) = Int32.toInt (q_1372.1 0 18) := cl_eq (by omega)
                        refine dOk_L (fun q_1493 eq_1493 => ?_)
                        have hTq_1493 : TS q_1493 := by rw [eq_1493]; exact ts_any hTq_1372 rfl
                        have hFq_1493 : dFr [9, 10, 11] [18] q q_1493 := by rw [eq_1493]; exact hFq_1372.i (by decide) (by decide)
                        unfold zX10_splits_169
                        refine dFix_ok (fun (a : dS × Int32 × Int32 × Int32 × Int32) => (TS a.1) ∧ (dFr [10] [] q_1493 a.1) ∧ (a.2.1 = p1) ∧ (a.2.2.1 = v_26) ∧ (a.2.2.2.1 = x4_1359) ∧ (0 ≤ Int32.toInt a.2.2.2.2) ∧ (Int32.toInt a.2.2.2.2 ≤ Int32.toInt a.2.2.2.1)) (fun (a : dS × Int32 × Int32 × Int32 × Int32) => (Int32.toInt a.2.2.2.1 - Int32.toInt a.2.2.2.2).toNat) ?_ _ ?_ _ (dF_gt ?_)
                        · intro a ha k_1495 hk_1494
                          obtain ⟨q_1496, x1_1497, x3_1498, x4_1499, x5_1500⟩ := a
                          replace ha : (TS q_1496) ∧ (dFr [10] [] q_1493 q_1496) ∧ (x1_1497 = p1) ∧ (x3_1498 = v_26) ∧ (x4_1499 = x4_1359) ∧ (0 ≤ Int32.toInt x5_1500) ∧ (Int32.toInt x5_1500 ≤ Int32.toInt x4_1499) := ha
                          obtain ⟨a_1501, a_1502, a_1503, a_1504, a_1505, a_1506, a_1507⟩ := ha
                          show dOk (zX10_splits_169b _ (fun q x1 x3 x4 x5 => k_1495 (q, x1, x3, x4, x5)) q_1496 x1_1497 x3_1498 x4_1499 x5_1500) _
                          unfold zX10_splits_169b
                          have hFq_1496 : dFr [9, 10, 11] [18] q q_1496 := hFq_1493.t a_1502 (by decide) (by decide)
                          subst x1_1497
                          subst x3_1498
                          subst x4_1499
                          refine dOk_le (A := Int32.toInt x4_1359) (B := Int32.toInt x5_1500) rfl rfl (fun c_1508 => ?_) (fun c_1509 => ?_)
                          · unfold zX10_splits_247
                            refine dOk_L (fun q_1510 eq_1510 => ?_)
                            try have w_1511 : Int32.toInt (q_1493.1 0 18) = Int32.toInt (q_1372.1 0 18) := by rw [eq_1493, dui_o (by decide)]
                            have w_1512 : Int32.toInt (q_1496.1 0 18) = Int32.toInt (q_1493.1 0 18) := by rw [a_1502.2 18 (by decide)]
                            try have t_1513 : Int32.toInt (q_1496.1 0 18 + 1) = Int32.toInt (q_1496.1 0 18) + 1 := ti_add rfl (by decide) (by omega) (by omega)
                            have hTq_1510 : TS q_1510 := by rw [eq_1510]; exact ts_f a_1501 (ti_rg _).1 (ti_rg _).2
                            have hFq_1510 : dFr [9, 10, 11] [18] q q_1510 := by rw [eq_1510]; exact hFq_1496.f (by decide)
                            have w_1514 : Int32.toInt (q_1510.1 0 18) = Int32.toInt (q_1496.1 0 18 + 1) := by rw [eq_1510, dui_e]
                            exact hk_2 (q_1510, p1, x4_1359) (show (TS q_1510) ∧ (dFr [9, 10, 11] [18] q_1 q_1510) ∧ (p1 = p1) ∧ (0 ≤ Int32.toInt x4_1359) ∧ (Int32.toInt x4_1359 ≤ Int32.toInt p1) ∧ (0 ≤ Int32.toInt (q_1510.1 0 18)) ∧ (Int32.toInt (q_1510.1 0 18) ≤ Int32.toInt x4_1359) from ⟨hTq_1510, (by rw [eq_1510]; exact ((((by rw [eq_1493]; exact ((by rw [eq_1372]; exact ((by rw [eq_1369]; exact (((dFr.rf : dFr [9, 10, 11] [18] q_1 q_1).t a_8 (by decide) (by decide)) : dFr [9, 10, 11] [18] q_1 q_4).i (by decide) (by decide)) : dFr [9, 10, 11] [18] q_1 q_1369).i (by decide) (by decide)) : dFr [9, 10, 11] [18] q_1 q_1372).i (by decide) (by decide)) : dFr [9, 10, 11] [18] q_1 q_1493).t a_1502 (by decide) (by decide)) : dFr [9, 10, 11] [18] q_1 q_1496).f (by decide)), rfl, by omega, by omega, by omega, by omega⟩) (show (Int32.toInt p1 - Int32.toInt x4_1359).toNat < (Int32.toInt p1 - Int32.toInt x2_6).toNat by omega)
                          · refine dOk_V (ok_isDigit v_26) (fun r_1515 h_1516 => ?_)
                            replace h_1516 : ((Int32.toInt r_1515 = 1 ∧ 48 ≤ Int32.toInt v_26 ∧ Int32.toInt v_26 ≤ 57) ∨ (Int32.toInt r_1515 = 0 ∧ (Int32.toInt v_26 < 48 ∨ 57 < Int32.toInt v_26))) := h_1516
                            have i_1517 := h_1516
                            refine dOk_eq (A := Int32.toInt r_1515) (B := 0) rfl (by decide) (fun c_1518z c_1518 => ?_) (fun c_1519z c_1519 => ?_)
                            · unfold zX10_splits_247
                              refine dOk_L (fun q_1521 eq_1521 => ?_)
                              try have w_1522 : Int32.toInt (q_1493.1 0 18) = Int32.toInt (q_1372.1 0 18) := by rw [eq_1493, dui_o (by decide)]
                              have w_1523 : Int32.toInt (q_1496.1 0 18) = Int32.toInt (q_1493.1 0 18) := by rw [a_1502.2 18 (by decide)]
                              try have t_1524 : Int32.toInt (q_1496.1 0 18 + 1) = Int32.toInt (q_1496.1 0 18) + 1 := ti_add rfl (by decide) (by omega) (by omega)
                              have hTq_1521 : TS q_1521 := by rw [eq_1521]; exact ts_f a_1501 (ti_rg _).1 (ti_rg _).2
                              have hFq_1521 : dFr [9, 10, 11] [18] q q_1521 := by rw [eq_1521]; exact hFq_1496.f (by decide)
                              have w_1525 : Int32.toInt (q_1521.1 0 18) = Int32.toInt (q_1496.1 0 18 + 1) := by rw [eq_1521, dui_e]
                              exact hk_2 (q_1521, p1, x4_1359) (show (TS q_1521) ∧ (dFr [9, 10, 11] [18] q_1 q_1521) ∧ (p1 = p1) ∧ (0 ≤ Int32.toInt x4_1359) ∧ (Int32.toInt x4_1359 ≤ Int32.toInt p1) ∧ (0 ≤ Int32.toInt (q_1521.1 0 18)) ∧ (Int32.toInt (q_1521.1 0 18) ≤ Int32.toInt x4_1359) from ⟨hTq_1521, (by rw [eq_1521]; exact ((((by rw [eq_1493]; exact ((by rw [eq_1372]; exact ((by rw [eq_1369]; exact (((dFr.rf : dFr [9, 10, 11] [18] q_1 q_1).t a_8 (by decide) (by decide)) : dFr [9, 10, 11] [18] q_1 q_4).i (by decide) (by decide)) : dFr [9, 10, 11] [18] q_1 q_1369).i (by decide) (by decide)) : dFr [9, 10, 11] [18] q_1 q_1372).i (by decide) (by decide)) : dFr [9, 10, 11] [18] q_1 q_1493).t a_1502 (by decide) (by decide)) : dFr [9, 10, 11] [18] q_1 q_1496).f (by decide)), rfl, by omega, by omega, by omega, by omega⟩) (show (Int32.toInt p1 - Int32.toInt x4_1359).toNat < (Int32.toInt p1 - Int32.toInt x2_6).toNat by omega)
                            · try have w_1526 : Int32.toInt (q_1493.1 0 18) = Int32.toInt (q_1372.1 0 18) := by rw [eq_1493, dui_o (by decide)]
                              have w_1527 : Int32.toInt (q_1496.1 0 18) = Int32.toInt (q_1493.1 0 18) := by rw [a_1502.2 18 (by decide)]
                              refine dOk_G (dg_ok (show 0 ≤ Int32.toInt (q_1496.1 0 18) by omega) (show Int32.toInt (q_1496.1 0 18) < ((401 : Nat) : Int) by omega)) ?_
                              have n_1528 : ((Int32.toNatClampNeg (q_1496.1 0 18) : Nat) : Int) = Int32.toInt (q_1496.1 0 18) := cl_eq (by omega)
                              refine dOk_L (fun v_1529 ev_1529 => ?_)
                              refine dOk_le (A := Int32.toInt v_1529) (B := 1000000) rfl (by decide) (fun c_1530 => ?_) (fun c_1531 => ?_)
                              · refine dOk_G (dg_ok (show 0 ≤ Int32.toInt (q_1496.1 0 18) by omega) (show Int32.toInt (q_1496.1 0 18) < ((401 : Nat) : Int) by omega)) ?_
                                refine dOk_L (fun v_1532 ev_1532 => ?_)
                                have w_1533 : Int32.toInt v_1532 = Int32.toInt v_1529 := by rw [ev_1532, ev_1529]
                                refine dOk_G (dg_ok (show 0 ≤ Int32.toInt x5_1500 by omega) (show Int32.toInt x5_1500 < ((400 : Nat) : Int) by omega)) ?_
                                have n_1534 : ((Int32.toNatClampNeg x5_1500 : Nat) : Int) = Int32.toInt x5_1500 := cl_eq (by omega)
                                refine dOk_L (fun v_1535 ev_1535 => ?_)
                                unfold zX10_splits_240
                                refine dOk_G (dg_ok (show 0 ≤ Int32.toInt (q_1496.1 0 18) by omega) (show Int32.toInt (q_1496.1 0 18) < ((401 : Nat) : Int) by omega)) ?_
                                refine dOk_L (fun q_1536 eq_1536 => ?_)
                                have hTq_1536 : TS q_1536 := by rw [eq_1536]; exact ts_any a_1501 rfl
                                have hFq_1536 : dFr [9, 10, 11] [18] q q_1536 := by rw [eq_1536]; exact hFq_1496.i (by decide) (by decide)
                                try have t_1537 : Int32.toInt (x5_1500 + 1) = Int32.toInt x5_1500 + 1 := ti_add rfl (by decide) (by omega) (by omega)
                                exact hk_1494 (q_1536, p1, v_26, x4_1359, (x5_1500 + 1)) (show (TS q_1536) ∧ (dFr [10] [] q_1493 q_1536) ∧ (p1 = p1) ∧ (v_26 = v_26) ∧ (x4_1359 = x4_1359) ∧ (0 ≤ Int32.toInt (x5_1500 + 1)) ∧ (Int32.toInt (x5_1500 + 1) ≤ Int32.toInt x4_1359) from ⟨hTq_1536, (by rw [eq_1536]; exact (((dFr.rf : dFr [10] [] q_1493 q_1493).t a_1502 (by decide) (by decide)) : dFr [10] [] q_1493 q_1496).i (by decide) (by decide)), rfl, rfl, rfl, by omega, by omega⟩) (show (Int32.toInt x4_1359 - Int32.toInt (x5_1500 + 1)).toNat < (Int32.toInt x4_1359 - Int32.toInt x5_1500).toNat by omega)
                              · refine dOk_G (dg_ok (show 0 ≤ Int32.toInt (q_1496.1 0 18) by omega) (show Int32.toInt (q_1496.1 0 18) < ((401 : Nat) : Int) by omega)) ?_
                                refine dOk_L (fun v_1538 ev_1538 => ?_)
                                have w_1539 : Int32.toInt v_1538 = Int32.toInt v_1529 := by rw [ev_1538, ev_1529]
                                unfold zX10_splits_240
                                refine dOk_G (dg_ok (show 0 ≤ Int32.toInt (q_1496.1 0 18) by omega) (show Int32.toInt (q_1496.1 0 18) < ((401 : Nat) : Int) by omega)) ?_
                                refine dOk_L (fun q_1540 eq_1540 => ?_)
                                have hTq_1540 : TS q_1540 := by rw [eq_1540]; exact ts_any a_1501 rfl
                                have hFq_1540 : dFr [9, 10, 11] [18] q q_1540 := by rw [eq_1540]; exact hFq_1496.i (by decide) (by decide)
                                try have t_1541 : Int32.toInt (x5_1500 + 1) = Int32.toInt x5_1500 + 1 := ti_add rfl (by decide) (by omega) (by omega)
                                exact hk_1494 (q_1540, p1, v_26, x4_1359, (x5_1500 + 1)) (show (TS q_1540) ∧ (dFr [10] [] q_1493 q_1540) ∧ (p1 = p1) ∧ (v_26 = v_26) ∧ (x4_1359 = x4_1359) ∧ (0 ≤ Int32.toInt (x5_1500 + 1)) ∧ (Int32.toInt (x5_1500 + 1) ≤ Int32.toInt x4_1359) from ⟨hTq_1540, (by rw [eq_1540]; exact (((dFr.rf : dFr [10] [] q_1493 q_1493).t a_1502 (by decide) (by decide)) : dFr [10] [] q_1493 q_1496).i (by decide) (by decide)), rfl, rfl, rfl, by omega, by omega⟩) (show (Int32.toInt x4_1359 - Int32.toInt (x5_1500 + 1)).toNat < (Int32.toInt x4_1359 - Int32.toInt x5_1500).toNat by omega)
                        · exact (show (TS q_1493) ∧ (dFr [10] [] q_1493 q_1493) ∧ (p1 = p1) ∧ (v_26 = v_26) ∧ (x4_1359 = x4_1359) ∧ (0 ≤ Int32.toInt x2_6) ∧ (Int32.toInt x2_6 ≤ Int32.toInt x4_1359) from ⟨hTq_1493, dFr.rf, rfl, rfl, rfl, by omega, by omega⟩)
                        · show (Int32.toInt x4_1359 - Int32.toInt x2_6).toNat < 1000000000000
                          omega
                    · refine dOk_G (dg_ok (show 0 ≤ Int32.toInt x4_1359 by omega) (show Int32.toInt x4_1359 < ((400 : Nat) : Int) by omega)) ?_
                      have n_1542 : ((Int32.toNatClampNeg x4_1359 : Nat) : Int) = Int32.toInt x4_1359 := cl_eq (by omega)
                      refine dOk_L (fun v_1543 ev_1543 => ?_)
                      refine dOk_V (ok_isDigit v_1543) (fun r_1544 h_1545 => ?_)
                      replace h_1545 : ((Int32.toInt r_1544 = 1 ∧ 48 ≤ Int32.toInt v_1543 ∧ Int32.toInt v_1543 ≤ 57) ∨ (Int32.toInt r_1544 = 0 ∧ (Int32.toInt v_1543 < 48 ∨ 57 < Int32.toInt v_1543))) := h_1545
                      have i_1546 := h_1545
                      refine dOk_eq (A := Int32.toInt r_1544) (B := 0) rfl (by decide) (fun c_1547z c_1547 => ?_) (fun c_1548z c_1548 => ?_)
                      · unfold zX10_splits_100
                        refine dOk_G (dg_ok (show 0 ≤ Int32.toInt (q_4.1 0 18) by omega) (show Int32.toInt (q_4.1 0 18) < ((401 : Nat) : Int) by omega)) ?_
                        have n_1550 : ((Int32.toNatClampNeg (q_4.1 0 18) : Nat) : Int) = Int32.toInt (q_4.1 0 18) := cl_eq (by omega)
                        refine dOk_L (fun q_1551 eq_1551 => ?_)
                        have hTq_1551 : TS q_1551 := by rw [eq_1551]; exact ts_set a_7 (by decide) (show 0 ≤ Int32.toInt x2_6 by omega) (show Int32.toInt x2_6 ≤ 400 by omega)
                        have hFq_1551 : dFr [9, 10, 11] [18] q q_1551 := by rw [eq_1551]; exact hFq_4.i (by decide) (by decide)
                        try have w_1552 : Int32.toInt (q_1551.1 0 18) = Int32.toInt (q_4.1 0 18) := by rw [eq_1551, dui_o (by decide)]
                        refine dOk_G (dg_ok (show 0 ≤ Int32.toInt (q_1551.1 0 18) by omega) (show Int32.toInt (q_1551.1 0 18) < ((401 : Nat) : Int) by omega)) ?_
                        have n_1553 : ((Int32.toNatClampNeg (q_1551.1 0 18) : Nat) : Int) = Int32.toInt (q_1551.1 0 18) := cl_eq (by omega)
                        refine dOk_L (fun q_1554 eq_1554 => ?_)
                        have hTq_1554 : TS q_1554 := by rw [eq_1554]; exact ts_any hTq_1551 rfl
                        have hFq_1554 : dFr [9, 10, 11] [18] q q_1554 := by rw [eq_1554]; exact hFq_1551.i (by decide) (by decide)
                        refine dOk_V (ok_isSmall v_26) (fun r_1555 h_1556 => ?_)
                        replace h_1556 : ((Int32.toInt r_1555 = 1 ∧ 97 ≤ Int32.toInt v_26 ∧ Int32.toInt v_26 ≤ 122) ∨ (Int32.toInt r_1555 = 0 ∧ (Int32.toInt v_26 < 97 ∨ 122 < Int32.toInt v_26))) := h_1556
                        have i_1557 := h_1556
                        refine dOk_eq (A := Int32.toInt r_1555) (B := 0) rfl (by decide) (fun c_1558z c_1558 => ?_) (fun c_1559z c_1559 => ?_)
                        · refine dOk_V (ok_isDigit v_26) (fun r_1561 h_1562 => ?_)
                          replace h_1562 : ((Int32.toInt r_1561 = 1 ∧ 48 ≤ Int32.toInt v_26 ∧ Int32.toInt v_26 ≤ 57) ∨ (Int32.toInt r_1561 = 0 ∧ (Int32.toInt v_26 < 48 ∨ 57 < Int32.toInt v_26))) := h_1562
                          have i_1563 := h_1562
                          refine dOk_eq (A := Int32.toInt r_1561) (B := 0) rfl (by decide) (fun c_1564z c_1564 => ?_) (fun c_1565z c_1565 => ?_)
                          · unfold zX10_splits_165
                            try have w_1567 : Int32.toInt (q_1554.1 0 18) = Int32.toInt (q_1551.1 0 18) := by rw [eq_1554, dui_o (by decide)]
                            refine dOk_G (dg_ok (show 0 ≤ Int32.toInt (q_1554.1 0 18) by omega) (show Int32.toInt (q_1554.1 0 18) < ((401 : Nat) : Int) by omega)) ?_
                            have n_1568 : ((Int32.toNatClampNeg (q_1554.1 0 18) : Nat) : Int) = Int32.toInt (q_1554.1 0 18) := cl_eq (by omega)
                            refine dOk_L (fun q_1569 eq_1569 => ?_)
                            have hTq_1569 : TS q_1569 := by rw [eq_1569]; exact ts_any hTq_1554 rfl
                            have hFq_1569 : dFr [9, 10, 11] [18] q q_1569 := by rw [eq_1569]; exact hFq_1554.i (by decide) (by decide)
                            unfold zX10_splits_169
                            refine dFix_ok (fun (a : dS × Int32 × Int32 × Int32 × Int32) => (TS a.1) ∧ (dFr [10] [] q_1569 a.1) ∧ (a.2.1 = p1) ∧ (a.2.2.1 = v_26) ∧ (a.2.2.2.1 = x4_1359) ∧ (0 ≤ Int32.toInt a.2.2.2.2) ∧ (Int32.toInt a.2.2.2.2 ≤ Int32.toInt a.2.2.2.1)) (fun (a : dS × Int32 × Int32 × Int32 × Int32) => (Int32.toInt a.2.2.2.1 - Int32.toInt a.2.2.2.2).toNat) ?_ _ ?_ _ (dF_gt ?_)
                            · intro a ha k_1571 hk_1570
                              obtain ⟨q_1572, x1_1573, x3_1574, x4_1575, x5_1576⟩ := a
                              replace ha : (TS q_1572) ∧ (dFr [10] [] q_1569 q_1572) ∧ (x1_1573 = p1) ∧ (x3_1574 = v_26) ∧ (x4_1575 = x4_1359) ∧ (0 ≤ Int32.toInt x5_1576) ∧ (Int32.toInt x5_1576 ≤ Int32.toInt x4_1575) := ha
                              obtain ⟨a_1577, a_1578, a_1579, a_1580, a_1581, a_1582, a_1583⟩ := ha
                              show dOk (zX10_splits_169b _ (fun q x1 x3 x4 x5 => k_1571 (q, x1, x3, x4, x5)) q_1572 x1_1573 x3_1574 x4_1575 x5_1576) _
                              unfold zX10_splits_169b
                              have hFq_1572 : dFr [9, 10, 11] [18] q q_1572 := hFq_1569.t a_1578 (by decide) (by decide)
                              subst x1_1573
                              subst x3_1574
                              subst x4_1575
                              refine dOk_le (A := Int32.toInt x4_1359) (B := Int32.toInt x5_1576) rfl rfl (fun c_1584 => ?_) (fun c_1585 => ?_)
                              · unfold zX10_splits_247
                                refine dOk_L (fun q_1586 eq_1586 => ?_)
                                try have w_1587 : Int32.toInt (q_1569.1 0 18) = Int32.toInt (q_1554.1 0 18) := by rw [eq_1569, dui_o (by decide)]
                                have w_1588 : Int32.toInt (q_1572.1 0 18) = Int32.toInt (q_1569.1 0 18) := by rw [a_1578.2 18 (by decide)]
                                try have t_1589 : Int32.toInt (q_1572.1 0 18 + 1) = Int32.toInt (q_1572.1 0 18) + 1 := ti_add rfl (by decide) (by omega) (by omega)
                                have hTq_1586 : TS q_1586 := by rw [eq_1586]; exact ts_f a_1577 (ti_rg _).1 (ti_rg _).2
                                have hFq_1586 : dFr [9, 10, 11] [18] q q_1586 := by rw [eq_1586]; exact hFq_1572.f (by decide)
                                have w_1590 : Int32.toInt (q_1586.1 0 18) = Int32.toInt (q_1572.1 0 18 + 1) := by rw [eq_1586, dui_e]
                                exact hk_2 (q_1586, p1, x4_1359) (show (TS q_1586) ∧ (dFr [9, 10, 11] [18] q_1 q_1586) ∧ (p1 = p1) ∧ (0 ≤ Int32.toInt x4_1359) ∧ (Int32.toInt x4_1359 ≤ Int32.toInt p1) ∧ (0 ≤ Int32.toInt (q_1586.1 0 18)) ∧ (Int32.toInt (q_1586.1 0 18) ≤ Int32.toInt x4_1359) from ⟨hTq_1586, (by rw [eq_1586]; exact ((((by rw [eq_1569]; exact ((by rw [eq_1554]; exact ((by rw [eq_1551]; exact (((dFr.rf : dFr [9, 10, 11] [18] q_1 q_1).t a_8 (by decide) (by decide)) : dFr [9, 10, 11] [18] q_1 q_4).i (by decide) (by decide)) : dFr [9, 10, 11] [18] q_1 q_1551).i (by decide) (by decide)) : dFr [9, 10, 11] [18] q_1 q_1554).i (by decide) (by decide)) : dFr [9, 10, 11] [18] q_1 q_1569).t a_1578 (by decide) (by decide)) : dFr [9, 10, 11] [18] q_1 q_1572).f (by decide)), rfl, by omega, by omega, by omega, by omega⟩) (show (Int32.toInt p1 - Int32.toInt x4_1359).toNat < (Int32.toInt p1 - Int32.toInt x2_6).toNat by omega)
                              · refine dOk_V (ok_isDigit v_26) (fun r_1591 h_1592 => ?_)
                                replace h_1592 : ((Int32.toInt r_1591 = 1 ∧ 48 ≤ Int32.toInt v_26 ∧ Int32.toInt v_26 ≤ 57) ∨ (Int32.toInt r_1591 = 0 ∧ (Int32.toInt v_26 < 48 ∨ 57 < Int32.toInt v_26))) := h_1592
                                have i_1593 := h_1592
                                refine dOk_eq (A := Int32.toInt r_1591) (B := 0) rfl (by decide) (fun c_1594z c_1594 => ?_) (fun c_1595z c_1595 => ?_)
                                · unfold zX10_splits_247
                                  refine dOk_L (fun q_1597 eq_1597 => ?_)
                                  try have w_1598 : Int32.toInt (q_1569.1 0 18) = Int32.toInt (q_1554.1 0 18) := by rw [eq_1569, dui_o (by decide)]
                                  have w_1599 : Int32.toInt (q_1572.1 0 18) = Int32.toInt (q_1569.1 0 18) := by rw [a_1578.2 18 (by decide)]
                                  try have t_1600 : Int32.toInt (q_1572.1 0 18 + 1) = Int32.toInt (q_1572.1 0 18) + 1 := ti_add rfl (by decide) (by omega) (by omega)
                                  have hTq_1597 : TS q_1597 := by rw [eq_1597]; exact ts_f a_1577 (ti_rg _).1 (ti_rg _).2
                                  have hFq_1597 : dFr [9, 10, 11] [18] q q_1597 := by rw [eq_1597]; exact hFq_1572.f (by decide)
                                  have w_1601 : Int32.toInt (q_1597.1 0 18) = Int32.toInt (q_1572.1 0 18 + 1) := by rw [eq_1597, dui_e]
                                  exact hk_2 (q_1597, p1, x4_1359) (show (TS q_1597) ∧ (dFr [9, 10, 11] [18] q_1 q_1597) ∧ (p1 = p1) ∧ (0 ≤ Int32.toInt x4_1359) ∧ (Int32.toInt x4_1359 ≤ Int32.toInt p1) ∧ (0 ≤ Int32.toInt (q_1597.1 0 18)) ∧ (Int32.toInt (q_1597.1 0 18) ≤ Int32.toInt x4_1359) from ⟨hTq_1597, (by rw [eq_1597]; exact ((((by rw [eq_1569]; exact ((by rw [eq_1554]; exact ((by rw [eq_1551]; exact (((dFr.rf : dFr [9, 10, 11] [18] q_1 q_1).t a_8 (by decide) (by decide)) : dFr [9, 10, 11] [18] q_1 q_4).i (by decide) (by decide)) : dFr [9, 10, 11] [18] q_1 q_1551).i (by decide) (by decide)) : dFr [9, 10, 11] [18] q_1 q_1554).i (by decide) (by decide)) : dFr [9, 10, 11] [18] q_1 q_1569).t a_1578 (by decide) (by decide)) : dFr [9, 10, 11] [18] q_1 q_1572).f (by decide)), rfl, by omega, by omega, by omega, by omega⟩) (show (Int32.toInt p1 - Int32.toInt x4_1359).toNat < (Int32.toInt p1 - Int32.toInt x2_6).toNat by omega)
                                · try have w_1602 : Int32.toInt (q_1569.1 0 18) = Int32.toInt (q_1554.1 0 18) := by rw [eq_1569, dui_o (by decide)]
                                  have w_1603 : Int32.toInt (q_1572.1 0 18) = Int32.toInt (q_1569.1 0 18) := by rw [a_1578.2 18 (by decide)]
                                  refine dOk_G (dg_ok (show 0 ≤ Int32.toInt (q_1572.1 0 18) by omega) (show Int32.toInt (q_1572.1 0 18) < ((401 : Nat) : Int) by omega)) ?_
                                  have n_1604 : ((Int32.toNatClampNeg (q_1572.1 0 18) : Nat) : Int) = Int32.toInt (q_1572.1 0 18) := cl_eq (by omega)
                                  refine dOk_L (fun v_1605 ev_1605 => ?_)
                                  refine dOk_le (A := Int32.toInt v_1605) (B := 1000000) rfl (by decide) (fun c_1606 => ?_) (fun c_1607 => ?_)
                                  · refine dOk_G (dg_ok (show 0 ≤ Int32.toInt (q_1572.1 0 18) by omega) (show Int32.toInt (q_1572.1 0 18) < ((401 : Nat) : Int) by omega)) ?_
                                    refine dOk_L (fun v_1608 ev_1608 => ?_)
                                    have w_1609 : Int32.toInt v_1608 = Int32.toInt v_1605 := by rw [ev_1608, ev_1605]
                                    refine dOk_G (dg_ok (show 0 ≤ Int32.toInt x5_1576 by omega) (show Int32.toInt x5_1576 < ((400 : Nat) : Int) by omega)) ?_
                                    have n_1610 : ((Int32.toNatClampNeg x5_1576 : Nat) : Int) = Int32.toInt x5_1576 := cl_eq (by omega)
                                    refine dOk_L (fun v_1611 ev_1611 => ?_)
                                    unfold zX10_splits_240
                                    refine dOk_G (dg_ok (show 0 ≤ Int32.toInt (q_1572.1 0 18) by omega) (show Int32.toInt (q_1572.1 0 18) < ((401 : Nat) : Int) by omega)) ?_
                                    refine dOk_L (fun q_1612 eq_1612 => ?_)
                                    have hTq_1612 : TS q_1612 := by rw [eq_1612]; exact ts_any a_1577 rfl
                                    have hFq_1612 : dFr [9, 10, 11] [18] q q_1612 := by rw [eq_1612]; exact hFq_1572.i (by decide) (by decide)
                                    try have t_1613 : Int32.toInt (x5_1576 + 1) = Int32.toInt x5_1576 + 1 := ti_add rfl (by decide) (by omega) (by omega)
                                    exact hk_1570 (q_1612, p1, v_26, x4_1359, (x5_1576 + 1)) (show (TS q_1612) ∧ (dFr [10] [] q_1569 q_1612) ∧ (p1 = p1) ∧ (v_26 = v_26) ∧ (x4_1359 = x4_1359) ∧ (0 ≤ Int32.toInt (x5_1576 + 1)) ∧ (Int32.toInt (x5_1576 + 1) ≤ Int32.toInt x4_1359) from ⟨hTq_1612, (by rw [eq_1612]; exact (((dFr.rf : dFr [10] [] q_1569 q_1569).t a_1578 (by decide) (by decide)) : dFr [10] [] q_1569 q_1572).i (by decide) (by decide)), rfl, rfl, rfl, by omega, by omega⟩) (show (Int32.toInt x4_1359 - Int32.toInt (x5_1576 + 1)).toNat < (Int32.toInt x4_1359 - Int32.toInt x5_1576).toNat by omega)
                                  · refine dOk_G (dg_ok (show 0 ≤ Int32.toInt (q_1572.1 0 18) by omega) (show Int32.toInt (q_1572.1 0 18) < ((401 : Nat) : Int) by omega)) ?_
                                    refine dOk_L (fun v_1614 ev_1614 => ?_)
                                    have w_1615 : Int32.toInt v_1614 = Int32.toInt v_1605 := by rw [ev_1614, ev_1605]
                                    unfold zX10_splits_240
                                    refine dOk_G (dg_ok (show 0 ≤ Int32.toInt (q_1572.1 0 18) by omega) (show Int32.toInt (q_1572.1 0 18) < ((401 : Nat) : Int) by omega)) ?_
                                    refine dOk_L (fun q_1616 eq_1616 => ?_)
                                    have hTq_1616 : TS q_1616 := by rw [eq_1616]; exact ts_any a_1577 rfl
                                    have hFq_1616 : dFr [9, 10, 11] [18] q q_1616 := by rw [eq_1616]; exact hFq_1572.i (by decide) (by decide)
                                    try have t_1617 : Int32.toInt (x5_1576 + 1) = Int32.toInt x5_1576 + 1 := ti_add rfl (by decide) (by omega) (by omega)
                                    exact hk_1570 (q_1616, p1, v_26, x4_1359, (x5_1576 + 1)) (show (TS q_1616) ∧ (dFr [10] [] q_1569 q_1616) ∧ (p1 = p1) ∧ (v_26 = v_26) ∧ (x4_1359 = x4_1359) ∧ (0 ≤ Int32.toInt (x5_1576 + 1)) ∧ (Int32.toInt (x5_1576 + 1) ≤ Int32.toInt x4_1359) from ⟨hTq_1616, (by rw [eq_1616]; exact (((dFr.rf : dFr [10] [] q_1569 q_1569).t a_1578 (by decide) (by decide)) : dFr [10] [] q_1569 q_1572).i (by decide) (by decide)), rfl, rfl, rfl, by omega, by omega⟩) (show (Int32.toInt x4_1359 - Int32.toInt (x5_1576 + 1)).toNat < (Int32.toInt x4_1359 - Int32.toInt x5_1576).toNat by omega)
                            · exact (show (TS q_1569) ∧ (dFr [10] [] q_1569 q_1569) ∧ (p1 = p1) ∧ (v_26 = v_26) ∧ (x4_1359 = x4_1359) ∧ (0 ≤ Int32.toInt x2_6) ∧ (Int32.toInt x2_6 ≤ Int32.toInt x4_1359) from ⟨hTq_1569, dFr.rf, rfl, rfl, rfl, by omega, by omega⟩)
                            · show (Int32.toInt x4_1359 - Int32.toInt x2_6).toNat < 1000000000000
                              omega
                          · unfold zX10_splits_165
                            try have w_1618 : Int32.toInt (q_1554.1 0 18) = Int32.toInt (q_1551.1 0 18) := by rw [eq_1554, dui_o (by decide)]
                            refine dOk_G (dg_ok (show 0 ≤ Int32.toInt (q_1554.1 0 18) by omega) (show Int32.toInt (q_1554.1 0 18) < ((401 : Nat) : Int) by omega)) ?_
                            have n_1619 : ((Int32.toNatClampNeg (q_1554.1 0 18) : Nat) : Int) = Int32.toInt (q_1554.1 0 18) := cl_eq (by omega)
                            refine dOk_L (fun q_1620 eq_1620 => ?_)
                            have hTq_1620 : TS q_1620 := by rw [eq_1620]; exact ts_any hTq_1554 rfl
                            have hFq_1620 : dFr [9, 10, 11] [18] q q_1620 := by rw [eq_1620]; exact hFq_1554.i (by decide) (by decide)
                            unfold zX10_splits_169
                            refine dFix_ok (fun (a : dS × Int32 × Int32 × Int32 × Int32) => (TS a.1) ∧ (dFr [10] [] q_1620 a.1) ∧ (a.2.1 = p1) ∧ (a.2.2.1 = v_26) ∧ (a.2.2.2.1 = x4_1359) ∧ (0 ≤ Int32.toInt a.2.2.2.2) ∧ (Int32.toInt a.2.2.2.2 ≤ Int32.toInt a.2.2.2.1)) (fun (a : dS × Int32 × Int32 × Int32 × Int32) => (Int32.toInt a.2.2.2.1 - Int32.toInt a.2.2.2.2).toNat) ?_ _ ?_ _ (dF_gt ?_)
                            · intro a ha k_1622 hk_1621
                              obtain ⟨q_1623, x1_1624, x3_1625, x4_1626, x5_1627⟩ := a
                              replace ha : (TS q_1623) ∧ (dFr [10] [] q_1620 q_1623) ∧ (x1_1624 = p1) ∧ (x3_1625 = v_26) ∧ (x4_1626 = x4_1359) ∧ (0 ≤ Int32.toInt x5_1627) ∧ (Int32.toInt x5_1627 ≤ Int32.toInt x4_1626) := ha
                              obtain ⟨a_1628, a_1629, a_1630, a_1631, a_1632, a_1633, a_1634⟩ := ha
                              show dOk (zX10_splits_169b _ (fun q x1 x3 x4 x5 => k_1622 (q, x1, x3, x4, x5)) q_1623 x1_1624 x3_1625 x4_1626 x5_1627) _
                              unfold zX10_splits_169b
                              have hFq_1623 : dFr [9, 10, 11] [18] q q_1623 := hFq_1620.t a_1629 (by decide) (by decide)
                              subst x1_1624
                              subst x3_1625
                              subst x4_1626
                              refine dOk_le (A := Int32.toInt x4_1359) (B := Int32.toInt x5_1627) rfl rfl (fun c_1635 => ?_) (fun c_1636 => ?_)
                              · unfold zX10_splits_247
                                refine dOk_L (fun q_1637 eq_1637 => ?_)
                                try have w_1638 : Int32.toInt (q_1620.1 0 18) = Int32.toInt (q_1554.1 0 18) := by rw [eq_1620, dui_o (by decide)]
                                have w_1639 : Int32.toInt (q_1623.1 0 18) = Int32.toInt (q_1620.1 0 18) := by rw [a_1629.2 18 (by decide)]
                                try have t_1640 : Int32.toInt (q_1623.1 0 18 + 1) = Int32.toInt (q_1623.1 0 18) + 1 := ti_add rfl (by decide) (by omega) (by omega)
                                have hTq_1637 : TS q_1637 := by rw [eq_1637]; exact ts_f a_1628 (ti_rg _).1 (ti_rg _).2
                                have hFq_1637 : dFr [9, 10, 11] [18] q q_1637 := by rw [eq_1637]; exact hFq_1623.f (by decide)
                                have w_1641 : Int32.toInt (q_1637.1 0 18) = Int32.toInt (q_1623.1 0 18 + 1) := by rw [eq_1637, dui_e]
                                exact hk_2 (q_1637, p1, x4_1359) (show (TS q_1637) ∧ (dFr [9, 10, 11] [18] q_1 q_1637) ∧ (p1 = p1) ∧ (0 ≤ Int32.toInt x4_1359) ∧ (Int32.toInt x4_1359 ≤ Int32.toInt p1) ∧ (0 ≤ Int32.toInt (q_1637.1 0 18)) ∧ (Int32.toInt (q_1637.1 0 18) ≤ Int32.toInt x4_1359) from ⟨hTq_1637, (by rw [eq_1637]; exact ((((by rw [eq_1620]; exact ((by rw [eq_1554]; exact ((by rw [eq_1551]; exact (((dFr.rf : dFr [9, 10, 11] [18] q_1 q_1).t a_8 (by decide) (by decide)) : dFr [9, 10, 11] [18] q_1 q_4).i (by decide) (by decide)) : dFr [9, 10, 11] [18] q_1 q_1551).i (by decide) (by decide)) : dFr [9, 10, 11] [18] q_1 q_1554).i (by decide) (by decide)) : dFr [9, 10, 11] [18] q_1 q_1620).t a_1629 (by decide) (by decide)) : dFr [9, 10, 11] [18] q_1 q_1623).f (by decide)), rfl, by omega, by omega, by omega, by omega⟩) (show (Int32.toInt p1 - Int32.toInt x4_1359).toNat < (Int32.toInt p1 - Int32.toInt x2_6).toNat by omega)
                              · refine dOk_V (ok_isDigit v_26) (fun r_1642 h_1643 => ?_)
                                replace h_1643 : ((Int32.toInt r_1642 = 1 ∧ 48 ≤ Int32.toInt v_26 ∧ Int32.toInt v_26 ≤ 57) ∨ (Int32.toInt r_1642 = 0 ∧ (Int32.toInt v_26 < 48 ∨ 57 < Int32.toInt v_26))) := h_1643
                                have i_1644 := h_1643
                                refine dOk_eq (A := Int32.toInt r_1642) (B := 0) rfl (by decide) (fun c_1645z c_1645 => ?_) (fun c_1646z c_1646 => ?_)
                                · unfold zX10_splits_247
                                  refine dOk_L (fun q_1648 eq_1648 => ?_)
                                  try have w_1649 : Int32.toInt (q_1620.1 0 18) = Int32.toInt (q_1554.1 0 18) := by rw [eq_1620, dui_o (by decide)]
                                  have w_1650 : Int32.toInt (q_1623.1 0 18) = Int32.toInt (q_1620.1 0 18) := by rw [a_1629.2 18 (by decide)]
                                  try have t_1651 : Int32.toInt (q_1623.1 0 18 + 1) = Int32.toInt (q_1623.1 0 18) + 1 := ti_add rfl (by decide) (by omega) (by omega)
                                  have hTq_1648 : TS q_1648 := by rw [eq_1648]; exact ts_f a_1628 (ti_rg _).1 (ti_rg _).2
                                  have hFq_1648 : dFr [9, 10, 11] [18] q q_1648 := by rw [eq_1648]; exact hFq_1623.f (by decide)
                                  have w_1652 : Int32.toInt (q_1648.1 0 18) = Int32.toInt (q_1623.1 0 18 + 1) := by rw [eq_1648, dui_e]
                                  exact hk_2 (q_1648, p1, x4_1359) (show (TS q_1648) ∧ (dFr [9, 10, 11] [18] q_1 q_1648) ∧ (p1 = p1) ∧ (0 ≤ Int32.toInt x4_1359) ∧ (Int32.toInt x4_1359 ≤ Int32.toInt p1) ∧ (0 ≤ Int32.toInt (q_1648.1 0 18)) ∧ (Int32.toInt (q_1648.1 0 18) ≤ Int32.toInt x4_1359) from ⟨hTq_1648, (by rw [eq_1648]; exact ((((by rw [eq_1620]; exact ((by rw [eq_1554]; exact ((by rw [eq_1551]; exact (((dFr.rf : dFr [9, 10, 11] [18] q_1 q_1).t a_8 (by decide) (by decide)) : dFr [9, 10, 11] [18] q_1 q_4).i (by decide) (by decide)) : dFr [9, 10, 11] [18] q_1 q_1551).i (by decide) (by decide)) : dFr [9, 10, 11] [18] q_1 q_1554).i (by decide) (by decide)) : dFr [9, 10, 11] [18] q_1 q_1620).t a_1629 (by decide) (by decide)) : dFr [9, 10, 11] [18] q_1 q_1623).f (by decide)), rfl, by omega, by omega, by omega, by omega⟩) (show (Int32.toInt p1 - Int32.toInt x4_1359).toNat < (Int32.toInt p1 - Int32.toInt x2_6).toNat by omega)
                                · try have w_1653 : Int32.toInt (q_1620.1 0 18) = Int32.toInt (q_1554.1 0 18) := by rw [eq_1620, dui_o (by decide)]
                                  have w_1654 : Int32.toInt (q_1623.1 0 18) = Int32.toInt (q_1620.1 0 18) := by rw [a_1629.2 18 (by decide)]
                                  refine dOk_G (dg_ok (show 0 ≤ Int32.toInt (q_1623.1 0 18) by omega) (show Int32.toInt (q_1623.1 0 18) < ((401 : Nat) : Int) by omega)) ?_
                                  have n_1655 : ((Int32.toNatClampNeg (q_1623.1 0 18) : Nat) : Int) = Int32.toInt (q_1623.1 0 18) := cl_eq (by omega)
                                  refine dOk_L (fun v_1656 ev_1656 => ?_)
                                  refine dOk_le (A := Int32.toInt v_1656) (B := 1000000) rfl (by decide) (fun c_1657 => ?_) (fun c_1658 => ?_)
                                  · refine dOk_G (dg_ok (show 0 ≤ Int32.toInt (q_1623.1 0 18) by omega) (show Int32.toInt (q_1623.1 0 18) < ((401 : Nat) : Int) by omega)) ?_
                                    refine dOk_L (fun v_1659 ev_1659 => ?_)
                                    have w_1660 : Int32.toInt v_1659 = Int32.toInt v_1656 := by rw [ev_1659, ev_1656]
                                    refine dOk_G (dg_ok (show 0 ≤ Int32.toInt x5_1627 by omega) (show Int32.toInt x5_1627 < ((400 : Nat) : Int) by omega)) ?_
                                    have n_1661 : ((Int32.toNatClampNeg x5_1627 : Nat) : Int) = Int32.toInt x5_1627 := cl_eq (by omega)
                                    refine dOk_L (fun v_1662 ev_1662 => ?_)
                                    unfold zX10_splits_240
                                    refine dOk_G (dg_ok (show 0 ≤ Int32.toInt (q_1623.1 0 18) by omega) (show Int32.toInt (q_1623.1 0 18) < ((401 : Nat) : Int) by omega)) ?_
                                    refine dOk_L (fun q_1663 eq_1663 => ?_)
                                    have hTq_1663 : TS q_1663 := by rw [eq_1663]; exact ts_any a_1628 rfl
                                    have hFq_1663 : dFr [9, 10, 11] [18] q q_1663 := by rw [eq_1663]; exact hFq_1623.i (by decide) (by decide)
                                    try have t_1664 : Int32.toInt (x5_1627 + 1) = Int32.toInt x5_1627 + 1 := ti_add rfl (by decide) (by omega) (by omega)
                                    exact hk_1621 (q_1663, p1, v_26, x4_1359, (x5_1627 + 1)) (show (TS q_1663) ∧ (dFr [10] [] q_1620 q_1663) ∧ (p1 = p1) ∧ (v_26 = v_26) ∧ (x4_1359 = x4_1359) ∧ (0 ≤ Int32.toInt (x5_1627 + 1)) ∧ (Int32.toInt (x5_1627 + 1) ≤ Int32.toInt x4_1359) from ⟨hTq_1663, (by rw [eq_1663]; exact (((dFr.rf : dFr [10] [] q_1620 q_1620).t a_1629 (by decide) (by decide)) : dFr [10] [] q_1620 q_1623).i (by decide) (by decide)), rfl, rfl, rfl, by omega, by omega⟩) (show (Int32.toInt x4_1359 - Int32.toInt (x5_1627 + 1)).toNat < (Int32.toInt x4_1359 - Int32.toInt x5_1627).toNat by omega)
                                  · refine dOk_G (dg_ok (show 0 ≤ Int32.toInt (q_1623.1 0 18) by omega) (show Int32.toInt (q_1623.1 0 18) < ((401 : Nat) : Int) by omega)) ?_
                                    refine dOk_L (fun v_1665 ev_1665 => ?_)
                                    have w_1666 : Int32.toInt v_1665 = Int32.toInt v_1656 := by rw [ev_1665, ev_1656]
                                    unfold zX10_splits_240
                                    refine dOk_G (dg_ok (show 0 ≤ Int32.toInt (q_1623.1 0 18) by omega) (show Int32.toInt (q_1623.1 0 18) < ((401 : Nat) : Int) by omega)) ?_
                                    refine dOk_L (fun q_1667 eq_1667 => ?_)
                                    have hTq_1667 : TS q_1667 := by rw [eq_1667]; exact ts_any a_1628 rfl
                                    have hFq_1667 : dFr [9, 10, 11] [18] q q_1667 := by rw [eq_1667]; exact hFq_1623.i (by decide) (by decide)
                                    try have t_1668 : Int32.toInt (x5_1627 + 1) = Int32.toInt x5_1627 + 1 := ti_add rfl (by decide) (by omega) (by omega)
                                    exact hk_1621 (q_1667, p1, v_26, x4_1359, (x5_1627 + 1)) (show (TS q_1667) ∧ (dFr [10] [] q_1620 q_1667) ∧ (p1 = p1) ∧ (v_26 = v_26) ∧ (x4_1359 = x4_1359) ∧ (0 ≤ Int32.toInt (x5_1627 + 1)) ∧ (Int32.toInt (x5_1627 + 1) ≤ Int32.toInt x4_1359) from ⟨hTq_1667, (by rw [eq_1667]; exact (((dFr.rf : dFr [10] [] q_1620 q_1620).t a_1629 (by decide) (by decide)) : dFr [10] [] q_1620 q_1623).i (by decide) (by decide)), rfl, rfl, rfl, by omega, by omega⟩) (show (Int32.toInt x4_1359 - Int32.toInt (x5_1627 + 1)).toNat < (Int32.toInt x4_1359 - Int32.toInt x5_1627).toNat by omega)
                            · exact (show (TS q_1620) ∧ (dFr [10] [] q_1620 q_1620) ∧ (p1 = p1) ∧ (v_26 = v_26) ∧ (x4_1359 = x4_1359) ∧ (0 ≤ Int32.toInt x2_6) ∧ (Int32.toInt x2_6 ≤ Int32.toInt x4_1359) from ⟨hTq_1620, dFr.rf, rfl, rfl, rfl, by omega, by omega⟩)
                            · show (Int32.toInt x4_1359 - Int32.toInt x2_6).toNat < 1000000000000
                              omega
                        · refine dOk_B (ok_wordOf q_1554 x2_6 x4_1359 hTq_1554 (show 0 ≤ Int32.toInt x2_6 by omega) (show Int32.toInt x2_6 < Int32.toInt x4_1359 by omega) (show Int32.toInt x4_1359 ≤ 400 by omega)) (fun r_1669 q_1670 h_1671 => ?_)
                          replace h_1671 : (q_1670 = q_1554) := h_1671
                          have i_1672 := h_1671
                          subst q_1670
                          unfold zX10_splits_165
                          try have w_1673 : Int32.toInt (q_1554.1 0 18) = Int32.toInt (q_1551.1 0 18) := by rw [eq_1554, dui_o (by decide)]
                          refine dOk_G (dg_ok (show 0 ≤ Int32.toInt (q_1554.1 0 18) by omega) (show Int32.toInt (q_1554.1 0 18) < ((401 : Nat) : Int) by omega)) ?_
                          have n_1674 : ((Int32.toNatClampNeg (q_1554.1 0 18) : Nat) : Int) = Int32.toInt (q_1554.1 0 18) := cl_eq (by omega)
                          refine dOk_L (fun q_1675 eq_1675 => ?_)
                          have hTq_1675 : TS q_1675 := by rw [eq_1675]; exact ts_any hTq_1554 rfl
                          have hFq_1675 : dFr [9, 10, 11] [18] q q_1675 := by rw [eq_1675]; exact hFq_1554.i (by decide) (by decide)
                          unfold zX10_splits_169
                          refine dFix_ok (fun (a : dS × Int32 × Int32 × Int32 × Int32) => (TS a.1) ∧ (dFr [10] [] q_1675 a.1) ∧ (a.2.1 = p1) ∧ (a.2.2.1 = v_26) ∧ (a.2.2.2.1 = x4_1359) ∧ (0 ≤ Int32.toInt a.2.2.2.2) ∧ (Int32.toInt a.2.2.2.2 ≤ Int32.toInt a.2.2.2.1)) (fun (a : dS × Int32 × Int32 × Int32 × Int32) => (Int32.toInt a.2.2.2.1 - Int32.toInt a.2.2.2.2).toNat) ?_ _ ?_ _ (dF_gt ?_)
                          · intro a ha k_1677 hk_1676
                            obtain ⟨q_1678, x1_1679, x3_1680, x4_1681, x5_1682⟩ := a
                            replace ha : (TS q_1678) ∧ (dFr [10] [] q_1675 q_1678) ∧ (x1_1679 = p1) ∧ (x3_1680 = v_26) ∧ (x4_1681 = x4_1359) ∧ (0 ≤ Int32.toInt x5_1682) ∧ (Int32.toInt x5_1682 ≤ Int32.toInt x4_1681) := ha
                            obtain ⟨a_1683, a_1684, a_1685, a_1686, a_1687, a_1688, a_1689⟩ := ha
                            show dOk (zX10_splits_169b _ (fun q x1 x3 x4 x5 => k_1677 (q, x1, x3, x4, x5)) q_1678 x1_1679 x3_1680 x4_1681 x5_1682) _
                            unfold zX10_splits_169b
                            have hFq_1678 : dFr [9, 10, 11] [18] q q_1678 := hFq_1675.t a_1684 (by decide) (by decide)
                            subst x1_1679
                            subst x3_1680
                            subst x4_1681
                            refine dOk_le (A := Int32.toInt x4_1359) (B := Int32.toInt x5_1682) rfl rfl (fun c_1690 => ?_) (fun c_1691 => ?_)
                            · unfold zX10_splits_247
                              refine dOk_L (fun q_1692 eq_1692 => ?_)
                              try have w_1693 : Int32.toInt (q_1675.1 0 18) = Int32.toInt (q_1554.1 0 18) := by rw [eq_1675, dui_o (by decide)]
                              have w_1694 : Int32.toInt (q_1678.1 0 18) = Int32.toInt (q_1675.1 0 18) := by rw [a_1684.2 18 (by decide)]
                              try have t_1695 : Int32.toInt (q_1678.1 0 18 + 1) = Int32.toInt (q_1678.1 0 18) + 1 := ti_add rfl (by decide) (by omega) (by omega)
                              have hTq_1692 : TS q_1692 := by rw [eq_1692]; exact ts_f a_1683 (ti_rg _).1 (ti_rg _).2
                              have hFq_1692 : dFr [9, 10, 11] [18] q q_1692 := by rw [eq_1692]; exact hFq_1678.f (by decide)
                              have w_1696 : Int32.toInt (q_1692.1 0 18) = Int32.toInt (q_1678.1 0 18 + 1) := by rw [eq_1692, dui_e]
                              exact hk_2 (q_1692, p1, x4_1359) (show (TS q_1692) ∧ (dFr [9, 10, 11] [18] q_1 q_1692) ∧ (p1 = p1) ∧ (0 ≤ Int32.toInt x4_1359) ∧ (Int32.toInt x4_1359 ≤ Int32.toInt p1) ∧ (0 ≤ Int32.toInt (q_1692.1 0 18)) ∧ (Int32.toInt (q_1692.1 0 18) ≤ Int32.toInt x4_1359) from ⟨hTq_1692, (by rw [eq_1692]; exact ((((by rw [eq_1675]; exact ((by rw [eq_1554]; exact ((by rw [eq_1551]; exact (((dFr.rf : dFr [9, 10, 11] [18] q_1 q_1).t a_8 (by decide) (by decide)) : dFr [9, 10, 11] [18] q_1 q_4).i (by decide) (by decide)) : dFr [9, 10, 11] [18] q_1 q_1551).i (by decide) (by decide)) : dFr [9, 10, 11] [18] q_1 q_1554).i (by decide) (by decide)) : dFr [9, 10, 11] [18] q_1 q_1675).t a_1684 (by decide) (by decide)) : dFr [9, 10, 11] [18] q_1 q_1678).f (by decide)), rfl, by omega, by omega, by omega, by omega⟩) (show (Int32.toInt p1 - Int32.toInt x4_1359).toNat < (Int32.toInt p1 - Int32.toInt x2_6).toNat by omega)
                            · refine dOk_V (ok_isDigit v_26) (fun r_1697 h_1698 => ?_)
                              replace h_1698 : ((Int32.toInt r_1697 = 1 ∧ 48 ≤ Int32.toInt v_26 ∧ Int32.toInt v_26 ≤ 57) ∨ (Int32.toInt r_1697 = 0 ∧ (Int32.toInt v_26 < 48 ∨ 57 < Int32.toInt v_26))) := h_1698
                              have i_1699 := h_1698
                              refine dOk_eq (A := Int32.toInt r_1697) (B := 0) rfl (by decide) (fun c_1700z c_1700 => ?_) (fun c_1701z c_1701 => ?_)
                              · unfold zX10_splits_247
                                refine dOk_L (fun q_1703 eq_1703 => ?_)
                                try have w_1704 : Int32.toInt (q_1675.1 0 18) = Int32.toInt (q_1554.1 0 18) := by rw [eq_1675, dui_o (by decide)]
                                have w_1705 : Int32.toInt (q_1678.1 0 18) = Int32.toInt (q_1675.1 0 18) := by rw [a_1684.2 18 (by decide)]
                                try have t_1706 : Int32.toInt (q_1678.1 0 18 + 1) = Int32.toInt (q_1678.1 0 18) + 1 := ti_add rfl (by decide) (by omega) (by omega)
                                have hTq_1703 : TS q_1703 := by rw [eq_1703]; exact ts_f a_1683 (ti_rg _).1 (ti_rg _).2
                                have hFq_1703 : dFr [9, 10, 11] [18] q q_1703 := by rw [eq_1703]; exact hFq_1678.f (by decide)
                                have w_1707 : Int32.toInt (q_1703.1 0 18) = Int32.toInt (q_1678.1 0 18 + 1) := by rw [eq_1703, dui_e]
                                exact hk_2 (q_1703, p1, x4_1359) (show (TS q_1703) ∧ (dFr [9, 10, 11] [18] q_1 q_1703) ∧ (p1 = p1) ∧ (0 ≤ Int32.toInt x4_1359) ∧ (Int32.toInt x4_1359 ≤ Int32.toInt p1) ∧ (0 ≤ Int32.toInt (q_1703.1 0 18)) ∧ (Int32.toInt (q_1703.1 0 18) ≤ Int32.toInt x4_1359) from ⟨hTq_1703, (by rw [eq_1703]; exact ((((by rw [eq_1675]; exact ((by rw [eq_1554]; exact ((by rw [eq_1551]; exact (((dFr.rf : dFr [9, 10, 11] [18] q_1 q_1).t a_8 (by decide) (by decide)) : dFr [9, 10, 11] [18] q_1 q_4).i (by decide) (by decide)) : dFr [9, 10, 11] [18] q_1 q_1551).i (by decide) (by decide)) : dFr [9, 10, 11] [18] q_1 q_1554).i (by decide) (by decide)) : dFr [9, 10, 11] [18] q_1 q_1675).t a_1684 (by decide) (by decide)) : dFr [9, 10, 11] [18] q_1 q_1678).f (by decide)), rfl, by omega, by omega, by omega, by omega⟩) (show (Int32.toInt p1 - Int32.toInt x4_1359).toNat < (Int32.toInt p1 - Int32.toInt x2_6).toNat by omega)
                              · try have w_1708 : Int32.toInt (q_1675.1 0 18) = Int32.toInt (q_1554.1 0 18) := by rw [eq_1675, dui_o (by decide)]
                                have w_1709 : Int32.toInt (q_1678.1 0 18) = Int32.toInt (q_1675.1 0 18) := by rw [a_1684.2 18 (by decide)]
                                refine dOk_G (dg_ok (show 0 ≤ Int32.toInt (q_1678.1 0 18) by omega) (show Int32.toInt (q_1678.1 0 18) < ((401 : Nat) : Int) by omega)) ?_
                                have n_1710 : ((Int32.toNatClampNeg (q_1678.1 0 18) : Nat) : Int) = Int32.toInt (q_1678.1 0 18) := cl_eq (by omega)
                                refine dOk_L (fun v_1711 ev_1711 => ?_)
                                refine dOk_le (A := Int32.toInt v_1711) (B := 1000000) rfl (by decide) (fun c_1712 => ?_) (fun c_1713 => ?_)
                                · refine dOk_G (dg_ok (show 0 ≤ Int32.toInt (q_1678.1 0 18) by omega) (show Int32.toInt (q_1678.1 0 18) < ((401 : Nat) : Int) by omega)) ?_
                                  refine dOk_L (fun v_1714 ev_1714 => ?_)
                                  have w_1715 : Int32.toInt v_1714 = Int32.toInt v_1711 := by rw [ev_1714, ev_1711]
                                  refine dOk_G (dg_ok (show 0 ≤ Int32.toInt x5_1682 by omega) (show Int32.toInt x5_1682 < ((400 : Nat) : Int) by omega)) ?_
                                  have n_1716 : ((Int32.toNatClampNeg x5_1682 : Nat) : Int) = Int32.toInt x5_1682 := cl_eq (by omega)
                                  refine dOk_L (fun v_1717 ev_1717 => ?_)
                                  unfold zX10_splits_240
                                  refine dOk_G (dg_ok (show 0 ≤ Int32.toInt (q_1678.1 0 18) by omega) (show Int32.toInt (q_1678.1 0 18) < ((401 : Nat) : Int) by omega)) ?_
                                  refine dOk_L (fun q_1718 eq_1718 => ?_)
                                  have hTq_1718 : TS q_1718 := by rw [eq_1718]; exact ts_any a_1683 rfl
                                  have hFq_1718 : dFr [9, 10, 11] [18] q q_1718 := by rw [eq_1718]; exact hFq_1678.i (by decide) (by decide)
                                  try have t_1719 : Int32.toInt (x5_1682 + 1) = Int32.toInt x5_1682 + 1 := ti_add rfl (by decide) (by omega) (by omega)
                                  exact hk_1676 (q_1718, p1, v_26, x4_1359, (x5_1682 + 1)) (show (TS q_1718) ∧ (dFr [10] [] q_1675 q_1718) ∧ (p1 = p1) ∧ (v_26 = v_26) ∧ (x4_1359 = x4_1359) ∧ (0 ≤ Int32.toInt (x5_1682 + 1)) ∧ (Int32.toInt (x5_1682 + 1) ≤ Int32.toInt x4_1359) from ⟨hTq_1718, (by rw [eq_1718]; exact (((dFr.rf : dFr [10] [] q_1675 q_1675).t a_1684 (by decide) (by decide)) : dFr [10] [] q_1675 q_1678).i (by decide) (by decide)), rfl, rfl, rfl, by omega, by omega⟩) (show (Int32.toInt x4_1359 - Int32.toInt (x5_1682 + 1)).toNat < (Int32.toInt x4_1359 - Int32.toInt x5_1682).toNat by omega)
                                · refine dOk_G (dg_ok (show 0 ≤ Int32.toInt (q_1678.1 0 18) by omega) (show Int32.toInt (q_1678.1 0 18) < ((401 : Nat) : Int) by omega)) ?_
                                  refine dOk_L (fun v_1720 ev_1720 => ?_)
                                  have w_1721 : Int32.toInt v_1720 = Int32.toInt v_1711 := by rw [ev_1720, ev_1711]
                                  unfold zX10_splits_240
                                  refine dOk_G (dg_ok (show 0 ≤ Int32.toInt (q_1678.1 0 18) by omega) (show Int32.toInt (q_1678.1 0 18) < ((401 : Nat) : Int) by omega)) ?_
                                  refine dOk_L (fun q_1722 eq_1722 => ?_)
                                  have hTq_1722 : TS q_1722 := by rw [eq_1722]; exact ts_any a_1683 rfl
                                  have hFq_1722 : dFr [9, 10, 11] [18] q q_1722 := by rw [eq_1722]; exact hFq_1678.i (by decide) (by decide)
                                  try have t_1723 : Int32.toInt (x5_1682 + 1) = Int32.toInt x5_1682 + 1 := ti_add rfl (by decide) (by omega) (by omega)
                                  exact hk_1676 (q_1722, p1, v_26, x4_1359, (x5_1682 + 1)) (show (TS q_1722) ∧ (dFr [10] [] q_1675 q_1722) ∧ (p1 = p1) ∧ (v_26 = v_26) ∧ (x4_1359 = x4_1359) ∧ (0 ≤ Int32.toInt (x5_1682 + 1)) ∧ (Int32.toInt (x5_1682 + 1) ≤ Int32.toInt x4_1359) from ⟨hTq_1722, (by rw [eq_1722]; exact (((dFr.rf : dFr [10] [] q_1675 q_1675).t a_1684 (by decide) (by decide)) : dFr [10] [] q_1675 q_1678).i (by decide) (by decide)), rfl, rfl, rfl, by omega, by omega⟩) (show (Int32.toInt x4_1359 - Int32.toInt (x5_1682 + 1)).toNat < (Int32.toInt x4_1359 - Int32.toInt x5_1682).toNat by omega)
                          · exact (show (TS q_1675) ∧ (dFr [10] [] q_1675 q_1675) ∧ (p1 = p1) ∧ (v_26 = v_26) ∧ (x4_1359 = x4_1359) ∧ (0 ≤ Int32.toInt x2_6) ∧ (Int32.toInt x2_6 ≤ Int32.toInt x4_1359) from ⟨hTq_1675, dFr.rf, rfl, rfl, rfl, by omega, by omega⟩)
                          · show (Int32.toInt x4_1359 - Int32.toInt x2_6).toNat < 1000000000000
                            omega
                      · try have t_1724 : Int32.toInt (x4_1359 + 1) = Int32.toInt x4_1359 + 1 := ti_add rfl (by decide) (by omega) (by omega)
                        exact hk_1353 (q_4, p1, x2_6, v_26, (x4_1359 + 1)) (show (q_4 = q_4) ∧ (p1 = p1) ∧ (x2_6 = x2_6) ∧ (v_26 = v_26) ∧ (Int32.toInt x2_6 + 1 ≤ Int32.toInt (x4_1359 + 1)) ∧ (Int32.toInt (x4_1359 + 1) ≤ Int32.toInt p1) from ⟨rfl, rfl, rfl, rfl, by omega, by omega⟩) (show (Int32.toInt p1 - Int32.toInt (x4_1359 + 1)).toNat < (Int32.toInt p1 - Int32.toInt x4_1359).toNat by omega)
                  · exact (show (q_4 = q_4) ∧ (p1 = p1) ∧ (x2_6 = x2_6) ∧ (v_26 = v_26) ∧ (Int32.toInt x2_6 + 1 ≤ Int32.toInt x4_604) ∧ (Int32.toInt x4_604 ≤ Int32.toInt p1) from ⟨rfl, rfl, rfl, rfl, by omega, by omega⟩)
                  · show (Int32.toInt p1 - Int32.toInt x4_604).toNat < 1000000000000
                    omega
              · try have t_1725 : Int32.toInt (x4_604 + 1) = Int32.toInt x4_604 + 1 := ti_add rfl (by decide) (by omega) (by omega)
                exact hk_598 (q_4, p1, x2_6, v_26, (x4_604 + 1)) (show (q_4 = q_4) ∧ (p1 = p1) ∧ (x2_6 = x2_6) ∧ (v_26 = v_26) ∧ (Int32.toInt x2_6 + 1 ≤ Int32.toInt (x4_604 + 1)) ∧ (Int32.toInt (x4_604 + 1) ≤ Int32.toInt p1) from ⟨rfl, rfl, rfl, rfl, by omega, by omega⟩) (show (Int32.toInt p1 - Int32.toInt (x4_604 + 1)).toNat < (Int32.toInt p1 - Int32.toInt x4_604).toNat by omega)
          · try have t_1726 : Int32.toInt (x2_6 + 1) = Int32.toInt x2_6 + 1 := ti_add rfl (by decide) (by omega) (by omega)
            exact (show (q_4 = q_4) ∧ (p1 = p1) ∧ (x2_6 = x2_6) ∧ (v_26 = v_26) ∧ (Int32.toInt x2_6 + 1 ≤ Int32.toInt (x2_6 + 1)) ∧ (Int32.toInt (x2_6 + 1) ≤ Int32.toInt p1) from ⟨rfl, rfl, rfl, rfl, by omega, by omega⟩)
          · try have t_1727 : Int32.toInt (x2_6 + 1) = Int32.toInt x2_6 + 1 := ti_add rfl (by decide) (by omega) (by omega)
            show (Int32.toInt p1 - Int32.toInt (x2_6 + 1)).toNat < 1000000000000
            omega
  · have w_1728 : Int32.toInt (q_1.1 0 18) = (0 : Int) := by rw [eq_1, dui_e]; decide
    exact (show (TS q_1) ∧ (dFr [9, 10, 11] [18] q_1 q_1) ∧ (p1 = p1) ∧ (0 ≤ (0 : Int)) ∧ ((0 : Int) ≤ Int32.toInt p1) ∧ (0 ≤ Int32.toInt (q_1.1 0 18)) ∧ (Int32.toInt (q_1.1 0 18) ≤ (0 : Int)) from ⟨hTq_1, dFr.rf, rfl, by omega, by omega, by omega, by omega⟩)
  · show (Int32.toInt p1 - (0 : Int)).toNat < 1000000000000
    omega
