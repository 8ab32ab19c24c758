set_option maxHeartbeats 4000000 in
set_option maxRecDepth 100000 in
theorem ok_few (q : dS) (p1 : Int32) (p2 : Int32) (hT : TS q) : dOk (zX10_few q p1 p2) (fun (o : Int64 × dS) => (TS o.2) ∧ (dFr [] [] q o.2)) := by
  unfold zX10_few
  have l_1 : Int32.toInt 1 = 1 := by decide
  have l_2 : Int32.toInt 20 = 20 := by decide
  refine dOk_V (ok_lies p1 1 20) (fun r_3 h_4 => ?_)
  have h_4 : ((Int32.toInt r_3 = 1 ∧ Int32.toInt 1 ≤ Int32.toInt p1 ∧ Int32.toInt p1 ≤ Int32.toInt 20) ∨ (Int32.toInt r_3 = 0 ∧ (Int32.toInt p1 < Int32.toInt 1 ∨ Int32.toInt 20 < Int32.toInt p1))) := h_4
  have i_5 := h_4
  refine dOk_eq (A := Int32.toInt r_3) (B := 0) rfl (by decide) (fun c_6z c_6 => ?_) (fun c_7z c_7 => ?_)
  · unfold zX10_few_20
    exact dOk_some (show (TS q) ∧ (dFr [] [] q q) from ⟨hT, (dFr.rf (q := q))⟩)
  · have l_9 : Int32.toInt 0 = 0 := by decide
    have l_10 : Int32.toInt 99 = 99 := by decide
    refine dOk_V (ok_lies p2 0 99) (fun r_11 h_12 => ?_)
    have h_12 : ((Int32.toInt r_11 = 1 ∧ Int32.toInt 0 ≤ Int32.toInt p2 ∧ Int32.toInt p2 ≤ Int32.toInt 99) ∨ (Int32.toInt r_11 = 0 ∧ (Int32.toInt p2 < Int32.toInt 0 ∨ Int32.toInt 99 < Int32.toInt p2))) := h_12
    have i_13 := h_12
    refine dOk_eq (A := Int32.toInt r_11) (B := 0) rfl (by decide) (fun c_14z c_14 => ?_) (fun c_15z c_15 => ?_)
    · unfold zX10_few_20
      exact dOk_some (show (TS q) ∧ (dFr [] [] q q) from ⟨hT, (dFr.rf (q := q))⟩)
    · unfold zX10_few_26
      refine dFix_ok (fun (a : dS × Int32 × Int32 × Int32) => (TS a.1) ∧ (dFr [] [] q a.1) ∧ (a.2.1 = p1) ∧ (a.2.2.1 = p2) ∧ (0 ≤ Int32.toInt a.2.2.2) ∧ (Int32.toInt a.2.2.2 ≤ 21)) (fun (a : dS × Int32 × Int32 × Int32) => (21 - Int32.toInt a.2.2.2).toNat) ?_ _ ?_ _ (dF_gt ?_)
      · intro a ha k_18 hk_17
        obtain ⟨q_19, x1_20, x2_21, x3_22⟩ := a
        have ha : (TS q_19) ∧ (dFr [] [] q q_19) ∧ (x1_20 = p1) ∧ (x2_21 = p2) ∧ (0 ≤ Int32.toInt x3_22) ∧ (Int32.toInt x3_22 ≤ 21) := ha
        obtain ⟨a_23, a_24, a_25, a_26, a_27, a_28⟩ := ha
        show dOk (zX10_few_26b  (fun q x1 x2 x3 => k_18 (q, x1, x2, x3)) q_19 x1_20 x2_21 x3_22) _
        unfold zX10_few_26b
        have hFq_19 : dFr [] [] q q_19 := (dFr.rf (q := q)).t a_24 (by decide) (by decide)
        subst x1_20
        subst x2_21
        refine dOk_lt (A := 20) (B := Int32.toInt x3_22) (by decide) rfl (fun c_29 => ?_) (fun c_30 => ?_)
        · unfold zX10_few_57
          refine dFix_ok (fun (a : dS × Int32 × Int32 × Int32) => (a.1 = q_19) ∧ (a.2.1 = p1) ∧ (a.2.2.1 = p2) ∧ (0 ≤ Int32.toInt a.2.2.2) ∧ (Int32.toInt a.2.2.2 ≤ 99)) (fun (a : dS × Int32 × Int32 × Int32) => (99 - Int32.toInt a.2.2.2).toNat) ?_ _ ?_ _ (dF_gt ?_)
          · intro a ha k_32 hk_31
            obtain ⟨q_33, x1_34, x2_35, x3_36⟩ := a
            have ha : (q_33 = q_19) ∧ (x1_34 = p1) ∧ (x2_35 = p2) ∧ (0 ≤ Int32.toInt x3_36) ∧ (Int32.toInt x3_36 ≤ 99) := ha
            obtain ⟨a_37, a_38, a_39, a_40, a_41⟩ := ha
            show dOk (zX10_few_57b  (fun q x1 x2 x3 => k_32 (q, x1, x2, x3)) q_33 x1_34 x2_35 x3_36) _
            unfold zX10_few_57b
            subst q_33
            subst x1_34
            subst x2_35
            refine dOk_le (A := Int32.toInt p2) (B := Int32.toInt x3_36) rfl rfl (fun c_42 => ?_) (fun c_43 => ?_)
            · unfold zX10_few_151
              refine dFix_ok (fun (a : dS × Int32 × Int64 × Int32) => (a.1 = q_19) ∧ (a.2.1 = p1) ∧ (0 ≤ Int32.toInt a.2.2.2) ∧ (Int32.toInt a.2.2.2 ≤ 20)) (fun (a : dS × Int32 × Int64 × Int32) => (20 - Int32.toInt a.2.2.2).toNat) ?_ _ ?_ _ (dF_gt ?_)
              · intro a ha k_45 hk_44
                obtain ⟨q_46, x1_47, x3_48, x5_49⟩ := a
                have ha : (q_46 = q_19) ∧ (x1_47 = p1) ∧ (0 ≤ Int32.toInt x5_49) ∧ (Int32.toInt x5_49 ≤ 20) := ha
                obtain ⟨a_50, a_51, a_52, a_53⟩ := ha
                show dOk (zX10_few_151b  (fun q x1 x3 x5 => k_45 (q, x1, x3, x5)) q_46 x1_47 x3_48 x5_49) _
                unfold zX10_few_151b
                subst q_46
                subst x1_47
                refine dOk_le (A := Int32.toInt p1) (B := Int32.toInt x5_49) rfl rfl (fun c_54 => ?_) (fun c_55 => ?_)
                · exact dOk_some (show (TS q_19) ∧ (dFr [] [] q q_19) from ⟨a_23, hFq_19⟩)
                · refine dOk_G (dg_ok (show 0 ≤ Int32.toInt x5_49 by omega) (show Int32.toInt x5_49 < ((21 : Nat) : Int) by omega)) ?_
                  have n_56 : ((Int32.toNatClampNeg x5_49 : Nat) : Int) = Int32.toInt x5_49 := cl_eq (by omega)
                  refine dOk_L (fun v_57 ev_57 => ?_)
                  try have t_58 : Int32.toInt (x5_49 + 1) = Int32.toInt x5_49 + 1 := ti_add rfl (by decide) (by omega) (by omega)
                  exact hk_44 (q_19, p1, (x3_48 + v_57 : Int64), (x5_49 + 1)) (show (q_19 = q_19) ∧ (p1 = p1) ∧ (0 ≤ Int32.toInt (x5_49 + 1)) ∧ (Int32.toInt (x5_49 + 1) ≤ 20) from ⟨rfl, rfl, by omega, by omega⟩) (show (20 - Int32.toInt (x5_49 + 1)).toNat < (20 - Int32.toInt x5_49).toNat by omega)
              · exact (show (q_19 = q_19) ∧ (p1 = p1) ∧ (0 ≤ Int32.toInt 0) ∧ (Int32.toInt 0 ≤ 20) from ⟨rfl, rfl, by omega, by omega⟩)
              · show (20 - Int32.toInt 0).toNat < 1000000000000
                omega
            · unfold zX10_few_67
              refine dFix_ok (fun (a : dS × Int32 × Int32 × Int32 × Int32) => (TS a.1) ∧ (dFr [] [] q_19 a.1) ∧ (a.2.1 = p1) ∧ (a.2.2.1 = p2) ∧ (a.2.2.2.1 = x3_36) ∧ (-1 ≤ Int32.toInt a.2.2.2.2) ∧ (Int32.toInt a.2.2.2.2 ≤ 19)) (fun (a : dS × Int32 × Int32 × Int32 × Int32) => (Int32.toInt a.2.2.2.2 + 1).toNat) ?_ _ ?_ _ (dF_gt ?_)
              · intro a ha k_60 hk_59
                obtain ⟨q_61, x1_62, x2_63, x3_64, x4_65⟩ := a
                have ha : (TS q_61) ∧ (dFr [] [] q_19 q_61) ∧ (x1_62 = p1) ∧ (x2_63 = p2) ∧ (x3_64 = x3_36) ∧ (-1 ≤ Int32.toInt x4_65) ∧ (Int32.toInt x4_65 ≤ 19) := ha
                obtain ⟨a_66, a_67, a_68, a_69, a_70, a_71, a_72⟩ := ha
                show dOk (zX10_few_67b _ (fun q x1 x2 x3 x4 => k_60 (q, x1, x2, x3, x4)) q_61 x1_62 x2_63 x3_64 x4_65) _
                unfold zX10_few_67b
                have hFq_61 : dFr [] [] q q_61 := hFq_19.t a_67 (by decide) (by decide)
                subst x1_62
                subst x2_63
                subst x3_64
                refine dOk_lt (A := Int32.toInt x4_65) (B := 0) rfl (by decide) (fun c_73 => ?_) (fun c_74 => ?_)
                · try have t_75 : Int32.toInt (x3_36 + 1) = Int32.toInt x3_36 + 1 := ti_add rfl (by decide) (by omega) (by omega)
                  exact hk_31 (q_61, p1, p2, (x3_36 + 1)) (show (q_61 = q_19) ∧ (p1 = p1) ∧ (p2 = p2) ∧ (0 ≤ Int32.toInt (x3_36 + 1)) ∧ (Int32.toInt (x3_36 + 1) ≤ 99) from ⟨rfl, rfl, rfl, by omega, by omega⟩) (show (99 - Int32.toInt (x3_36 + 1)).toNat < (99 - Int32.toInt x3_36).toNat by omega)
                · try have t_76 : Int32.toInt (x4_65 + 1) = Int32.toInt x4_65 + 1 := ti_add rfl (by decide) (by omega) (by omega)
                  refine dOk_G (dg_ok (show 0 ≤ Int32.toInt (x4_65 + 1) by omega) (show Int32.toInt (x4_65 + 1) < ((21 : Nat) : Int) by omega)) ?_
                  have n_77 : ((Int32.toNatClampNeg (x4_65 + 1) : Nat) : Int) = Int32.toInt (x4_65 + 1) := cl_eq (by omega)
                  refine dOk_L (fun v_78 ev_78 => ?_)
                  refine dOk_G (dg_ok (show 0 ≤ Int32.toInt x4_65 by omega) (show Int32.toInt x4_65 < ((21 : Nat) : Int) by omega)) ?_
                  have n_79 : ((Int32.toNatClampNeg x4_65 : Nat) : Int) = Int32.toInt x4_65 := cl_eq (by omega)
                  refine dOk_L (fun v_80 ev_80 => ?_)
                  refine dOk_L (fun v_81 ev_81 => ?_)
                  refine dOk_G (dg_ok (show 0 ≤ Int32.toInt (x4_65 + 1) by omega) (show Int32.toInt (x4_65 + 1) < ((21 : Nat) : Int) by omega)) ?_
                  refine dOk_L (fun q_82 eq_82 => ?_)
                  have hTq_82 : TS q_82 := by rw [eq_82]; exact ts_l a_66
                  have hFq_82 : dFr [] [] q q_82 := by rw [eq_82]; exact hFq_61.l
                  refine dOk_G (dg_ok (show 0 ≤ Int32.toInt x4_65 by omega) (show Int32.toInt x4_65 < ((21 : Nat) : Int) by omega)) ?_
                  refine dOk_L (fun v_83 ev_83 => ?_)
                  refine dOk_L (fun v_84 ev_84 => ?_)
                  refine dOk_G (dg_ok (show 0 ≤ Int32.toInt x4_65 by omega) (show Int32.toInt x4_65 < ((21 : Nat) : Int) by omega)) ?_
                  refine dOk_L (fun q_85 eq_85 => ?_)
                  have hTq_85 : TS q_85 := by rw [eq_85]; exact ts_l hTq_82
                  have hFq_85 : dFr [] [] q q_85 := by rw [eq_85]; exact hFq_82.l
                  try have t_86 : Int32.toInt (x4_65 + (-1)) = Int32.toInt x4_65 + (-1) := ti_add rfl (by decide) (by omega) (by omega)
                  exact hk_59 (q_85, p1, p2, x3_36, (x4_65 + (-1))) (show (TS q_85) ∧ (dFr [] [] q_19 q_85) ∧ (p1 = p1) ∧ (p2 = p2) ∧ (x3_36 = x3_36) ∧ (-1 ≤ Int32.toInt (x4_65 + (-1))) ∧ (Int32.toInt (x4_65 + (-1)) ≤ 19) from ⟨hTq_85, (by rw [eq_85]; exact ((by rw [eq_82]; exact ((((dFr.rf : dFr [] [] q_19 q_19)).t a_67 (by decide) (by decide))).l)).l), rfl, rfl, rfl, by omega, by omega⟩) (show (Int32.toInt (x4_65 + (-1)) + 1).toNat < (Int32.toInt x4_65 + 1).toNat by omega)
              · try have t_87 : Int32.toInt (p1 - 1) = Int32.toInt p1 - 1 := ti_sub rfl (by decide) (by omega) (by omega)
                exact (show (TS q_19) ∧ (dFr [] [] q_19 q_19) ∧ (p1 = p1) ∧ (p2 = p2) ∧ (x3_36 = x3_36) ∧ (-1 ≤ Int32.toInt (p1 - 1)) ∧ (Int32.toInt (p1 - 1) ≤ 19) from ⟨a_23, dFr.rf, rfl, rfl, rfl, by omega, by omega⟩)
              · try have t_88 : Int32.toInt (p1 - 1) = Int32.toInt p1 - 1 := ti_sub rfl (by decide) (by omega) (by omega)
                show (Int32.toInt (p1 - 1) + 1).toNat < 1000000000000
                omega
          · exact (show (q_19 = q_19) ∧ (p1 = p1) ∧ (p2 = p2) ∧ (0 ≤ Int32.toInt 0) ∧ (Int32.toInt 0 ≤ 99) from ⟨rfl, rfl, rfl, by omega, by omega⟩)
          · show (99 - Int32.toInt 0).toNat < 1000000000000
            omega
        · refine dOk_eq (A := Int32.toInt x3_22) (B := 0) rfl (by decide) (fun c_89z c_89 => ?_) (fun c_90z c_90 => ?_)
          · unfold zX10_few_48
            refine dOk_G (dg_ok (show 0 ≤ Int32.toInt x3_22 by omega) (show Int32.toInt x3_22 < ((21 : Nat) : Int) by omega)) ?_
            have n_92 : ((Int32.toNatClampNeg x3_22 : Nat) : Int) = Int32.toInt x3_22 := cl_eq (by omega)
            refine dOk_L (fun q_93 eq_93 => ?_)
            have hTq_93 : TS q_93 := by rw [eq_93]; exact ts_l a_23
            have hFq_93 : dFr [] [] q q_93 := by rw [eq_93]; exact hFq_19.l
            try have t_94 : Int32.toInt (x3_22 + 1) = Int32.toInt x3_22 + 1 := ti_add rfl (by decide) (by omega) (by omega)
            exact hk_17 (q_93, p1, p2, (x3_22 + 1)) (show (TS q_93) ∧ (dFr [] [] q q_93) ∧ (p1 = p1) ∧ (p2 = p2) ∧ (0 ≤ Int32.toInt (x3_22 + 1)) ∧ (Int32.toInt (x3_22 + 1) ≤ 21) from ⟨hTq_93, (by rw [eq_93]; exact ((((dFr.rf : dFr [] [] q q)).t a_24 (by decide) (by decide))).l), rfl, rfl, by omega, by omega⟩) (show (21 - Int32.toInt (x3_22 + 1)).toNat < (21 - Int32.toInt x3_22).toNat by omega)
          · unfold zX10_few_48
            refine dOk_G (dg_ok (show 0 ≤ Int32.toInt x3_22 by omega) (show Int32.toInt x3_22 < ((21 : Nat) : Int) by omega)) ?_
            have n_95 : ((Int32.toNatClampNeg x3_22 : Nat) : Int) = Int32.toInt x3_22 := cl_eq (by omega)
            refine dOk_L (fun q_96 eq_96 => ?_)
            have hTq_96 : TS q_96 := by rw [eq_96]; exact ts_l a_23
            have hFq_96 : dFr [] [] q q_96 := by rw [eq_96]; exact hFq_19.l
            try have t_97 : Int32.toInt (x3_22 + 1) = Int32.toInt x3_22 + 1 := ti_add rfl (by decide) (by omega) (by omega)
            exact hk_17 (q_96, p1, p2, (x3_22 + 1)) (show (TS q_96) ∧ (dFr [] [] q q_96) ∧ (p1 = p1) ∧ (p2 = p2) ∧ (0 ≤ Int32.toInt (x3_22 + 1)) ∧ (Int32.toInt (x3_22 + 1) ≤ 21) from ⟨hTq_96, (by rw [eq_96]; exact ((((dFr.rf : dFr [] [] q q)).t a_24 (by decide) (by decide))).l), rfl, rfl, by omega, by omega⟩) (show (21 - Int32.toInt (x3_22 + 1)).toNat < (21 - Int32.toInt x3_22).toNat by omega)
      · exact (show (TS q) ∧ (dFr [] [] q q) ∧ (p1 = p1) ∧ (p2 = p2) ∧ (0 ≤ Int32.toInt 0) ∧ (Int32.toInt 0 ≤ 21) from ⟨hT, dFr.rf, rfl, rfl, by omega, by omega⟩)
      · show (21 - Int32.toInt 0).toNat < 1000000000000
        omega

set_option maxHeartbeats 4000000 in
set_option maxRecDepth 100000 in
theorem ok_drawn (q : dS) (p1 : Int32) (p2 : Int32) (hT : TS q) : dOk (zX10_drawn q p1 p2) (fun (o : Int32 × dS) => (o.2 = q)) := by
  unfold zX10_drawn
  have l_1 : Int32.toInt 0 = 0 := by decide
  have f_2 : -1 ≤ Int32.toInt (q.1 0 54) ∧ Int32.toInt (q.1 0 54) ≤ 6 := hT.1 0 54
  try have t_3 : Int32.toInt (q.1 0 54 - 1) = Int32.toInt (q.1 0 54) - 1 := ti_sub rfl (by decide) (by omega) (by omega)
  refine dOk_V (ok_lies p1 0 (q.1 0 54 - 1)) (fun r_4 h_5 => ?_)
  have h_5 : ((Int32.toInt r_4 = 1 ∧ Int32.toInt 0 ≤ Int32.toInt p1 ∧ Int32.toInt p1 ≤ Int32.toInt (q.1 0 54 - 1)) ∨ (Int32.toInt r_4 = 0 ∧ (Int32.toInt p1 < Int32.toInt 0 ∨ Int32.toInt (q.1 0 54 - 1) < Int32.toInt p1))) := h_5
  have i_6 := h_5
  refine dOk_eq (A := Int32.toInt r_4) (B := 0) rfl (by decide) (fun c_7z c_7 => ?_) (fun c_8z c_8 => ?_)
  · unfold zX10_drawn_21
    have l_10 : Int32.toInt (-1) = (-1) := by decide
    exact dOk_some (show (q = q) from rfl)
  · refine dOk_V (ok_isBit p2) (fun r_11 h_12 => ?_)
    have h_12 : ((Int32.toInt r_11 = 1 ∧ 0 ≤ Int32.toInt p2 ∧ Int32.toInt p2 ≤ 1) ∨ (Int32.toInt r_11 = 0 ∧ (Int32.toInt p2 < 0 ∨ 1 < Int32.toInt p2))) := h_12
    have i_13 := h_12
    refine dOk_eq (A := Int32.toInt r_11) (B := 0) rfl (by decide) (fun c_14z c_14 => ?_) (fun c_15z c_15 => ?_)
    · unfold zX10_drawn_21
      have l_17 : Int32.toInt (-1) = (-1) := by decide
      exact dOk_some (show (q = q) from rfl)
    · refine dOk_eq (A := Int32.toInt p2) (B := 0) rfl (by decide) (fun c_18z c_18 => ?_) (fun c_19z c_19 => ?_)
      · unfold zX10_drawn_37
        try have t_21 : Int32.toInt (0 + p1) = 0 + Int32.toInt p1 := ti_add (by decide) rfl (by omega) (by omega)
        refine dOk_G (dg_ok (show 0 ≤ Int32.toInt (0 + p1) by omega) (show Int32.toInt (0 + p1) < ((14 : Nat) : Int) by omega)) ?_
        have n_22 : ((Int32.toNatClampNeg (0 + p1) : Nat) : Int) = Int32.toInt (0 + p1) := cl_eq (by omega)
        refine dOk_L (fun v_23 ev_23 => ?_)
        try have g_24 : klo ((Int32.toNatClampNeg (0 + p1)) % 14) ≤ Int32.toInt v_23 ∧ Int32.toInt v_23 ≤ khi ((Int32.toNatClampNeg (0 + p1)) % 14) := by rw [ev_23]; exact te_27 hT _
        exact dOk_some (show (q = q) from rfl)
      · unfold zX10_drawn_37
        try have t_25 : Int32.toInt (6 + p1) = 6 + Int32.toInt p1 := ti_add (by decide) rfl (by omega) (by omega)
        refine dOk_G (dg_ok (show 0 ≤ Int32.toInt (6 + p1) by omega) (show Int32.toInt (6 + p1) < ((14 : Nat) : Int) by omega)) ?_
        have n_26 : ((Int32.toNatClampNeg (6 + p1) : Nat) : Int) = Int32.toInt (6 + p1) := cl_eq (by omega)
        refine dOk_L (fun v_27 ev_27 => ?_)
        try have g_28 : klo ((Int32.toNatClampNeg (6 + p1)) % 14) ≤ Int32.toInt v_27 ∧ Int32.toInt v_27 ≤ khi ((Int32.toNatClampNeg (6 + p1)) % 14) := by rw [ev_27]; exact te_27 hT _
        exact dOk_some (show (q = q) from rfl)

set_option maxHeartbeats 4000000 in
set_option maxRecDepth 100000 in
theorem ok_onHeads (q : dS) (hT : TS q) : dOk (zX10_onHeads q) (fun (o : Int32 × dS) => (o.2 = q)) := by
  unfold zX10_onHeads
  unfold zX10_onHeads_4
  refine dFix_ok (fun (a : dS × Int32 × Int32) => (a.1 = q) ∧ (0 ≤ Int32.toInt a.2.2) ∧ (Int32.toInt a.2.2 ≤ 6)) (fun (a : dS × Int32 × Int32) => (6 - Int32.toInt a.2.2).toNat) ?_ _ ?_ _ (dF_gt ?_)
  · intro a ha k_2 hk_1
    obtain ⟨q_3, x1_4, x2_5⟩ := a
    have ha : (q_3 = q) ∧ (0 ≤ Int32.toInt x2_5) ∧ (Int32.toInt x2_5 ≤ 6) := ha
    obtain ⟨a_6, a_7, a_8⟩ := ha
    show dOk (zX10_onHeads_4b  (fun q x1 x2 => k_2 (q, x1, x2)) q_3 x1_4 x2_5) _
    unfold zX10_onHeads_4b
    subst q_3
    refine dOk_B (ok_size q hT) (fun r_9 q_10 h_11 => ?_)
    have h_11 : (q_10 = q) ∧ (Int32.toInt r_9 = Int32.toInt (q.1 2 29)) ∧ (0 ≤ Int32.toInt r_9 ∧ Int32.toInt r_9 ≤ 6) := h_11
    obtain ⟨i_12, i_13, i_14⟩ := h_11
    subst q_10
    have f_15 : 0 ≤ Int32.toInt (q.1 2 29) ∧ Int32.toInt (q.1 2 29) ≤ 6 := hT.1 2 29
    refine dOk_le (A := Int32.toInt r_9) (B := Int32.toInt x2_5) rfl rfl (fun c_16 => ?_) (fun c_17 => ?_)
    · exact dOk_some (show (q = q) from rfl)
    · try have t_18 : Int32.toInt (6 + x2_5) = 6 + Int32.toInt x2_5 := ti_add (by decide) rfl (by omega) (by omega)
      refine dOk_G (dg_ok (show 0 ≤ Int32.toInt (6 + x2_5) by omega) (show Int32.toInt (6 + x2_5) < ((5640 : Nat) : Int) by omega)) ?_
      have n_19 : ((Int32.toNatClampNeg (6 + x2_5) : Nat) : Int) = Int32.toInt (6 + x2_5) := cl_eq (by omega)
      refine dOk_L (fun v_20 ev_20 => ?_)
      try have g_21 : klo (Int32.toNatClampNeg (6 + x2_5)) ≤ Int32.toInt v_20 ∧ Int32.toInt v_20 ≤ khi (Int32.toNatClampNeg (6 + x2_5)) := by rw [ev_20]; exact te_k hT _
      try have f_22 : 0 ≤ Int32.toInt v_20 ∧ Int32.toInt v_20 ≤ 5 := by rw [ev_20]; exact te_2r hT (by omega) (by omega)
      try have f_23 : 0 ≤ Int32.toInt v_20 ∧ Int32.toInt v_20 ≤ 1 := by rw [ev_20]; exact te_2h hT (by omega) (by omega)
      try have f_24 : 0 ≤ Int32.toInt v_20 ∧ Int32.toInt v_20 ≤ 5 := by rw [ev_20]; exact te_2s hT (by omega) (by omega)
      try have f_25 : 0 ≤ Int32.toInt v_20 ∧ Int32.toInt v_20 ≤ 400 := by rw [ev_20]; exact te_2z hT (by omega) (by omega)
      try have t_26 : Int32.toInt (x1_4 + v_20) = Int32.toInt x1_4 + Int32.toInt v_20 := ti_add rfl rfl (by omega) (by omega)
      try have t_27 : Int32.toInt (x2_5 + 1) = Int32.toInt x2_5 + 1 := ti_add rfl (by decide) (by omega) (by omega)
      exact hk_1 (q, (x1_4 + v_20), (x2_5 + 1)) (show (q = q) ∧ (0 ≤ Int32.toInt (x2_5 + 1)) ∧ (Int32.toInt (x2_5 + 1) ≤ 6) from ⟨rfl, by omega, by omega⟩) (show (6 - Int32.toInt (x2_5 + 1)).toNat < (6 - Int32.toInt x2_5).toNat by omega)
  · have l_28 : Int32.toInt 0 = 0 := by decide
    exact (show (q = q) ∧ (0 ≤ Int32.toInt 0) ∧ (Int32.toInt 0 ≤ 6) from ⟨rfl, by omega, by omega⟩)
  · have l_29 : Int32.toInt 0 = 0 := by decide
    show (6 - Int32.toInt 0).toNat < 1000000000000
    omega

set_option maxHeartbeats 4000000 in
set_option maxRecDepth 100000 in
theorem ok_isOrderedNow (q : dS) (hT : TS q) : dOk (zX10_isOrderedNow q) (fun (o : Int32 × dS) => (o.2 = q) ∧ ((Int32.toInt o.1 = 0 ∨ Int32.toInt o.1 = 1))) := by
  unfold zX10_isOrderedNow
  refine dOk_B (ok_size q hT) (fun r_1 q_2 h_3 => ?_)
  have h_3 : (q_2 = q) ∧ (Int32.toInt r_1 = Int32.toInt (q.1 2 29)) ∧ (0 ≤ Int32.toInt r_1 ∧ Int32.toInt r_1 ≤ 6) := h_3
  obtain ⟨i_4, i_5, i_6⟩ := h_3
  subst q_2
  have f_7 : 0 ≤ Int32.toInt (q.1 2 29) ∧ Int32.toInt (q.1 2 29) ≤ 6 := hT.1 2 29
  try have t_8 : Int32.toInt 1 = 1 := by decide
  try have t_9 := ti_shl5 (x := 1) (s := r_1) (by decide) (by decide) (by omega) (by omega)
  try have t_10 := ti_shl6 (x := 1) (s := r_1) (by decide) (by decide) (by omega) (by omega)
  try have t_11 : Int32.toInt (1 <<< ((r_1 : Int32) &&& 31) - 1) = Int32.toInt (1 <<< ((r_1 : Int32) &&& 31)) - 1 := ti_sub rfl (by decide) (by omega) (by omega)
  refine dOk_B (ok_canStay q (1 <<< ((r_1 : Int32) &&& 31) - 1) hT) (fun r_12 q_13 h_14 => ?_)
  have h_14 : (q_13 = q) ∧ ((Int32.toInt r_12 = 0 ∨ Int32.toInt r_12 = 1)) := h_14
  obtain ⟨i_15, i_16⟩ := h_14
  subst q_13
  refine dOk_G (dbl_ok (show Int32.toInt r_12 = 0 ∨ Int32.toInt r_12 = 1 by omega)) ?_
  exact dOk_some (show (q = q) ∧ ((Int32.toInt r_12 = 0 ∨ Int32.toInt r_12 = 1)) from ⟨rfl, by omega⟩)

set_option maxHeartbeats 4000000 in
set_option maxRecDepth 100000 in
theorem ok_count (q : dS) (p1 : Int32) (hT : TS q) : dOk (zX10_count q p1) (fun (o : Int32 × dS) => (o.2 = q)) := by
  unfold zX10_count
  refine dOk_eq (A := Int32.toInt p1) (B := 0) rfl (by decide) (fun c_1z c_1 => ?_) (fun c_2z c_2 => ?_)
  · refine dOk_B (ok_size q hT) (fun r_4 q_5 h_6 => ?_)
    have h_6 : (q_5 = q) ∧ (Int32.toInt r_4 = Int32.toInt (q.1 2 29)) ∧ (0 ≤ Int32.toInt r_4 ∧ Int32.toInt r_4 ≤ 6) := h_6
    obtain ⟨i_7, i_8, i_9⟩ := h_6
    subst q_5
    have f_10 : 0 ≤ Int32.toInt (q.1 2 29) ∧ Int32.toInt (q.1 2 29) ≤ 6 := hT.1 2 29
    exact dOk_some (show (q = q) from rfl)
  · refine dOk_eq (A := Int32.toInt p1) (B := 1) rfl (by decide) (fun c_11z c_11 => ?_) (fun c_12z c_12 => ?_)
    · refine dOk_B (ok_onHeads q hT) (fun r_14 q_15 h_16 => ?_)
      have h_16 : (q_15 = q) := h_16
      have i_17 := h_16
      subst q_15
      exact dOk_some (show (q = q) from rfl)
    · refine dOk_eq (A := Int32.toInt p1) (B := 2) rfl (by decide) (fun c_18z c_18 => ?_) (fun c_19z c_19 => ?_)
      · have f_21 : 0 ≤ Int32.toInt (q.1 2 12) ∧ Int32.toInt (q.1 2 12) ≤ 9999 := hT.1 2 12
        exact dOk_some (show (q = q) from rfl)
      · refine dOk_eq (A := Int32.toInt p1) (B := 3) rfl (by decide) (fun c_22z c_22 => ?_) (fun c_23z c_23 => ?_)
        · have f_25 : 0 ≤ Int32.toInt (q.1 2 30) ∧ Int32.toInt (q.1 2 30) ≤ 6 := hT.1 2 30
          exact dOk_some (show (q = q) from rfl)
        · refine dOk_eq (A := Int32.toInt p1) (B := 4) rfl (by decide) (fun c_26z c_26 => ?_) (fun c_27z c_27 => ?_)
          · have f_29 : 0 ≤ Int32.toInt (q.1 2 31) ∧ Int32.toInt (q.1 2 31) ≤ 6 := hT.1 2 31
            exact dOk_some (show (q = q) from rfl)
          · refine dOk_eq (A := Int32.toInt p1) (B := 5) rfl (by decide) (fun c_30z c_30 => ?_) (fun c_31z c_31 => ?_)
            · have f_33 : 0 ≤ Int32.toInt (q.1 0 32) ∧ Int32.toInt (q.1 0 32) ≤ 16 := hT.1 0 32
              exact dOk_some (show (q = q) from rfl)
            · refine dOk_eq (A := Int32.toInt p1) (B := 6) rfl (by decide) (fun c_34z c_34 => ?_) (fun c_35z c_35 => ?_)
              · have f_37 : 0 ≤ Int32.toInt (q.1 0 13) ∧ Int32.toInt (q.1 0 13) ≤ 400 := hT.1 0 13
                exact dOk_some (show (q = q) from rfl)
              · refine dOk_eq (A := Int32.toInt p1) (B := 7) rfl (by decide) (fun c_38z c_38 => ?_) (fun c_39z c_39 => ?_)
                · try have t_41 : Int32.toInt (p1 - 6) = Int32.toInt p1 - 6 := ti_sub rfl (by decide) (by omega) (by omega)
                  refine dOk_G (dg_ok (show 0 ≤ Int32.toInt (p1 - 6) by omega) (show Int32.toInt (p1 - 6) < ((7 : Nat) : Int) by omega)) ?_
                  have n_42 : ((Int32.toNatClampNeg (p1 - 6) : Nat) : Int) = Int32.toInt (p1 - 6) := cl_eq (by omega)
                  refine dOk_L (fun v_43 ev_43 => ?_)
                  exact dOk_some (show (q = q) from rfl)
                · refine dOk_eq (A := Int32.toInt p1) (B := 8) rfl (by decide) (fun c_44z c_44 => ?_) (fun c_45z c_45 => ?_)
                  · try have t_47 : Int32.toInt (p1 - 6) = Int32.toInt p1 - 6 := ti_sub rfl (by decide) (by omega) (by omega)
                    refine dOk_G (dg_ok (show 0 ≤ Int32.toInt (p1 - 6) by omega) (show Int32.toInt (p1 - 6) < ((7 : Nat) : Int) by omega)) ?_
                    have n_48 : ((Int32.toNatClampNeg (p1 - 6) : Nat) : Int) = Int32.toInt (p1 - 6) := cl_eq (by omega)
                    refine dOk_L (fun v_49 ev_49 => ?_)
                    exact dOk_some (show (q = q) from rfl)
                  · refine dOk_eq (A := Int32.toInt p1) (B := 9) rfl (by decide) (fun c_50z c_50 => ?_) (fun c_51z c_51 => ?_)
                    · try have t_53 : Int32.toInt (p1 - 6) = Int32.toInt p1 - 6 := ti_sub rfl (by decide) (by omega) (by omega)
                      refine dOk_G (dg_ok (show 0 ≤ Int32.toInt (p1 - 6) by omega) (show Int32.toInt (p1 - 6) < ((7 : Nat) : Int) by omega)) ?_
                      have n_54 : ((Int32.toNatClampNeg (p1 - 6) : Nat) : Int) = Int32.toInt (p1 - 6) := cl_eq (by omega)
                      refine dOk_L (fun v_55 ev_55 => ?_)
                      exact dOk_some (show (q = q) from rfl)
                    · refine dOk_eq (A := Int32.toInt p1) (B := 10) rfl (by decide) (fun c_56z c_56 => ?_) (fun c_57z c_57 => ?_)
                      · exact dOk_some (show (q = q) from rfl)
                      · refine dOk_eq (A := Int32.toInt p1) (B := 11) rfl (by decide) (fun c_59z c_59 => ?_) (fun c_60z c_60 => ?_)
                        · exact dOk_some (show (q = q) from rfl)
                        · refine dOk_eq (A := Int32.toInt p1) (B := 12) rfl (by decide) (fun c_62z c_62 => ?_) (fun c_63z c_63 => ?_)
                          · have f_65 : -1 ≤ Int32.toInt (q.1 2 32) ∧ Int32.toInt (q.1 2 32) ≤ 5 := hT.1 2 32
                            have f_66 : 0 ≤ Int32.toInt (q.1 2 31) ∧ Int32.toInt (q.1 2 31) ≤ 6 := hT.1 2 31
                            have k_67 : Int32.toInt (q.1 2 32) < Int32.toInt (q.1 2 31) := hT.2.1.1
                            exact dOk_some (show (q = q) from rfl)
                          · refine dOk_eq (A := Int32.toInt p1) (B := 13) rfl (by decide) (fun c_68z c_68 => ?_) (fun c_69z c_69 => ?_)
                            · try have t_71 : Int32.toInt (p1 - 13) = Int32.toInt p1 - 13 := ti_sub rfl (by decide) (by omega) (by omega)
                              refine dOk_V (ok_termAt (p1 - 13)) (fun r_72 h_73 => ?_)
                              have h_73 : ((Int32.toInt (p1 - 13) = 0 ∧ Int32.toInt r_72 = 13) ∨ (Int32.toInt (p1 - 13) = 1 ∧ Int32.toInt r_72 = 26) ∨ (Int32.toInt (p1 - 13) = 2 ∧ Int32.toInt r_72 = 27) ∨ (¬ Int32.toInt (p1 - 13) = 0 ∧ ¬ Int32.toInt (p1 - 13) = 1 ∧ ¬ Int32.toInt (p1 - 13) = 2 ∧ Int32.toInt r_72 = 28)) := h_73
                              have i_74 := h_73
                              refine dOk_G (dg_ok (show 0 ≤ Int32.toInt r_72 by omega) (show Int32.toInt r_72 < ((5640 : Nat) : Int) by omega)) ?_
                              have n_75 : ((Int32.toNatClampNeg r_72 : Nat) : Int) = Int32.toInt r_72 := cl_eq (by omega)
                              refine dOk_L (fun v_76 ev_76 => ?_)
                              try have g_77 : klo (Int32.toNatClampNeg r_72) ≤ Int32.toInt v_76 ∧ Int32.toInt v_76 ≤ khi (Int32.toNatClampNeg r_72) := by rw [ev_76]; exact te_k hT _
                              try have f_78 : 0 ≤ Int32.toInt v_76 ∧ Int32.toInt v_76 ≤ 5 := by rw [ev_76]; exact te_2r hT (by omega) (by omega)
                              try have f_79 : 0 ≤ Int32.toInt v_76 ∧ Int32.toInt v_76 ≤ 1 := by rw [ev_76]; exact te_2h hT (by omega) (by omega)
                              try have f_80 : 0 ≤ Int32.toInt v_76 ∧ Int32.toInt v_76 ≤ 5 := by rw [ev_76]; exact te_2s hT (by omega) (by omega)
                              try have f_81 : 0 ≤ Int32.toInt v_76 ∧ Int32.toInt v_76 ≤ 400 := by rw [ev_76]; exact te_2z hT (by omega) (by omega)
                              exact dOk_some (show (q = q) from rfl)
                            · refine dOk_eq (A := Int32.toInt p1) (B := 14) rfl (by decide) (fun c_82z c_82 => ?_) (fun c_83z c_83 => ?_)
                              · try have t_85 : Int32.toInt (p1 - 13) = Int32.toInt p1 - 13 := ti_sub rfl (by decide) (by omega) (by omega)
                                refine dOk_V (ok_termAt (p1 - 13)) (fun r_86 h_87 => ?_)
                                have h_87 : ((Int32.toInt (p1 - 13) = 0 ∧ Int32.toInt r_86 = 13) ∨ (Int32.toInt (p1 - 13) = 1 ∧ Int32.toInt r_86 = 26) ∨ (Int32.toInt (p1 - 13) = 2 ∧ Int32.toInt r_86 = 27) ∨ (¬ Int32.toInt (p1 - 13) = 0 ∧ ¬ Int32.toInt (p1 - 13) = 1 ∧ ¬ Int32.toInt (p1 - 13) = 2 ∧ Int32.toInt r_86 = 28)) := h_87
                                have i_88 := h_87
                                refine dOk_G (dg_ok (show 0 ≤ Int32.toInt r_86 by omega) (show Int32.toInt r_86 < ((5640 : Nat) : Int) by omega)) ?_
                                have n_89 : ((Int32.toNatClampNeg r_86 : Nat) : Int) = Int32.toInt r_86 := cl_eq (by omega)
                                refine dOk_L (fun v_90 ev_90 => ?_)
                                try have g_91 : klo (Int32.toNatClampNeg r_86) ≤ Int32.toInt v_90 ∧ Int32.toInt v_90 ≤ khi (Int32.toNatClampNeg r_86) := by rw [ev_90]; exact te_k hT _
                                try have f_92 : 0 ≤ Int32.toInt v_90 ∧ Int32.toInt v_90 ≤ 5 := by rw [ev_90]; exact te_2r hT (by omega) (by omega)
                                try have f_93 : 0 ≤ Int32.toInt v_90 ∧ Int32.toInt v_90 ≤ 1 := by rw [ev_90]; exact te_2h hT (by omega) (by omega)
                                try have f_94 : 0 ≤ Int32.toInt v_90 ∧ Int32.toInt v_90 ≤ 5 := by rw [ev_90]; exact te_2s hT (by omega) (by omega)
                                try have f_95 : 0 ≤ Int32.toInt v_90 ∧ Int32.toInt v_90 ≤ 400 := by rw [ev_90]; exact te_2z hT (by omega) (by omega)
                                exact dOk_some (show (q = q) from rfl)
                              · refine dOk_eq (A := Int32.toInt p1) (B := 15) rfl (by decide) (fun c_96z c_96 => ?_) (fun c_97z c_97 => ?_)
                                · try have t_99 : Int32.toInt (p1 - 13) = Int32.toInt p1 - 13 := ti_sub rfl (by decide) (by omega) (by omega)
                                  refine dOk_V (ok_termAt (p1 - 13)) (fun r_100 h_101 => ?_)
                                  have h_101 : ((Int32.toInt (p1 - 13) = 0 ∧ Int32.toInt r_100 = 13) ∨ (Int32.toInt (p1 - 13) = 1 ∧ Int32.toInt r_100 = 26) ∨ (Int32.toInt (p1 - 13) = 2 ∧ Int32.toInt r_100 = 27) ∨ (¬ Int32.toInt (p1 - 13) = 0 ∧ ¬ Int32.toInt (p1 - 13) = 1 ∧ ¬ Int32.toInt (p1 - 13) = 2 ∧ Int32.toInt r_100 = 28)) := h_101
                                  have i_102 := h_101
                                  refine dOk_G (dg_ok (show 0 ≤ Int32.toInt r_100 by omega) (show Int32.toInt r_100 < ((5640 : Nat) : Int) by omega)) ?_
                                  have n_103 : ((Int32.toNatClampNeg r_100 : Nat) : Int) = Int32.toInt r_100 := cl_eq (by omega)
                                  refine dOk_L (fun v_104 ev_104 => ?_)
                                  try have g_105 : klo (Int32.toNatClampNeg r_100) ≤ Int32.toInt v_104 ∧ Int32.toInt v_104 ≤ khi (Int32.toNatClampNeg r_100) := by rw [ev_104]; exact te_k hT _
                                  try have f_106 : 0 ≤ Int32.toInt v_104 ∧ Int32.toInt v_104 ≤ 5 := by rw [ev_104]; exact te_2r hT (by omega) (by omega)
                                  try have f_107 : 0 ≤ Int32.toInt v_104 ∧ Int32.toInt v_104 ≤ 1 := by rw [ev_104]; exact te_2h hT (by omega) (by omega)
                                  try have f_108 : 0 ≤ Int32.toInt v_104 ∧ Int32.toInt v_104 ≤ 5 := by rw [ev_104]; exact te_2s hT (by omega) (by omega)
                                  try have f_109 : 0 ≤ Int32.toInt v_104 ∧ Int32.toInt v_104 ≤ 400 := by rw [ev_104]; exact te_2z hT (by omega) (by omega)
                                  exact dOk_some (show (q = q) from rfl)
                                · refine dOk_eq (A := Int32.toInt p1) (B := 16) rfl (by decide) (fun c_110z c_110 => ?_) (fun c_111z c_111 => ?_)
                                  · try have t_113 : Int32.toInt (p1 - 13) = Int32.toInt p1 - 13 := ti_sub rfl (by decide) (by omega) (by omega)
                                    refine dOk_V (ok_termAt (p1 - 13)) (fun r_114 h_115 => ?_)
                                    have h_115 : ((Int32.toInt (p1 - 13) = 0 ∧ Int32.toInt r_114 = 13) ∨ (Int32.toInt (p1 - 13) = 1 ∧ Int32.toInt r_114 = 26) ∨ (Int32.toInt (p1 - 13) = 2 ∧ Int32.toInt r_114 = 27) ∨ (¬ Int32.toInt (p1 - 13) = 0 ∧ ¬ Int32.toInt (p1 - 13) = 1 ∧ ¬ Int32.toInt (p1 - 13) = 2 ∧ Int32.toInt r_114 = 28)) := h_115
                                    have i_116 := h_115
                                    refine dOk_G (dg_ok (show 0 ≤ Int32.toInt r_114 by omega) (show Int32.toInt r_114 < ((5640 : Nat) : Int) by omega)) ?_
                                    have n_117 : ((Int32.toNatClampNeg r_114 : Nat) : Int) = Int32.toInt r_114 := cl_eq (by omega)
                                    refine dOk_L (fun v_118 ev_118 => ?_)
                                    try have g_119 : klo (Int32.toNatClampNeg r_114) ≤ Int32.toInt v_118 ∧ Int32.toInt v_118 ≤ khi (Int32.toNatClampNeg r_114) := by rw [ev_118]; exact te_k hT _
                                    try have f_120 : 0 ≤ Int32.toInt v_118 ∧ Int32.toInt v_118 ≤ 5 := by rw [ev_118]; exact te_2r hT (by omega) (by omega)
                                    try have f_121 : 0 ≤ Int32.toInt v_118 ∧ Int32.toInt v_118 ≤ 1 := by rw [ev_118]; exact te_2h hT (by omega) (by omega)
                                    try have f_122 : 0 ≤ Int32.toInt v_118 ∧ Int32.toInt v_118 ≤ 5 := by rw [ev_118]; exact te_2s hT (by omega) (by omega)
                                    try have f_123 : 0 ≤ Int32.toInt v_118 ∧ Int32.toInt v_118 ≤ 400 := by rw [ev_118]; exact te_2z hT (by omega) (by omega)
                                    exact dOk_some (show (q = q) from rfl)
                                  · refine dOk_eq (A := Int32.toInt p1) (B := 17) rfl (by decide) (fun c_124z c_124 => ?_) (fun c_125z c_125 => ?_)
                                    · refine dOk_B (ok_isOrderedNow q hT) (fun r_127 q_128 h_129 => ?_)
                                      have h_129 : (q_128 = q) ∧ ((Int32.toInt r_127 = 0 ∨ Int32.toInt r_127 = 1)) := h_129
                                      obtain ⟨i_130, i_131⟩ := h_129
                                      subst q_128
                                      refine dOk_eq (A := Int32.toInt r_127) (B := 0) rfl (by decide) (fun c_132z c_132 => ?_) (fun c_133z c_133 => ?_)
                                      · unfold zX10_count_190
                                        have l_135 : Int32.toInt 0 = 0 := by decide
                                        exact dOk_some (show (q = q) from rfl)
                                      · unfold zX10_count_190
                                        have l_136 : Int32.toInt 1 = 1 := by decide
                                        exact dOk_some (show (q = q) from rfl)
                                    · have l_137 : Int32.toInt (-1) = (-1) := by decide
                                      exact dOk_some (show (q = q) from rfl)
