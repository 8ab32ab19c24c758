set_option maxHeartbeats 4000000 in
set_option maxRecDepth 100000 in
theorem ok_many (q : dS) (hT : TS q) : dOk (zX10_many q) (fun (o : Int32 × dS) => (TS o.2) ∧ (dFr [12, 16, 17, 18, 19, 20, 21, 22, 23] [22, 23, 24, 25, 37, 38] q o.2)) := by
  unfold zX10_many
  refine dOk_V (ok_laysDist q hT) (fun q_1 h_2 => ?_)
  replace h_2 : (TS q_1) ∧ (dFr [12, 16, 17, 18, 19, 20, 21, 22, 23] [22, 23, 24, 25, 37, 38] q q_1) ∧ (Int32.toInt (q_1.1 0 37) = facI (Int32.toInt (q.1 2 29))) ∧ (Int32.toInt (q_1.1 0 38) = powI (Int32.toInt (q.1 2 29))) := h_2
  obtain ⟨i_3, i_4, i_5, i_6⟩ := h_2
  have hFq_1 : dFr [12, 16, 17, 18, 19, 20, 21, 22, 23] [22, 23, 24, 25, 37, 38] q q_1 := (dFr.rf (q := q)).t i_4 (by decide) (by decide)
  have f_7 : 0 ≤ Int32.toInt (q_1.1 0 37) ∧ Int32.toInt (q_1.1 0 37) ≤ 720 := i_3.1 0 37
  have f_8 : 0 ≤ Int32.toInt (q.1 2 29) ∧ Int32.toInt (q.1 2 29) ≤ 6 := hT.1 2 29
  have f_9 : 0 ≤ Int32.toInt (q_1.1 0 38) ∧ Int32.toInt (q_1.1 0 38) ≤ 64 := i_3.1 0 38
  refine dOk_B (ok_towerNow q_1 i_3) (fun r_10 q_11 h_12 => ?_)
  replace h_12 : (TS q_11) ∧ (dFr [19] [] q_1 q_11) ∧ (0 ≤ Int32.toInt r_10 ∧ Int32.toInt r_10 ≤ 46079) ∧ (Int32.toInt r_10 < 64 * facI (Int32.toInt (q_1.1 2 29))) := h_12
  obtain ⟨i_13, i_14, i_15, i_16⟩ := h_12
  have hFq_11 : dFr [12, 16, 17, 18, 19, 20, 21, 22, 23] [22, 23, 24, 25, 37, 38] q q_11 := hFq_1.t i_14 (by decide) (by decide)
  have f_17 : 0 ≤ Int32.toInt (q_1.1 2 29) ∧ Int32.toInt (q_1.1 2 29) ≤ 6 := i_3.1 2 29
  have w_18 : Int32.toInt (q_1.1 2 29) = Int32.toInt (q.1 2 29) := by rw [i_4.1 2 (by decide) (by decide)]
  refine dOk_G (dg_ok (show 0 ≤ Int32.toInt r_10 by omega) (show Int32.toInt r_10 < ((46080 : Nat) : Int) by omega)) ?_
  have n_19 : ((Int32.toNatClampNeg r_10 : Nat) : Int) = Int32.toInt r_10 := cl_eq (by omega)
  refine dOk_L (fun v_20 ev_20 => ?_)
  exact dOk_some (show (TS q_11) ∧ (dFr [12, 16, 17, 18, 19, 20, 21, 22, 23] [22, 23, 24, 25, 37, 38] q q_11) from ⟨i_13, hFq_11⟩)

set_option maxHeartbeats 4000000 in
set_option maxRecDepth 100000 in
theorem ok_worst (q : dS) (p1 : Int32) (hT : TS q) : dOk (zX10_worst q p1) (fun (o : Int32 × dS) => (TS o.2) ∧ (dFr [12, 16, 17, 18, 19, 20, 21, 22, 23] [22, 23, 24, 25, 37, 38] q o.2)) := by
  unfold zX10_worst
  refine dOk_V (ok_lies p1 0 2) (fun r_1 h_2 => ?_)
  replace h_2 : ((Int32.toInt r_1 = 1 ∧ (0 : Int) ≤ Int32.toInt p1 ∧ Int32.toInt p1 ≤ (2 : Int)) ∨ (Int32.toInt r_1 = 0 ∧ (Int32.toInt p1 < (0 : Int) ∨ (2 : Int) < Int32.toInt p1))) := h_2
  have i_3 := h_2
  refine dOk_eq (A := Int32.toInt r_1) (B := 0) rfl (by decide) (fun c_4z c_4 => ?_) (fun c_5z c_5 => ?_)
  · exact dOk_some (show (TS q) ∧ (dFr [12, 16, 17, 18, 19, 20, 21, 22, 23] [22, 23, 24, 25, 37, 38] q q) from ⟨hT, (dFr.rf (q := q))⟩)
  · refine dOk_V (ok_laysDist q hT) (fun q_7 h_8 => ?_)
    replace h_8 : (TS q_7) ∧ (dFr [12, 16, 17, 18, 19, 20, 21, 22, 23] [22, 23, 24, 25, 37, 38] q q_7) ∧ (Int32.toInt (q_7.1 0 37) = facI (Int32.toInt (q.1 2 29))) ∧ (Int32.toInt (q_7.1 0 38) = powI (Int32.toInt (q.1 2 29))) := h_8
    obtain ⟨i_9, i_10, i_11, i_12⟩ := h_8
    have hFq_7 : dFr [12, 16, 17, 18, 19, 20, 21, 22, 23] [22, 23, 24, 25, 37, 38] q q_7 := (dFr.rf (q := q)).t i_10 (by decide) (by decide)
    have f_13 : 0 ≤ Int32.toInt (q_7.1 0 37) ∧ Int32.toInt (q_7.1 0 37) ≤ 720 := i_9.1 0 37
    have f_14 : 0 ≤ Int32.toInt (q.1 2 29) ∧ Int32.toInt (q.1 2 29) ≤ 6 := hT.1 2 29
    have f_15 : 0 ≤ Int32.toInt (q_7.1 0 38) ∧ Int32.toInt (q_7.1 0 38) ≤ 64 := i_9.1 0 38
    unfold zX10_worst_25
    refine dFix_ok (fun (a : dS × Int32 × Int32 × Int32 × Int32 × Int32) => (a.1 = q_7) ∧ (a.2.1 = p1) ∧ (0 ≤ Int32.toInt a.2.2.2.2.2) ∧ (Int32.toInt a.2.2.2.2.2 ≤ 46080)) (fun (a : dS × Int32 × Int32 × Int32 × Int32 × Int32) => (46080 - Int32.toInt a.2.2.2.2.2).toNat) ?_ _ ?_ _ (dF_gt ?_)
    · intro a ha k_17 hk_16
      obtain ⟨q_18, x1_19, x2_20, x3_21, x4_22, x5_23⟩ := a
      replace ha : (q_18 = q_7) ∧ (x1_19 = p1) ∧ (0 ≤ Int32.toInt x5_23) ∧ (Int32.toInt x5_23 ≤ 46080) := ha
      obtain ⟨a_24, a_25, a_26, a_27⟩ := ha
      show dOk (zX10_worst_25b  (fun q x1 x2 x3 x4 x5 => k_17 (q, x1, x2, x3, x4, x5)) q_18 x1_19 x2_20 x3_21 x4_22 x5_23) _
      unfold zX10_worst_25b
      subst q_18
      subst x1_19
      try have t_28 : Int32.toInt (64 * q_7.1 0 37) = 64 * Int32.toInt (q_7.1 0 37) := ti_mul (by decide) rfl (by omega) (by omega)
      refine dOk_le (A := Int32.toInt (64 * q_7.1 0 37)) (B := Int32.toInt x5_23) rfl rfl (fun c_29 => ?_) (fun c_30 => ?_)
      · refine dOk_eq (A := Int32.toInt p1) (B := 0) rfl (by decide) (fun c_31z c_31 => ?_) (fun c_32z c_32 => ?_)
        · unfold zX10_worst_135
          exact dOk_some (show (TS q_7) ∧ (dFr [12, 16, 17, 18, 19, 20, 21, 22, 23] [22, 23, 24, 25, 37, 38] q q_7) from ⟨i_9, hFq_7⟩)
        · refine dOk_eq (A := Int32.toInt p1) (B := 1) rfl (by decide) (fun c_34z c_34 => ?_) (fun c_35z c_35 => ?_)
          · unfold zX10_worst_135
            exact dOk_some (show (TS q_7) ∧ (dFr [12, 16, 17, 18, 19, 20, 21, 22, 23] [22, 23, 24, 25, 37, 38] q q_7) from ⟨i_9, hFq_7⟩)
          · unfold zX10_worst_135
            exact dOk_some (show (TS q_7) ∧ (dFr [12, 16, 17, 18, 19, 20, 21, 22, 23] [22, 23, 24, 25, 37, 38] q q_7) from ⟨i_9, hFq_7⟩)
      · refine dOk_B (ok_isThere q_7 x5_23 i_9 (show 0 ≤ Int32.toInt x5_23 by omega)) (fun r_37 q_38 h_39 => ?_)
        replace h_39 : (q_38 = q_7) ∧ ((Int32.toInt r_37 = 0 ∨ Int32.toInt r_37 = 1)) := h_39
        obtain ⟨i_40, i_41⟩ := h_39
        subst q_38
        refine dOk_eq (A := Int32.toInt r_37) (B := 0) rfl (by decide) (fun c_42z c_42 => ?_) (fun c_43z c_43 => ?_)
        · unfold zX10_worst_110
          try have t_45 : Int32.toInt (x5_23 + 1) = Int32.toInt x5_23 + 1 := ti_add rfl (by decide) (by omega) (by omega)
          exact hk_16 (q_7, p1, x2_20, x3_21, x4_22, (x5_23 + 1)) (show (q_7 = q_7) ∧ (p1 = p1) ∧ (0 ≤ Int32.toInt (x5_23 + 1)) ∧ (Int32.toInt (x5_23 + 1) ≤ 46080) from ⟨rfl, rfl, by omega, by omega⟩) (show (46080 - Int32.toInt (x5_23 + 1)).toNat < (46080 - Int32.toInt x5_23).toNat by omega)
        · refine dOk_G (dg_ok (show 0 ≤ Int32.toInt x5_23 by omega) (show Int32.toInt x5_23 < ((46080 : Nat) : Int) by omega)) ?_
          have n_46 : ((Int32.toNatClampNeg x5_23 : Nat) : Int) = Int32.toInt x5_23 := cl_eq (by omega)
          refine dOk_L (fun v_47 ev_47 => ?_)
          have f_48 : 0 ≤ Int32.toInt v_47 ∧ Int32.toInt v_47 ≤ 1000000 := by rw [ev_47]; exact i_9.1 21 _
          refine dOk_eq (A := Int32.toInt v_47) (B := 1000000) rfl (by decide) (fun c_49z c_49 => ?_) (fun c_50z c_50 => ?_)
          · unfold zX10_worst_110
            try have t_52 : Int32.toInt (x5_23 + 1) = Int32.toInt x5_23 + 1 := ti_add rfl (by decide) (by omega) (by omega)
            exact hk_16 (q_7, p1, x2_20, x3_21, x4_22, (x5_23 + 1)) (show (q_7 = q_7) ∧ (p1 = p1) ∧ (0 ≤ Int32.toInt (x5_23 + 1)) ∧ (Int32.toInt (x5_23 + 1) ≤ 46080) from ⟨rfl, rfl, by omega, by omega⟩) (show (46080 - Int32.toInt (x5_23 + 1)).toNat < (46080 - Int32.toInt x5_23).toNat by omega)
          · refine dOk_G (dg_ok (show 0 ≤ Int32.toInt x5_23 by omega) (show Int32.toInt x5_23 < ((46080 : Nat) : Int) by omega)) ?_
            refine dOk_L (fun v_53 ev_53 => ?_)
            have w_54 : Int32.toInt v_53 = Int32.toInt v_47 := by rw [ev_53, ev_47]
            have f_55 : 0 ≤ Int32.toInt v_53 ∧ Int32.toInt v_53 ≤ 1000000 := by rw [ev_53]; exact i_9.1 21 _
            refine dOk_le (A := Int32.toInt v_53) (B := Int32.toInt x2_20) rfl rfl (fun c_56 => ?_) (fun c_57 => ?_)
            · refine dOk_G (dg_ok (show 0 ≤ Int32.toInt x5_23 by omega) (show Int32.toInt x5_23 < ((46080 : Nat) : Int) by omega)) ?_
              refine dOk_L (fun v_58 ev_58 => ?_)
              have w_59 : Int32.toInt v_58 = Int32.toInt v_47 := by rw [ev_58, ev_47]
              have f_60 : 0 ≤ Int32.toInt v_58 ∧ Int32.toInt v_58 ≤ 1000000 := by rw [ev_58]; exact i_9.1 21 _
              refine dOk_eq (A := Int32.toInt v_58) (B := Int32.toInt x2_20) rfl rfl (fun c_61z c_61 => ?_) (fun c_62z c_62 => ?_)
              · unfold zX10_worst_94
                refine dOk_G (dg_ok (show 0 ≤ Int32.toInt x5_23 by omega) (show Int32.toInt x5_23 < ((46080 : Nat) : Int) by omega)) ?_
                refine dOk_L (fun v_64 ev_64 => ?_)
                have w_65 : Int32.toInt v_64 = Int32.toInt v_47 := by rw [ev_64, ev_47]
                have f_66 : 0 ≤ Int32.toInt v_64 ∧ Int32.toInt v_64 ≤ 1000000 := by rw [ev_64]; exact i_9.1 21 _
                refine dOk_V (ok_greater x2_20 v_64) (fun r_67 h_68 => ?_)
                replace h_68 : (Int32.toInt x2_20 ≤ Int32.toInt r_67 ∧ Int32.toInt v_64 ≤ Int32.toInt r_67 ∧ (Int32.toInt r_67 = Int32.toInt x2_20 ∨ Int32.toInt r_67 = Int32.toInt v_64)) := h_68
                have i_69 := h_68
                unfold zX10_worst_110
                try have t_70 : Int32.toInt (x3_21 + 1) = Int32.toInt x3_21 + 1 := ti_add rfl (by decide) (by omega) (by omega)
                try have t_71 : Int32.toInt (x4_22 + 1) = Int32.toInt x4_22 + 1 := ti_add rfl (by decide) (by omega) (by omega)
                try have t_72 : Int32.toInt (x5_23 + 1) = Int32.toInt x5_23 + 1 := ti_add rfl (by decide) (by omega) (by omega)
                exact hk_16 (q_7, p1, r_67, (x3_21 + 1), (x4_22 + 1), (x5_23 + 1)) (show (q_7 = q_7) ∧ (p1 = p1) ∧ (0 ≤ Int32.toInt (x5_23 + 1)) ∧ (Int32.toInt (x5_23 + 1) ≤ 46080) from ⟨rfl, rfl, by omega, by omega⟩) (show (46080 - Int32.toInt (x5_23 + 1)).toNat < (46080 - Int32.toInt x5_23).toNat by omega)
              · unfold zX10_worst_94
                refine dOk_G (dg_ok (show 0 ≤ Int32.toInt x5_23 by omega) (show Int32.toInt x5_23 < ((46080 : Nat) : Int) by omega)) ?_
                refine dOk_L (fun v_73 ev_73 => ?_)
                have w_74 : Int32.toInt v_73 = Int32.toInt v_47 := by rw [ev_73, ev_47]
                have f_75 : 0 ≤ Int32.toInt v_73 ∧ Int32.toInt v_73 ≤ 1000000 := by rw [ev_73]; exact i_9.1 21 _
                refine dOk_V (ok_greater x2_20 v_73) (fun r_76 h_77 => ?_)
                replace h_77 : (Int32.toInt x2_20 ≤ Int32.toInt r_76 ∧ Int32.toInt v_73 ≤ Int32.toInt r_76 ∧ (Int32.toInt r_76 = Int32.toInt x2_20 ∨ Int32.toInt r_76 = Int32.toInt v_73)) := h_77
                have i_78 := h_77
                unfold zX10_worst_110
                try have t_79 : Int32.toInt (x4_22 + 1) = Int32.toInt x4_22 + 1 := ti_add rfl (by decide) (by omega) (by omega)
                try have t_80 : Int32.toInt (x5_23 + 1) = Int32.toInt x5_23 + 1 := ti_add rfl (by decide) (by omega) (by omega)
                exact hk_16 (q_7, p1, r_76, x3_21, (x4_22 + 1), (x5_23 + 1)) (show (q_7 = q_7) ∧ (p1 = p1) ∧ (0 ≤ Int32.toInt (x5_23 + 1)) ∧ (Int32.toInt (x5_23 + 1) ≤ 46080) from ⟨rfl, rfl, by omega, by omega⟩) (show (46080 - Int32.toInt (x5_23 + 1)).toNat < (46080 - Int32.toInt x5_23).toNat by omega)
            · unfold zX10_worst_94
              refine dOk_G (dg_ok (show 0 ≤ Int32.toInt x5_23 by omega) (show Int32.toInt x5_23 < ((46080 : Nat) : Int) by omega)) ?_
              refine dOk_L (fun v_81 ev_81 => ?_)
              have w_82 : Int32.toInt v_81 = Int32.toInt v_47 := by rw [ev_81, ev_47]
              have f_83 : 0 ≤ Int32.toInt v_81 ∧ Int32.toInt v_81 ≤ 1000000 := by rw [ev_81]; exact i_9.1 21 _
              refine dOk_V (ok_greater x2_20 v_81) (fun r_84 h_85 => ?_)
              replace h_85 : (Int32.toInt x2_20 ≤ Int32.toInt r_84 ∧ Int32.toInt v_81 ≤ Int32.toInt r_84 ∧ (Int32.toInt r_84 = Int32.toInt x2_20 ∨ Int32.toInt r_84 = Int32.toInt v_81)) := h_85
              have i_86 := h_85
              unfold zX10_worst_110
              try have t_87 : Int32.toInt (x4_22 + 1) = Int32.toInt x4_22 + 1 := ti_add rfl (by decide) (by omega) (by omega)
              try have t_88 : Int32.toInt (x5_23 + 1) = Int32.toInt x5_23 + 1 := ti_add rfl (by decide) (by omega) (by omega)
              exact hk_16 (q_7, p1, r_84, 1, (x4_22 + 1), (x5_23 + 1)) (show (q_7 = q_7) ∧ (p1 = p1) ∧ (0 ≤ Int32.toInt (x5_23 + 1)) ∧ (Int32.toInt (x5_23 + 1) ≤ 46080) from ⟨rfl, rfl, by omega, by omega⟩) (show (46080 - Int32.toInt (x5_23 + 1)).toNat < (46080 - Int32.toInt x5_23).toNat by omega)
    · exact (show (q_7 = q_7) ∧ (p1 = p1) ∧ (0 ≤ (0 : Int)) ∧ ((0 : Int) ≤ 46080) from ⟨rfl, rfl, by omega, by omega⟩)
    · show (46080 - (0 : Int)).toNat < 1000000000000
      omega
