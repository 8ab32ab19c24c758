set_option maxHeartbeats 4000000 in
set_option maxRecDepth 100000 in
theorem ok_reach (q : dS) (hT : TS q) : dOk (zX10_reach q) (fun (o : Int32 × dS) => (TS o.2) ∧ (dFr [12, 16, 17, 18, 19, 20, 21, 23] [22, 23, 24, 25, 37, 38] q o.2)) := by
  unfold zX10_reach
  refine dOk_B (ok_laysReach q hT) (fun r_1 q_2 h_3 => ?_)
  replace h_3 : (TS q_2) ∧ (dFr [12, 16, 17, 18, 19, 20, 21, 23] [22, 23, 24, 25, 37, 38] q q_2) ∧ (Int32.toInt (q_2.1 0 37) = facI (Int32.toInt (q.1 2 29))) ∧ (Int32.toInt (q_2.1 0 38) = powI (Int32.toInt (q.1 2 29))) := h_3
  obtain ⟨i_4, i_5, i_6, i_7⟩ := h_3
  have hFq_2 : dFr [12, 16, 17, 18, 19, 20, 21, 23] [22, 23, 24, 25, 37, 38] q q_2 := (dFr.rf (q := q)).t i_5 (by decide) (by decide)
  have f_8 : 0 ≤ Int32.toInt (q_2.1 0 37) ∧ Int32.toInt (q_2.1 0 37) ≤ 720 := i_4.1 0 37
  have f_9 : 0 ≤ Int32.toInt (q.1 2 29) ∧ Int32.toInt (q.1 2 29) ≤ 6 := hT.1 2 29
  have f_10 : 0 ≤ Int32.toInt (q_2.1 0 38) ∧ Int32.toInt (q_2.1 0 38) ≤ 64 := i_4.1 0 38
  exact dOk_some (show (TS q_2) ∧ (dFr [12, 16, 17, 18, 19, 20, 21, 23] [22, 23, 24, 25, 37, 38] q q_2) from ⟨i_4, hFq_2⟩)

set_option maxHeartbeats 4000000 in
set_option maxRecDepth 100000 in
theorem ok_comes (q : dS) (p1 : Int32) (hT : TS q) : dOk (zX10_comes q p1) (fun (o : Int32 × dS) => (TS o.2) ∧ (dFr [12, 16, 17, 18, 19, 20, 21, 23] [22, 23, 24, 25, 37, 38] q o.2)) := by
  unfold zX10_comes
  refine dOk_B (ok_isOrder q p1 hT) (fun r_1 q_2 h_3 => ?_)
  replace h_3 : (TS q_2) ∧ (dFr [19] [] q q_2) ∧ ((Int32.toInt r_1 = 0 ∨ Int32.toInt r_1 = 1)) := h_3
  obtain ⟨i_4, i_5, i_6⟩ := h_3
  have hFq_2 : dFr [12, 16, 17, 18, 19, 20, 21, 23] [22, 23, 24, 25, 37, 38] q q_2 := (dFr.rf (q := q)).t i_5 (by decide) (by decide)
  refine dOk_eq (A := Int32.toInt r_1) (B := 0) rfl (by decide) (fun c_7z c_7 => ?_) (fun c_8z c_8 => ?_)
  · exact dOk_some (show (TS q_2) ∧ (dFr [12, 16, 17, 18, 19, 20, 21, 23] [22, 23, 24, 25, 37, 38] q q_2) from ⟨i_4, hFq_2⟩)
  · refine dOk_B (ok_numberOf q_2 i_4) (fun r_10 q_11 h_12 => ?_)
    replace h_12 : (q_11 = q_2) ∧ (NB (Int32.toInt (q_2.1 2 29)) (Int32.toInt (q_2.1 2 29)) (Int32.toInt r_10)) ∧ (0 ≤ Int32.toInt r_10 ∧ Int32.toInt r_10 ≤ 719) := h_12
    obtain ⟨i_13, i_14, i_15⟩ := h_12
    subst q_11
    have f_16 : 0 ≤ Int32.toInt (q_2.1 2 29) ∧ Int32.toInt (q_2.1 2 29) ≤ 6 := i_4.1 2 29
    have f_17 : 0 ≤ Int32.toInt (q.1 2 29) ∧ Int32.toInt (q.1 2 29) ≤ 6 := hT.1 2 29
    have w_18 : Int32.toInt (q_2.1 2 29) = Int32.toInt (q.1 2 29) := by rw [i_5.1 2 (by decide) (by decide)]
    refine dOk_B (ok_laysReach q_2 i_4) (fun r_19 q_20 h_21 => ?_)
    replace h_21 : (TS q_20) ∧ (dFr [12, 16, 17, 18, 19, 20, 21, 23] [22, 23, 24, 25, 37, 38] q_2 q_20) ∧ (Int32.toInt (q_20.1 0 37) = facI (Int32.toInt (q_2.1 2 29))) ∧ (Int32.toInt (q_20.1 0 38) = powI (Int32.toInt (q_2.1 2 29))) := h_21
    obtain ⟨i_22, i_23, i_24, i_25⟩ := h_21
    have hFq_20 : dFr [12, 16, 17, 18, 19, 20, 21, 23] [22, 23, 24, 25, 37, 38] q q_20 := hFq_2.t i_23 (by decide) (by decide)
    have f_26 : 0 ≤ Int32.toInt (q_20.1 0 37) ∧ Int32.toInt (q_20.1 0 37) ≤ 720 := i_22.1 0 37
    have f_27 : 0 ≤ Int32.toInt (q_20.1 0 38) ∧ Int32.toInt (q_20.1 0 38) ≤ 64 := i_22.1 0 38
    unfold zX10_comes_26
    refine dFix_ok (fun (a : dS × Int32 × Int32 × Int32) => (a.1 = q_20) ∧ (a.2.1 = r_10) ∧ (0 ≤ Int32.toInt a.2.2.2) ∧ (Int32.toInt a.2.2.2 ≤ 64)) (fun (a : dS × Int32 × Int32 × Int32) => (64 - Int32.toInt a.2.2.2).toNat) ?_ _ ?_ _ (dF_gt ?_)
    · intro a ha k_29 hk_28
      obtain ⟨q_30, x2_31, x3_32, x4_33⟩ := a
      replace ha : (q_30 = q_20) ∧ (x2_31 = r_10) ∧ (0 ≤ Int32.toInt x4_33) ∧ (Int32.toInt x4_33 ≤ 64) := ha
      obtain ⟨a_34, a_35, a_36, a_37⟩ := ha
      show dOk (zX10_comes_26b  (fun q x2 x3 x4 => k_29 (q, x2, x3, x4)) q_30 x2_31 x3_32 x4_33) _
      unfold zX10_comes_26b
      subst q_30
      subst x2_31
      refine dOk_le (A := Int32.toInt (q_20.1 0 38)) (B := Int32.toInt x4_33) rfl rfl (fun c_38 => ?_) (fun c_39 => ?_)
      · refine dOk_eq (A := Int32.toInt x3_32) (B := 1000000) rfl (by decide) (fun c_40z c_40 => ?_) (fun c_41z c_41 => ?_)
        · unfold zX10_comes_69
          exact dOk_some (show (TS q_20) ∧ (dFr [12, 16, 17, 18, 19, 20, 21, 23] [22, 23, 24, 25, 37, 38] q q_20) from ⟨i_22, hFq_20⟩)
        · unfold zX10_comes_69
          exact dOk_some (show (TS q_20) ∧ (dFr [12, 16, 17, 18, 19, 20, 21, 23] [22, 23, 24, 25, 37, 38] q q_20) from ⟨i_22, hFq_20⟩)
      · try have t_43 : Int32.toInt (64 * r_10) = 64 * Int32.toInt r_10 := ti_mul (by decide) rfl (by omega) (by omega)
        try have t_44 : Int32.toInt (64 * r_10 + x4_33) = Int32.toInt (64 * r_10) + Int32.toInt x4_33 := ti_add rfl rfl (by omega) (by omega)
        refine dOk_G (dg_ok (show 0 ≤ Int32.toInt (64 * r_10 + x4_33) by omega) (show Int32.toInt (64 * r_10 + x4_33) < ((46080 : Nat) : Int) by omega)) ?_
        have n_45 : ((Int32.toNatClampNeg (64 * r_10 + x4_33) : Nat) : Int) = Int32.toInt (64 * r_10 + x4_33) := cl_eq (by omega)
        refine dOk_L (fun v_46 ev_46 => ?_)
        have f_47 : 0 ≤ Int32.toInt v_46 ∧ Int32.toInt v_46 ≤ 1000000 := by rw [ev_46]; exact i_22.1 21 _
        refine dOk_V (ok_lesser x3_32 v_46) (fun r_48 h_49 => ?_)
        replace h_49 : (Int32.toInt r_48 ≤ Int32.toInt x3_32 ∧ Int32.toInt r_48 ≤ Int32.toInt v_46 ∧ (Int32.toInt r_48 = Int32.toInt x3_32 ∨ Int32.toInt r_48 = Int32.toInt v_46)) := h_49
        have i_50 := h_49
        try have t_51 : Int32.toInt (x4_33 + 1) = Int32.toInt x4_33 + 1 := ti_add rfl (by decide) (by omega) (by omega)
        exact hk_28 (q_20, r_10, r_48, (x4_33 + 1)) (show (q_20 = q_20) ∧ (r_10 = r_10) ∧ (0 ≤ Int32.toInt (x4_33 + 1)) ∧ (Int32.toInt (x4_33 + 1) ≤ 64) from ⟨rfl, rfl, by omega, by omega⟩) (show (64 - Int32.toInt (x4_33 + 1)).toNat < (64 - Int32.toInt x4_33).toNat by omega)
    · exact (show (q_20 = q_20) ∧ (r_10 = r_10) ∧ (0 ≤ (0 : Int)) ∧ ((0 : Int) ≤ 64) from ⟨rfl, rfl, by omega, by omega⟩)
    · show (64 - (0 : Int)).toNat < 1000000000000
      omega

set_option maxHeartbeats 4000000 in
set_option maxRecDepth 100000 in
theorem ok_view (q : dS) (p1 : Int32) (hT : TS q) : dOk (zX10_view q p1) (fun (o : Int32 × dS) => (TS o.2) ∧ (dFr [12, 16, 17, 18, 19, 20, 21, 23] [22, 23, 24, 25, 37, 38] q o.2)) := by
  unfold zX10_view
  refine dOk_V (ok_isRank p1) (fun r_1 h_2 => ?_)
  replace h_2 : ((Int32.toInt r_1 = 1 ∧ 0 ≤ Int32.toInt p1 ∧ Int32.toInt p1 ≤ 5) ∨ (Int32.toInt r_1 = 0 ∧ (Int32.toInt p1 < 0 ∨ 5 < Int32.toInt p1))) := h_2
  have i_3 := h_2
  refine dOk_eq (A := Int32.toInt r_1) (B := 0) rfl (by decide) (fun c_4z c_4 => ?_) (fun c_5z c_5 => ?_)
  · unfold zX10_view_16
    exact dOk_some (show (TS q) ∧ (dFr [12, 16, 17, 18, 19, 20, 21, 23] [22, 23, 24, 25, 37, 38] q q) from ⟨hT, (dFr.rf (q := q))⟩)
  · refine dOk_B (ok_placeOf q p1 hT) (fun r_7 q_8 h_9 => ?_)
    replace h_9 : (q_8 = q) ∧ (-1 ≤ Int32.toInt r_7 ∧ Int32.toInt r_7 ≤ 5) := h_9
    obtain ⟨i_10, i_11⟩ := h_9
    subst q_8
    refine dOk_eq (A := Int32.toInt r_7) (B := (-1)) rfl (by decide) (fun c_12z c_12 => ?_) (fun c_13z c_13 => ?_)
    · unfold zX10_view_16
      exact dOk_some (show (TS q) ∧ (dFr [12, 16, 17, 18, 19, 20, 21, 23] [22, 23, 24, 25, 37, 38] q q) from ⟨hT, (dFr.rf (q := q))⟩)
    · refine dOk_B (ok_laysReach q hT) (fun r_15 q_16 h_17 => ?_)
      replace h_17 : (TS q_16) ∧ (dFr [12, 16, 17, 18, 19, 20, 21, 23] [22, 23, 24, 25, 37, 38] q q_16) ∧ (Int32.toInt (q_16.1 0 37) = facI (Int32.toInt (q.1 2 29))) ∧ (Int32.toInt (q_16.1 0 38) = powI (Int32.toInt (q.1 2 29))) := h_17
      obtain ⟨i_18, i_19, i_20, i_21⟩ := h_17
      have hFq_16 : dFr [12, 16, 17, 18, 19, 20, 21, 23] [22, 23, 24, 25, 37, 38] q q_16 := (dFr.rf (q := q)).t i_19 (by decide) (by decide)
      have f_22 : 0 ≤ Int32.toInt (q_16.1 0 37) ∧ Int32.toInt (q_16.1 0 37) ≤ 720 := i_18.1 0 37
      have f_23 : 0 ≤ Int32.toInt (q.1 2 29) ∧ Int32.toInt (q.1 2 29) ≤ 6 := hT.1 2 29
      have f_24 : 0 ≤ Int32.toInt (q_16.1 0 38) ∧ Int32.toInt (q_16.1 0 38) ≤ 64 := i_18.1 0 38
      unfold zX10_view_28
      refine dFix_ok (fun (a : dS × Int32 × Int32 × Int32) => (a.1 = q_16) ∧ (a.2.1 = p1) ∧ (0 ≤ Int32.toInt a.2.2.2) ∧ (Int32.toInt a.2.2.2 ≤ 46080)) (fun (a : dS × Int32 × Int32 × Int32) => (46080 - Int32.toInt a.2.2.2).toNat) ?_ _ ?_ _ (dF_gt ?_)
      · intro a ha k_26 hk_25
        obtain ⟨q_27, x1_28, x2_29, x3_30⟩ := a
        replace ha : (q_27 = q_16) ∧ (x1_28 = p1) ∧ (0 ≤ Int32.toInt x3_30) ∧ (Int32.toInt x3_30 ≤ 46080) := ha
        obtain ⟨a_31, a_32, a_33, a_34⟩ := ha
        show dOk (zX10_view_28b  (fun q x1 x2 x3 => k_26 (q, x1, x2, x3)) q_27 x1_28 x2_29 x3_30) _
        unfold zX10_view_28b
        subst q_27
        subst x1_28
        try have t_35 : Int32.toInt (64 * q_16.1 0 37) = 64 * Int32.toInt (q_16.1 0 37) := ti_mul (by decide) rfl (by omega) (by omega)
        refine dOk_le (A := Int32.toInt (64 * q_16.1 0 37)) (B := Int32.toInt x3_30) rfl rfl (fun c_36 => ?_) (fun c_37 => ?_)
        · refine dOk_eq (A := Int32.toInt x2_29) (B := 1000000) rfl (by decide) (fun c_38z c_38 => ?_) (fun c_39z c_39 => ?_)
          · unfold zX10_view_95
            exact dOk_some (show (TS q_16) ∧ (dFr [12, 16, 17, 18, 19, 20, 21, 23] [22, 23, 24, 25, 37, 38] q q_16) from ⟨i_18, hFq_16⟩)
          · unfold zX10_view_95
            exact dOk_some (show (TS q_16) ∧ (dFr [12, 16, 17, 18, 19, 20, 21, 23] [22, 23, 24, 25, 37, 38] q q_16) from ⟨i_18, hFq_16⟩)
        · refine dOk_B (ok_isThere q_16 x3_30 i_18 (show 0 ≤ Int32.toInt x3_30 by omega)) (fun r_41 q_42 h_43 => ?_)
          replace h_43 : (q_42 = q_16) ∧ ((Int32.toInt r_41 = 0 ∨ Int32.toInt r_41 = 1)) := h_43
          obtain ⟨i_44, i_45⟩ := h_43
          subst q_42
          refine dOk_eq (A := Int32.toInt r_41) (B := 0) rfl (by decide) (fun c_46z c_46 => ?_) (fun c_47z c_47 => ?_)
          · unfold zX10_view_78
            try have t_49 : Int32.toInt (x3_30 + 1) = Int32.toInt x3_30 + 1 := ti_add rfl (by decide) (by omega) (by omega)
            exact hk_25 (q_16, p1, x2_29, (x3_30 + 1)) (show (q_16 = q_16) ∧ (p1 = p1) ∧ (0 ≤ Int32.toInt (x3_30 + 1)) ∧ (Int32.toInt (x3_30 + 1) ≤ 46080) from ⟨rfl, rfl, by omega, by omega⟩) (show (46080 - Int32.toInt (x3_30 + 1)).toNat < (46080 - Int32.toInt x3_30).toNat by omega)
          · try have t_50 : Int32.toInt (x3_30 / 64) = Int32.toInt x3_30 / 64 := ti_div rfl (by decide) (by omega) (by omega)
            try have t_51 : Int32.toInt (6 * (x3_30 / 64)) = 6 * Int32.toInt (x3_30 / 64) := ti_mul (by decide) rfl (by omega) (by omega)
            refine dOk_G (dg_ok (show 0 ≤ Int32.toInt (6 * (x3_30 / 64)) by omega) (show Int32.toInt (6 * (x3_30 / 64)) < ((4320 : Nat) : Int) by omega)) ?_
            have n_52 : ((Int32.toNatClampNeg (6 * (x3_30 / 64)) : Nat) : Int) = Int32.toInt (6 * (x3_30 / 64)) := cl_eq (by omega)
            refine dOk_L (fun v_53 ev_53 => ?_)
            have f_54 : 0 ≤ Int32.toInt v_53 ∧ Int32.toInt v_53 ≤ 5 := by rw [ev_53]; exact i_18.1 16 _
            refine dOk_B (ok_lessThan q_16 p1 i_18) (fun r_55 q_56 h_57 => ?_)
            replace h_57 : (q_56 = q_16) ∧ (0 ≤ Int32.toInt r_55 ∧ Int32.toInt r_55 ≤ 6) := h_57
            obtain ⟨i_58, i_59⟩ := h_57
            subst q_56
            refine dOk_eq (A := Int32.toInt v_53) (B := Int32.toInt r_55) rfl rfl (fun c_60z c_60 => ?_) (fun c_61z c_61 => ?_)
            · refine dOk_G (dg_ok (show 0 ≤ Int32.toInt x3_30 by omega) (show Int32.toInt x3_30 < ((46080 : Nat) : Int) by omega)) ?_
              have n_63 : ((Int32.toNatClampNeg x3_30 : Nat) : Int) = Int32.toInt x3_30 := cl_eq (by omega)
              refine dOk_L (fun v_64 ev_64 => ?_)
              have f_65 : 0 ≤ Int32.toInt v_64 ∧ Int32.toInt v_64 ≤ 1000000 := by rw [ev_64]; exact i_18.1 21 _
              refine dOk_V (ok_lesser x2_29 v_64) (fun r_66 h_67 => ?_)
              replace h_67 : (Int32.toInt r_66 ≤ Int32.toInt x2_29 ∧ Int32.toInt r_66 ≤ Int32.toInt v_64 ∧ (Int32.toInt r_66 = Int32.toInt x2_29 ∨ Int32.toInt r_66 = Int32.toInt v_64)) := h_67
              have i_68 := h_67
              unfold zX10_view_78
              try have t_69 : Int32.toInt (x3_30 + 1) = Int32.toInt x3_30 + 1 := ti_add rfl (by decide) (by omega) (by omega)
              exact hk_25 (q_16, p1, r_66, (x3_30 + 1)) (show (q_16 = q_16) ∧ (p1 = p1) ∧ (0 ≤ Int32.toInt (x3_30 + 1)) ∧ (Int32.toInt (x3_30 + 1) ≤ 46080) from ⟨rfl, rfl, by omega, by omega⟩) (show (46080 - Int32.toInt (x3_30 + 1)).toNat < (46080 - Int32.toInt x3_30).toNat by omega)
            · unfold zX10_view_78
              try have t_70 : Int32.toInt (x3_30 + 1) = Int32.toInt x3_30 + 1 := ti_add rfl (by decide) (by omega) (by omega)
              exact hk_25 (q_16, p1, x2_29, (x3_30 + 1)) (show (q_16 = q_16) ∧ (p1 = p1) ∧ (0 ≤ Int32.toInt (x3_30 + 1)) ∧ (Int32.toInt (x3_30 + 1) ≤ 46080) from ⟨rfl, rfl, by omega, by omega⟩) (show (46080 - Int32.toInt (x3_30 + 1)).toNat < (46080 - Int32.toInt x3_30).toNat by omega)
      · exact (show (q_16 = q_16) ∧ (p1 = p1) ∧ (0 ≤ (0 : Int)) ∧ ((0 : Int) ≤ 46080) from ⟨rfl, rfl, by omega, by omega⟩)
      · show (46080 - (0 : Int)).toNat < 1000000000000
        omega
