set_option maxHeartbeats 4000000 in
set_option maxRecDepth 100000 in
theorem ok_X8_rises_s2 (q : dK) (p1 : Int32) (p2 : Int32) (hT : TC q) : dOk (zX8_rises_s2 q p1 p2) (fun (o : Int32 × dK) => (o.2 = q) ∧ ((Int32.toInt o.1 = 0 ∨ Int32.toInt o.1 = 1))) := by
  unfold zX8_rises_s2
  unfold zX8_rises_s2_5
  refine dFix_ok (fun (a : dK × Int32 × Int32 × Int32 × Int32) => (a.1 = q) ∧ (a.2.1 = p1) ∧ (a.2.2.1 = p2) ∧ (0 ≤ Int32.toInt a.2.2.2.2) ∧ (Int32.toInt a.2.2.2.2 ≤ 6)) (fun (a : dK × Int32 × Int32 × Int32 × Int32) => (6 - Int32.toInt a.2.2.2.2).toNat) ?_ _ ?_ _ (dF_gt ?_)
  · intro a ha k_2 hk_1
    obtain ⟨q_3, x1_4, x2_5, x3_6, x4_7⟩ := a
    replace ha : (q_3 = q) ∧ (x1_4 = p1) ∧ (x2_5 = p2) ∧ (0 ≤ Int32.toInt x4_7) ∧ (Int32.toInt x4_7 ≤ 6) := ha
    obtain ⟨a_8, a_9, a_10, a_11, a_12⟩ := ha
    show dOk (zX8_rises_s2_5b  (fun q x1 x2 x3 x4 => k_2 (q, x1, x2, x3, x4)) q_3 x1_4 x2_5 x3_6 x4_7) _
    unfold zX8_rises_s2_5b
    subst q_3
    subst x1_4
    subst x2_5
    have f_13 : 0 ≤ Int32.toInt (q.1 2 2) ∧ Int32.toInt (q.1 2 2) ≤ 6 := rg_2_2 hT
    refine dOk_le (A := Int32.toInt (q.1 2 2)) (B := Int32.toInt x4_7) rfl rfl (fun c_14 => ?_) (fun c_15 => ?_)
    · exact dOk_some (show (q = q) ∧ (((1 : Int) = 0 ∨ (1 : Int) = 1)) from ⟨rfl, by omega⟩)
    · try have t_16 := ti_shr (x := p1) (s := x4_7) (by omega)
      have t_17 := ti_and1 (p1 >>> ((x4_7 : Int32) &&& 31))
      refine dOk_eq (A := Int32.toInt (p1 >>> ((x4_7 : Int32) &&& 31) &&& 1)) (B := 1) rfl (by decide) (fun c_18z c_18 => ?_) (fun c_19z c_19 => ?_)
      · refine dOk_G (dg_ok (show 0 ≤ Int32.toInt x4_7 by omega) (show Int32.toInt x4_7 < ((6 : Nat) : Int) by omega)) ?_
        have n_21 : ((Int32.toNatClampNeg x4_7 : Nat) : Int) = Int32.toInt x4_7 := cl_eq (by omega)
        refine dOk_L (fun v_22 ev_22 => ?_)
        have f_23 : 0 ≤ Int32.toInt v_22 ∧ Int32.toInt v_22 ≤ 7 := by rw [ev_22]; exact rg_3 hT _
        refine dOk_lt (A := Int32.toInt v_22) (B := Int32.toInt x3_6) rfl rfl (fun c_24 => ?_) (fun c_25 => ?_)
        · unfold zX8_rises_s2_51
          exact dOk_some (show (q = q) ∧ (((0 : Int) = 0 ∨ (0 : Int) = 1)) from ⟨rfl, by omega⟩)
        · refine dOk_eq (A := Int32.toInt p2) (B := 1) rfl (by decide) (fun c_26z c_26 => ?_) (fun c_27z c_27 => ?_)
          · refine dOk_G (dg_ok (show 0 ≤ Int32.toInt x4_7 by omega) (show Int32.toInt x4_7 < ((6 : Nat) : Int) by omega)) ?_
            refine dOk_L (fun v_29 ev_29 => ?_)
            have f_30 : 0 ≤ Int32.toInt v_29 ∧ Int32.toInt v_29 ≤ 1 := by rw [ev_29]; exact rg_4 hT _
            refine dOk_eq (A := Int32.toInt v_29) (B := 1) rfl (by decide) (fun c_31z c_31 => ?_) (fun c_32z c_32 => ?_)
            · unfold zX8_rises_s2_51
              exact dOk_some (show (q = q) ∧ (((0 : Int) = 0 ∨ (0 : Int) = 1)) from ⟨rfl, by omega⟩)
            · unfold zX8_rises_s2_53
              refine dOk_G (dg_ok (show 0 ≤ Int32.toInt x4_7 by omega) (show Int32.toInt x4_7 < ((6 : Nat) : Int) by omega)) ?_
              refine dOk_L (fun v_34 ev_34 => ?_)
              have w_35 : Int32.toInt v_34 = Int32.toInt v_22 := by rw [ev_34, ev_22]
              have f_36 : 0 ≤ Int32.toInt v_34 ∧ Int32.toInt v_34 ≤ 7 := by rw [ev_34]; exact rg_3 hT _
              unfold zX8_rises_s2_61
              try have t_37 : Int32.toInt (x4_7 + 1) = Int32.toInt x4_7 + 1 := ti_add rfl (by decide) (by omega) (by omega)
              exact hk_1 (q, p1, p2, v_34, (x4_7 + 1)) (show (q = q) ∧ (p1 = p1) ∧ (p2 = p2) ∧ (0 ≤ Int32.toInt (x4_7 + 1)) ∧ (Int32.toInt (x4_7 + 1) ≤ 6) from ⟨rfl, rfl, rfl, by omega, by omega⟩) (show (6 - Int32.toInt (x4_7 + 1)).toNat < (6 - Int32.toInt x4_7).toNat by omega)
          · unfold zX8_rises_s2_53
            refine dOk_G (dg_ok (show 0 ≤ Int32.toInt x4_7 by omega) (show Int32.toInt x4_7 < ((6 : Nat) : Int) by omega)) ?_
            refine dOk_L (fun v_38 ev_38 => ?_)
            have w_39 : Int32.toInt v_38 = Int32.toInt v_22 := by rw [ev_38, ev_22]
            have f_40 : 0 ≤ Int32.toInt v_38 ∧ Int32.toInt v_38 ≤ 7 := by rw [ev_38]; exact rg_3 hT _
            unfold zX8_rises_s2_61
            try have t_41 : Int32.toInt (x4_7 + 1) = Int32.toInt x4_7 + 1 := ti_add rfl (by decide) (by omega) (by omega)
            exact hk_1 (q, p1, p2, v_38, (x4_7 + 1)) (show (q = q) ∧ (p1 = p1) ∧ (p2 = p2) ∧ (0 ≤ Int32.toInt (x4_7 + 1)) ∧ (Int32.toInt (x4_7 + 1) ≤ 6) from ⟨rfl, rfl, rfl, by omega, by omega⟩) (show (6 - Int32.toInt (x4_7 + 1)).toNat < (6 - Int32.toInt x4_7).toNat by omega)
      · unfold zX8_rises_s2_61
        try have t_42 : Int32.toInt (x4_7 + 1) = Int32.toInt x4_7 + 1 := ti_add rfl (by decide) (by omega) (by omega)
        exact hk_1 (q, p1, p2, x3_6, (x4_7 + 1)) (show (q = q) ∧ (p1 = p1) ∧ (p2 = p2) ∧ (0 ≤ Int32.toInt (x4_7 + 1)) ∧ (Int32.toInt (x4_7 + 1) ≤ 6) from ⟨rfl, rfl, rfl, by omega, by omega⟩) (show (6 - Int32.toInt (x4_7 + 1)).toNat < (6 - Int32.toInt x4_7).toNat by omega)
  · exact (show (q = q) ∧ (p1 = p1) ∧ (p2 = p2) ∧ (0 ≤ (0 : Int)) ∧ ((0 : Int) ≤ 6) from ⟨rfl, rfl, rfl, by omega, by omega⟩)
  · show (6 - (0 : Int)).toNat < 1000000000000
    omega

set_option maxHeartbeats 4000000 in
set_option maxRecDepth 100000 in
theorem ok_X8_rankBehindTurn_s2 (q : dK) (p1 : Int32) (p2 : Int32) (hT : TC q) : dOk (zX8_rankBehindTurn_s2 q p1 p2) (fun (o : Int32 × dK) => (o.2 = q)) := by
  unfold zX8_rankBehindTurn_s2
  refine dOk_le (A := Int32.toInt p1) (B := Int32.toInt p2) rfl rfl (fun c_1 => ?_) (fun c_2 => ?_)
  · unfold zX8_rankBehindTurn_s2_14
    refine dOk_B (ok_X8_isFloor_s2 q p2 hT) (fun r_3 q_4 h_5 => ?_)
    replace h_5 : (q_4 = q) ∧ ((Int32.toInt r_3 = 1 ∧ 0 ≤ Int32.toInt p2 ∧ Int32.toInt p2 < Int32.toInt (q.1 2 2)) ∨ (Int32.toInt r_3 = 0 ∧ (Int32.toInt p2 < 0 ∨ Int32.toInt (q.1 2 2) ≤ Int32.toInt p2))) := h_5
    obtain ⟨i_6, i_7⟩ := h_5
    subst q_4
    have f_8 : 0 ≤ Int32.toInt (q.1 2 2) ∧ Int32.toInt (q.1 2 2) ≤ 6 := rg_2_2 hT
    refine dOk_eq (A := Int32.toInt r_3) (B := 0) rfl (by decide) (fun c_9z c_9 => ?_) (fun c_10z c_10 => ?_)
    · unfold zX8_rankBehindTurn_s2_33
      exact dOk_some (show (q = q) from rfl)
    · refine dOk_G (dg_ok (show 0 ≤ Int32.toInt p2 by omega) (show Int32.toInt p2 < ((6 : Nat) : Int) by omega)) ?_
      have n_12 : ((Int32.toNatClampNeg p2 : Nat) : Int) = Int32.toInt p2 := cl_eq (by omega)
      refine dOk_L (fun v_13 ev_13 => ?_)
      have f_14 : 0 ≤ Int32.toInt v_13 ∧ Int32.toInt v_13 ≤ 7 := by rw [ev_13]; exact rg_3 hT _
      unfold zX8_rankBehindTurn_s2_33
      exact dOk_some (show (q = q) from rfl)
  · unfold zX8_rankBehindTurn_s2_14
    try have t_15 : Int32.toInt (p1 - 1) = Int32.toInt p1 - 1 := ti_sub rfl (by decide) (by omega) (by omega)
    try have t_16 : Int32.toInt (p1 - 1 - p2) = Int32.toInt (p1 - 1) - Int32.toInt p2 := ti_sub rfl rfl (by omega) (by omega)
    refine dOk_B (ok_X8_isFloor_s2 q (p1 - 1 - p2) hT) (fun r_17 q_18 h_19 => ?_)
    replace h_19 : (q_18 = q) ∧ ((Int32.toInt r_17 = 1 ∧ 0 ≤ Int32.toInt (p1 - 1 - p2) ∧ Int32.toInt (p1 - 1 - p2) < Int32.toInt (q.1 2 2)) ∨ (Int32.toInt r_17 = 0 ∧ (Int32.toInt (p1 - 1 - p2) < 0 ∨ Int32.toInt (q.1 2 2) ≤ Int32.toInt (p1 - 1 - p2)))) := h_19
    obtain ⟨i_20, i_21⟩ := h_19
    subst q_18
    have f_22 : 0 ≤ Int32.toInt (q.1 2 2) ∧ Int32.toInt (q.1 2 2) ≤ 6 := rg_2_2 hT
    refine dOk_eq (A := Int32.toInt r_17) (B := 0) rfl (by decide) (fun c_23z c_23 => ?_) (fun c_24z c_24 => ?_)
    · unfold zX8_rankBehindTurn_s2_33
      exact dOk_some (show (q = q) from rfl)
    · refine dOk_G (dg_ok (show 0 ≤ Int32.toInt (p1 - 1 - p2) by omega) (show Int32.toInt (p1 - 1 - p2) < ((6 : Nat) : Int) by omega)) ?_
      have n_26 : ((Int32.toNatClampNeg (p1 - 1 - p2) : Nat) : Int) = Int32.toInt (p1 - 1 - p2) := cl_eq (by omega)
      refine dOk_L (fun v_27 ev_27 => ?_)
      have f_28 : 0 ≤ Int32.toInt v_27 ∧ Int32.toInt v_27 ≤ 7 := by rw [ev_27]; exact rg_3 hT _
      unfold zX8_rankBehindTurn_s2_33
      exact dOk_some (show (q = q) from rfl)

set_option maxHeartbeats 4000000 in
set_option maxRecDepth 100000 in
theorem ok_X6_agrees_s1 (q : dK) (p1 : Int32) (hT : TC q) : dOk (zX6_agrees_s1 q p1) (fun (o : Int32 × dK) => (o.2 = q) ∧ ((Int32.toInt o.1 = 0 ∨ Int32.toInt o.1 = 1))) := by
  unfold zX6_agrees_s1
  unfold zX6_agrees_s1_2
  refine dFix_ok (fun (a : dK × Int32 × Int32) => (a.1 = q) ∧ (a.2.1 = p1) ∧ (0 ≤ Int32.toInt a.2.2) ∧ (Int32.toInt a.2.2 ≤ 6)) (fun (a : dK × Int32 × Int32) => (6 - Int32.toInt a.2.2).toNat) ?_ _ ?_ _ (dF_gt ?_)
  · intro a ha k_2 hk_1
    obtain ⟨q_3, x1_4, x2_5⟩ := a
    replace ha : (q_3 = q) ∧ (x1_4 = p1) ∧ (0 ≤ Int32.toInt x2_5) ∧ (Int32.toInt x2_5 ≤ 6) := ha
    obtain ⟨a_6, a_7, a_8, a_9⟩ := ha
    show dOk (zX6_agrees_s1_2b  (fun q x1 x2 => k_2 (q, x1, x2)) q_3 x1_4 x2_5) _
    unfold zX6_agrees_s1_2b
    subst q_3
    subst x1_4
    have f_10 : 0 ≤ Int32.toInt (q.1 1 6) ∧ Int32.toInt (q.1 1 6) ≤ 6 := rg_1_6 hT
    refine dOk_le (A := Int32.toInt (q.1 1 6)) (B := Int32.toInt x2_5) rfl rfl (fun c_11 => ?_) (fun c_12 => ?_)
    · exact dOk_some (show (q = q) ∧ (((1 : Int) = 0 ∨ (1 : Int) = 1)) from ⟨rfl, by omega⟩)
    · refine dOk_G (dg_ok (show 0 ≤ Int32.toInt x2_5 by omega) (show Int32.toInt x2_5 < ((6 : Nat) : Int) by omega)) ?_
      have n_13 : ((Int32.toNatClampNeg x2_5 : Nat) : Int) = Int32.toInt x2_5 := cl_eq (by omega)
      refine dOk_L (fun v_14 ev_14 => ?_)
      refine dOk_B (ok_X8_rankBehindTurn_s2 q p1 v_14 hT) (fun r_15 q_16 h_17 => ?_)
      replace h_17 : (q_16 = q) := h_17
      have i_18 := h_17
      subst q_16
      refine dOk_G (dg_ok (show 0 ≤ Int32.toInt x2_5 by omega) (show Int32.toInt x2_5 < ((6 : Nat) : Int) by omega)) ?_
      refine dOk_L (fun v_19 ev_19 => ?_)
      refine dOk_eq (A := Int32.toInt r_15) (B := Int32.toInt v_19) rfl rfl (fun c_20z c_20 => ?_) (fun c_21z c_21 => ?_)
      · try have t_23 : Int32.toInt (x2_5 + 1) = Int32.toInt x2_5 + 1 := ti_add rfl (by decide) (by omega) (by omega)
        exact hk_1 (q, p1, (x2_5 + 1)) (show (q = q) ∧ (p1 = p1) ∧ (0 ≤ Int32.toInt (x2_5 + 1)) ∧ (Int32.toInt (x2_5 + 1) ≤ 6) from ⟨rfl, rfl, by omega, by omega⟩) (show (6 - Int32.toInt (x2_5 + 1)).toNat < (6 - Int32.toInt x2_5).toNat by omega)
      · exact dOk_some (show (q = q) ∧ (((0 : Int) = 0 ∨ (0 : Int) = 1)) from ⟨rfl, by omega⟩)
  · exact (show (q = q) ∧ (p1 = p1) ∧ (0 ≤ (0 : Int)) ∧ ((0 : Int) ≤ 6) from ⟨rfl, rfl, by omega, by omega⟩)
  · show (6 - (0 : Int)).toNat < 1000000000000
    omega

set_option maxHeartbeats 4000000 in
set_option maxRecDepth 100000 in
theorem ok_X8_mostAlike_s2 (q : dK) (p1 : Int32) (p2 : Int32) (hT : TC q) : dOk (zX8_mostAlike_s2 q p1 p2) (fun (o : Int32 × dK) => (o.2 = q)) := by
  unfold zX8_mostAlike_s2
  unfold zX8_mostAlike_s2_5
  refine dFix_ok (fun (a : dK × Int32 × Int32 × Int32 × Int32) => (a.1 = q) ∧ (a.2.1 = p1) ∧ (a.2.2.1 = p2) ∧ (0 ≤ Int32.toInt a.2.2.2.2) ∧ (Int32.toInt a.2.2.2.2 ≤ 6)) (fun (a : dK × Int32 × Int32 × Int32 × Int32) => (6 - Int32.toInt a.2.2.2.2).toNat) ?_ _ ?_ _ (dF_gt ?_)
  · intro a ha k_2 hk_1
    obtain ⟨q_3, x1_4, x2_5, x3_6, x4_7⟩ := a
    replace ha : (q_3 = q) ∧ (x1_4 = p1) ∧ (x2_5 = p2) ∧ (0 ≤ Int32.toInt x4_7) ∧ (Int32.toInt x4_7 ≤ 6) := ha
    obtain ⟨a_8, a_9, a_10, a_11, a_12⟩ := ha
    show dOk (zX8_mostAlike_s2_5b  (fun q x1 x2 x3 x4 => k_2 (q, x1, x2, x3, x4)) q_3 x1_4 x2_5 x3_6 x4_7) _
    unfold zX8_mostAlike_s2_5b
    subst q_3
    subst x1_4
    subst x2_5
    refine dOk_le (A := 6) (B := Int32.toInt x4_7) (by decide) rfl (fun c_13 => ?_) (fun c_14 => ?_)
    · exact dOk_some (show (q = q) from rfl)
    · unfold zX8_mostAlike_s2_18
      refine dFix_ok (fun (a : dK × Int32 × Int32 × Int32 × Int32 × Int32 × Int32) => (a.1 = q) ∧ (a.2.1 = p1) ∧ (a.2.2.1 = p2) ∧ (a.2.2.2.1 = x3_6) ∧ (a.2.2.2.2.1 = x4_7) ∧ (1 ≤ Int32.toInt a.2.2.2.2.2.2) ∧ (Int32.toInt a.2.2.2.2.2.2 ≤ 7)) (fun (a : dK × Int32 × Int32 × Int32 × Int32 × Int32 × Int32) => (7 - Int32.toInt a.2.2.2.2.2.2).toNat) ?_ _ ?_ _ (dF_gt ?_)
      · intro a ha k_16 hk_15
        obtain ⟨q_17, x1_18, x2_19, x3_20, x4_21, x5_22, x6_23⟩ := a
        replace ha : (q_17 = q) ∧ (x1_18 = p1) ∧ (x2_19 = p2) ∧ (x3_20 = x3_6) ∧ (x4_21 = x4_7) ∧ (1 ≤ Int32.toInt x6_23) ∧ (Int32.toInt x6_23 ≤ 7) := ha
        obtain ⟨a_24, a_25, a_26, a_27, a_28, a_29, a_30⟩ := ha
        show dOk (zX8_mostAlike_s2_18b _ (fun q x1 x2 x3 x4 x5 x6 => k_16 (q, x1, x2, x3, x4, x5, x6)) q_17 x1_18 x2_19 x3_20 x4_21 x5_22 x6_23) _
        unfold zX8_mostAlike_s2_18b
        subst q_17
        subst x1_18
        subst x2_19
        subst x3_20
        subst x4_21
        have f_31 : 0 ≤ Int32.toInt (q.1 2 2) ∧ Int32.toInt (q.1 2 2) ≤ 6 := rg_2_2 hT
        refine dOk_lt (A := Int32.toInt (q.1 2 2)) (B := Int32.toInt x6_23) rfl rfl (fun c_32 => ?_) (fun c_33 => ?_)
        · have t_34 : Int32.toInt x3_6 ≤ Int32.toInt (mxI x3_6 x5_22) ∧ Int32.toInt x5_22 ≤ Int32.toInt (mxI x3_6 x5_22) ∧ (Int32.toInt (mxI x3_6 x5_22) = Int32.toInt x3_6 ∨ Int32.toInt (mxI x3_6 x5_22) = Int32.toInt x5_22) := mx_le
          try have t_35 : Int32.toInt (x4_7 + 1) = Int32.toInt x4_7 + 1 := ti_add rfl (by decide) (by omega) (by omega)
          exact hk_1 (q, p1, p2, (mxI x3_6 x5_22), (x4_7 + 1)) (show (q = q) ∧ (p1 = p1) ∧ (p2 = p2) ∧ (0 ≤ Int32.toInt (x4_7 + 1)) ∧ (Int32.toInt (x4_7 + 1) ≤ 6) from ⟨rfl, rfl, rfl, by omega, by omega⟩) (show (6 - Int32.toInt (x4_7 + 1)).toNat < (6 - Int32.toInt x4_7).toNat by omega)
        · try have t_36 := ti_shr (x := p1) (s := x6_23) (by omega)
          have t_37 := ti_and1 (p1 >>> ((x6_23 : Int32) &&& 31))
          refine dOk_eq (A := Int32.toInt (p1 >>> ((x6_23 : Int32) &&& 31) &&& 1)) (B := 1) rfl (by decide) (fun c_38z c_38 => ?_) (fun c_39z c_39 => ?_)
          · refine dOk_B (ok_X8_rankBehindTurn_s2 q x6_23 p2 hT) (fun r_41 q_42 h_43 => ?_)
            replace h_43 : (q_42 = q) := h_43
            have i_44 := h_43
            subst q_42
            refine dOk_eq (A := Int32.toInt r_41) (B := Int32.toInt x4_7) rfl rfl (fun c_45z c_45 => ?_) (fun c_46z c_46 => ?_)
            · unfold zX8_mostAlike_s2_56
              refine dOk_V (ok_X9_bit 1) (fun r_48 h_49 => ?_)
              replace h_49 : ((Int32.toInt r_48 = 0 ∨ Int32.toInt r_48 = 1)) := h_49
              have i_50 := h_49
              try have t_51 : Int32.toInt (x5_22 + r_48) = Int32.toInt x5_22 + Int32.toInt r_48 := ti_add rfl rfl (by omega) (by omega)
              try have t_52 : Int32.toInt (x6_23 + 1) = Int32.toInt x6_23 + 1 := ti_add rfl (by decide) (by omega) (by omega)
              exact hk_15 (q, p1, p2, x3_6, x4_7, (x5_22 + r_48), (x6_23 + 1)) (show (q = q) ∧ (p1 = p1) ∧ (p2 = p2) ∧ (x3_6 = x3_6) ∧ (x4_7 = x4_7) ∧ (1 ≤ Int32.toInt (x6_23 + 1)) ∧ (Int32.toInt (x6_23 + 1) ≤ 7) from ⟨rfl, rfl, rfl, rfl, rfl, by omega, by omega⟩) (show (7 - Int32.toInt (x6_23 + 1)).toNat < (7 - Int32.toInt x6_23).toNat by omega)
            · unfold zX8_mostAlike_s2_55
              unfold zX8_mostAlike_s2_56
              refine dOk_V (ok_X9_bit 0) (fun r_53 h_54 => ?_)
              replace h_54 : ((Int32.toInt r_53 = 0 ∨ Int32.toInt r_53 = 1)) := h_54
              have i_55 := h_54
              try have t_56 : Int32.toInt (x5_22 + r_53) = Int32.toInt x5_22 + Int32.toInt r_53 := ti_add rfl rfl (by omega) (by omega)
              try have t_57 : Int32.toInt (x6_23 + 1) = Int32.toInt x6_23 + 1 := ti_add rfl (by decide) (by omega) (by omega)
              exact hk_15 (q, p1, p2, x3_6, x4_7, (x5_22 + r_53), (x6_23 + 1)) (show (q = q) ∧ (p1 = p1) ∧ (p2 = p2) ∧ (x3_6 = x3_6) ∧ (x4_7 = x4_7) ∧ (1 ≤ Int32.toInt (x6_23 + 1)) ∧ (Int32.toInt (x6_23 + 1) ≤ 7) from ⟨rfl, rfl, rfl, rfl, rfl, by omega, by omega⟩) (show (7 - Int32.toInt (x6_23 + 1)).toNat < (7 - Int32.toInt x6_23).toNat by omega)
          · unfold zX8_mostAlike_s2_55
            unfold zX8_mostAlike_s2_56
            refine dOk_V (ok_X9_bit 0) (fun r_58 h_59 => ?_)
            replace h_59 : ((Int32.toInt r_58 = 0 ∨ Int32.toInt r_58 = 1)) := h_59
            have i_60 := h_59
            try have t_61 : Int32.toInt (x5_22 + r_58) = Int32.toInt x5_22 + Int32.toInt r_58 := ti_add rfl rfl (by omega) (by omega)
            try have t_62 : Int32.toInt (x6_23 + 1) = Int32.toInt x6_23 + 1 := ti_add rfl (by decide) (by omega) (by omega)
            exact hk_15 (q, p1, p2, x3_6, x4_7, (x5_22 + r_58), (x6_23 + 1)) (show (q = q) ∧ (p1 = p1) ∧ (p2 = p2) ∧ (x3_6 = x3_6) ∧ (x4_7 = x4_7) ∧ (1 ≤ Int32.toInt (x6_23 + 1)) ∧ (Int32.toInt (x6_23 + 1) ≤ 7) from ⟨rfl, rfl, rfl, rfl, rfl, by omega, by omega⟩) (show (7 - Int32.toInt (x6_23 + 1)).toNat < (7 - Int32.toInt x6_23).toNat by omega)
      · exact (show (q = q) ∧ (p1 = p1) ∧ (p2 = p2) ∧ (x3_6 = x3_6) ∧ (x4_7 = x4_7) ∧ (1 ≤ (1 : Int)) ∧ ((1 : Int) ≤ 7) from ⟨rfl, rfl, rfl, rfl, rfl, by omega, by omega⟩)
      · show (7 - (1 : Int)).toNat < 1000000000000
        omega
  · exact (show (q = q) ∧ (p1 = p1) ∧ (p2 = p2) ∧ (0 ≤ (0 : Int)) ∧ ((0 : Int) ≤ 6) from ⟨rfl, rfl, rfl, by omega, by omega⟩)
  · show (6 - (0 : Int)).toNat < 1000000000000
    omega

set_option maxHeartbeats 4000000 in
set_option maxRecDepth 100000 in
theorem ok_X6_copyFrom_s49_s1 (q : dK) (hT : TC q) : dOk (zX6_copyFrom_s49_s1 q) (fun (o : dK) => (TC o) ∧ (cFr [51, 52, 53, 54, 55] [(49, 1), (49, 2), (49, 3), (49, 6), (49, 8), (49, 9), (50, 2), (50, 3), (50, 4)] q o) ∧ (Int32.toInt (o.1 49 6) = Int32.toInt (q.1 1 6)) ∧ (Int32.toInt (o.1 49 1) = Int32.toInt (q.1 1 1))) := by
  unfold zX6_copyFrom_s49_s1
  refine dOk_B (ok_X8_pack_s2 q hT) (fun r_1 q_2 h_3 => ?_)
  replace h_3 : (q_2 = q) ∧ (0 ≤ Int64.toInt r_1) := h_3
  obtain ⟨i_4, i_5⟩ := h_3
  subst q_2
  refine dOk_V (ok_X8_unpack_s50 q (r_1) hT (show 0 ≤ Int64.toInt (r_1) by omega)) (fun q_6 h_7 => ?_)
  replace h_7 : (TC q_6) ∧ (cFr [51, 52] [(50, 2), (50, 3), (50, 4)] q q_6) := h_7
  obtain ⟨i_8, i_9⟩ := h_7
  have hFq_6 : cFr [51, 52, 53, 54, 55] [(49, 1), (49, 2), (49, 3), (49, 6), (49, 8), (49, 9), (50, 2), (50, 3), (50, 4)] q q_6 := (cFr.rf (q := q)).t i_9 (by decide) (by decide)
  refine dOk_L (fun q_10 eq_10 => ?_)
  have f_11 : 0 ≤ Int32.toInt (q_6.1 1 1) ∧ Int32.toInt (q_6.1 1 1) ≤ 10 := rg_1_1 i_8
  have f_12 : 0 ≤ Int32.toInt (q.1 1 1) ∧ Int32.toInt (q.1 1 1) ≤ 10 := rg_1_1 hT
  have w_13 : Int32.toInt (q_6.1 1 1) = Int32.toInt (q.1 1 1) := by rw [i_9.1 1 1 (by decide) (by decide)]
  have hTq_10 : TC q_10 := by rw [eq_10]; exact st_49_1 i_8 (show (0 : Int) ≤ Int32.toInt (q_6.1 1 1) by omega) (show Int32.toInt (q_6.1 1 1) ≤ (10 : Int) by omega)
  have hFq_10 : cFr [51, 52, 53, 54, 55] [(49, 1), (49, 2), (49, 3), (49, 6), (49, 8), (49, 9), (50, 2), (50, 3), (50, 4)] q q_10 := by rw [eq_10]; exact hFq_6.f (by decide)
  refine dOk_L (fun q_14 eq_14 => ?_)
  have w_15 : Int32.toInt (q_6.1 1 2) = Int32.toInt (q.1 1 2) := by rw [i_9.1 1 2 (by decide) (by decide)]
  have w_16 : Int32.toInt (q_10.1 1 2) = Int32.toInt (q_6.1 1 2) := by rw [eq_10, cui_o (by decide)]
  have hTq_14 : TC q_14 := by rw [eq_14]; exact sa_49_2 hTq_10
  have hFq_14 : cFr [51, 52, 53, 54, 55] [(49, 1), (49, 2), (49, 3), (49, 6), (49, 8), (49, 9), (50, 2), (50, 3), (50, 4)] q q_14 := by rw [eq_14]; exact hFq_10.f (by decide)
  refine dOk_L (fun q_17 eq_17 => ?_)
  have w_18 : Int32.toInt (q_6.1 1 3) = Int32.toInt (q.1 1 3) := by rw [i_9.1 1 3 (by decide) (by decide)]
  have w_19 : Int32.toInt (q_10.1 1 3) = Int32.toInt (q_6.1 1 3) := by rw [eq_10, cui_o (by decide)]
  have w_20 : Int32.toInt (q_14.1 1 3) = Int32.toInt (q_10.1 1 3) := by rw [eq_14, cui_o (by decide)]
  have hTq_17 : TC q_17 := by rw [eq_17]; exact sa_49_3 hTq_14
  have hFq_17 : cFr [51, 52, 53, 54, 55] [(49, 1), (49, 2), (49, 3), (49, 6), (49, 8), (49, 9), (50, 2), (50, 3), (50, 4)] q q_17 := by rw [eq_17]; exact hFq_14.f (by decide)
  refine dOk_L (fun q_21 eq_21 => ?_)
  have f_22 : 0 ≤ Int32.toInt (q_17.1 1 6) ∧ Int32.toInt (q_17.1 1 6) ≤ 6 := rg_1_6 hTq_17
  have f_23 : 0 ≤ Int32.toInt (q_14.1 1 6) ∧ Int32.toInt (q_14.1 1 6) ≤ 6 := rg_1_6 hTq_14
  have f_24 : 0 ≤ Int32.toInt (q_10.1 1 6) ∧ Int32.toInt (q_10.1 1 6) ≤ 6 := rg_1_6 hTq_10
  have f_25 : 0 ≤ Int32.toInt (q_6.1 1 6) ∧ Int32.toInt (q_6.1 1 6) ≤ 6 := rg_1_6 i_8
  have f_26 : 0 ≤ Int32.toInt (q.1 1 6) ∧ Int32.toInt (q.1 1 6) ≤ 6 := rg_1_6 hT
  have w_27 : Int32.toInt (q_6.1 1 6) = Int32.toInt (q.1 1 6) := by rw [i_9.1 1 6 (by decide) (by decide)]
  have w_28 : Int32.toInt (q_10.1 1 6) = Int32.toInt (q_6.1 1 6) := by rw [eq_10, cui_o (by decide)]
  have w_29 : Int32.toInt (q_14.1 1 6) = Int32.toInt (q_10.1 1 6) := by rw [eq_14, cui_o (by decide)]
  have w_30 : Int32.toInt (q_17.1 1 6) = Int32.toInt (q_14.1 1 6) := by rw [eq_17, cui_o (by decide)]
  have hTq_21 : TC q_21 := by rw [eq_21]; exact st_49_6 hTq_17 (show (0 : Int) ≤ Int32.toInt (q_17.1 1 6) by omega) (show Int32.toInt (q_17.1 1 6) ≤ (6 : Int) by omega)
  have hFq_21 : cFr [51, 52, 53, 54, 55] [(49, 1), (49, 2), (49, 3), (49, 6), (49, 8), (49, 9), (50, 2), (50, 3), (50, 4)] q q_21 := by rw [eq_21]; exact hFq_17.f (by decide)
  unfold zX6_copyFrom_s49_s1_48
  refine dFix_ok (fun (a : dK × Int32) => (TC a.1) ∧ (cFr [53, 54] [] q_21 a.1) ∧ (0 ≤ Int32.toInt a.2) ∧ (Int32.toInt a.2 ≤ 6)) (fun (a : dK × Int32) => (6 - Int32.toInt a.2).toNat) ?_ _ ?_ _ (dF_gt ?_)
  · intro a ha k_32 hk_31
    obtain ⟨q_33, x2_34⟩ := a
    replace ha : (TC q_33) ∧ (cFr [53, 54] [] q_21 q_33) ∧ (0 ≤ Int32.toInt x2_34) ∧ (Int32.toInt x2_34 ≤ 6) := ha
    obtain ⟨a_35, a_36, a_37, a_38⟩ := ha
    show dOk (zX6_copyFrom_s49_s1_48b  (fun q x2 => k_32 (q, x2)) q_33 x2_34) _
    unfold zX6_copyFrom_s49_s1_48b
    have hFq_33 : cFr [51, 52, 53, 54, 55] [(49, 1), (49, 2), (49, 3), (49, 6), (49, 8), (49, 9), (50, 2), (50, 3), (50, 4)] q q_33 := hFq_21.t a_36 (by decide) (by decide)
    refine dOk_le (A := 6) (B := Int32.toInt x2_34) (by decide) rfl (fun c_39 => ?_) (fun c_40 => ?_)
    · refine dOk_L (fun q_41 eq_41 => ?_)
      have f_42 : 0 ≤ Int32.toInt (q_33.1 1 8) ∧ Int32.toInt (q_33.1 1 8) ≤ 6 := rg_1_8 a_35
      have f_43 : 0 ≤ Int32.toInt (q_21.1 1 8) ∧ Int32.toInt (q_21.1 1 8) ≤ 6 := rg_1_8 hTq_21
      have f_44 : 0 ≤ Int32.toInt (q_17.1 1 8) ∧ Int32.toInt (q_17.1 1 8) ≤ 6 := rg_1_8 hTq_17
      have f_45 : 0 ≤ Int32.toInt (q_14.1 1 8) ∧ Int32.toInt (q_14.1 1 8) ≤ 6 := rg_1_8 hTq_14
      have f_46 : 0 ≤ Int32.toInt (q_10.1 1 8) ∧ Int32.toInt (q_10.1 1 8) ≤ 6 := rg_1_8 hTq_10
      have f_47 : 0 ≤ Int32.toInt (q_6.1 1 8) ∧ Int32.toInt (q_6.1 1 8) ≤ 6 := rg_1_8 i_8
      have f_48 : 0 ≤ Int32.toInt (q.1 1 8) ∧ Int32.toInt (q.1 1 8) ≤ 6 := rg_1_8 hT
      have w_49 : Int32.toInt (q_6.1 1 8) = Int32.toInt (q.1 1 8) := by rw [i_9.1 1 8 (by decide) (by decide)]
      have w_50 : Int32.toInt (q_10.1 1 8) = Int32.toInt (q_6.1 1 8) := by rw [eq_10, cui_o (by decide)]
      have w_51 : Int32.toInt (q_14.1 1 8) = Int32.toInt (q_10.1 1 8) := by rw [eq_14, cui_o (by decide)]
      have w_52 : Int32.toInt (q_17.1 1 8) = Int32.toInt (q_14.1 1 8) := by rw [eq_17, cui_o (by decide)]
      have w_53 : Int32.toInt (q_21.1 1 8) = Int32.toInt (q_17.1 1 8) := by rw [eq_21, cui_o (by decide)]
      have w_54 : Int32.toInt (q_33.1 1 8) = Int32.toInt (q_21.1 1 8) := by rw [a_36.1 1 8 (by decide) (by decide)]
      have hTq_41 : TC q_41 := by rw [eq_41]; exact st_49_8 a_35 (show (0 : Int) ≤ Int32.toInt (q_33.1 1 8) by omega) (show Int32.toInt (q_33.1 1 8) ≤ (6 : Int) by omega)
      have hFq_41 : cFr [51, 52, 53, 54, 55] [(49, 1), (49, 2), (49, 3), (49, 6), (49, 8), (49, 9), (50, 2), (50, 3), (50, 4)] q q_41 := by rw [eq_41]; exact hFq_33.f (by decide)
      unfold zX6_copyFrom_s49_s1_94
      refine dFix_ok (fun (a : dK × Int32) => (TC a.1) ∧ (cFr [55] [] q_41 a.1) ∧ (0 ≤ Int32.toInt a.2) ∧ (Int32.toInt a.2 ≤ 6)) (fun (a : dK × Int32) => (6 - Int32.toInt a.2).toNat) ?_ _ ?_ _ (dF_gt ?_)
      · intro a ha k_56 hk_55
        obtain ⟨q_57, x2_58⟩ := a
        replace ha : (TC q_57) ∧ (cFr [55] [] q_41 q_57) ∧ (0 ≤ Int32.toInt x2_58) ∧ (Int32.toInt x2_58 ≤ 6) := ha
        obtain ⟨a_59, a_60, a_61, a_62⟩ := ha
        show dOk (zX6_copyFrom_s49_s1_94b  (fun q x2 => k_56 (q, x2)) q_57 x2_58) _
        unfold zX6_copyFrom_s49_s1_94b
        have hFq_57 : cFr [51, 52, 53, 54, 55] [(49, 1), (49, 2), (49, 3), (49, 6), (49, 8), (49, 9), (50, 2), (50, 3), (50, 4)] q q_57 := hFq_41.t a_60 (by decide) (by decide)
        refine dOk_le (A := 6) (B := Int32.toInt x2_58) (by decide) rfl (fun c_63 => ?_) (fun c_64 => ?_)
        · refine dOk_L (fun q_65 eq_65 => ?_)
          have w_66 : Int32.toInt (q_6.1 1 9) = Int32.toInt (q.1 1 9) := by rw [i_9.1 1 9 (by decide) (by decide)]
          have w_67 : Int32.toInt (q_10.1 1 9) = Int32.toInt (q_6.1 1 9) := by rw [eq_10, cui_o (by decide)]
          have w_68 : Int32.toInt (q_14.1 1 9) = Int32.toInt (q_10.1 1 9) := by rw [eq_14, cui_o (by decide)]
          have w_69 : Int32.toInt (q_17.1 1 9) = Int32.toInt (q_14.1 1 9) := by rw [eq_17, cui_o (by decide)]
          have w_70 : Int32.toInt (q_21.1 1 9) = Int32.toInt (q_17.1 1 9) := by rw [eq_21, cui_o (by decide)]
          have w_71 : Int32.toInt (q_33.1 1 9) = Int32.toInt (q_21.1 1 9) := by rw [a_36.1 1 9 (by decide) (by decide)]
          have w_72 : Int32.toInt (q_41.1 1 9) = Int32.toInt (q_33.1 1 9) := by rw [eq_41, cui_o (by decide)]
          have w_73 : Int32.toInt (q_57.1 1 9) = Int32.toInt (q_41.1 1 9) := by rw [a_60.1 1 9 (by decide) (by decide)]
          have hTq_65 : TC q_65 := by rw [eq_65]; exact sa_49_9 a_59
          have hFq_65 : cFr [51, 52, 53, 54, 55] [(49, 1), (49, 2), (49, 3), (49, 6), (49, 8), (49, 9), (50, 2), (50, 3), (50, 4)] q q_65 := by rw [eq_65]; exact hFq_57.f (by decide)
          have f_74 : 0 ≤ Int32.toInt (q_65.1 49 6) ∧ Int32.toInt (q_65.1 49 6) ≤ 6 := rg_49_6 hTq_65
          have f_75 : 0 ≤ Int32.toInt (q_57.1 49 6) ∧ Int32.toInt (q_57.1 49 6) ≤ 6 := rg_49_6 a_59
          have f_76 : 0 ≤ Int32.toInt (q_41.1 49 6) ∧ Int32.toInt (q_41.1 49 6) ≤ 6 := rg_49_6 hTq_41
          have f_77 : 0 ≤ Int32.toInt (q_33.1 49 6) ∧ Int32.toInt (q_33.1 49 6) ≤ 6 := rg_49_6 a_35
          have f_78 : 0 ≤ Int32.toInt (q_21.1 49 6) ∧ Int32.toInt (q_21.1 49 6) ≤ 6 := rg_49_6 hTq_21
          have w_79 : Int32.toInt (q_21.1 49 6) = Int32.toInt (q_17.1 1 6) := by rw [eq_21, cui_e]
          have w_80 : Int32.toInt (q_33.1 49 6) = Int32.toInt (q_21.1 49 6) := by rw [a_36.1 49 6 (by decide) (by decide)]
          have w_81 : Int32.toInt (q_41.1 49 6) = Int32.toInt (q_33.1 49 6) := by rw [eq_41, cui_n (by decide)]
          have w_82 : Int32.toInt (q_57.1 49 6) = Int32.toInt (q_41.1 49 6) := by rw [a_60.1 49 6 (by decide) (by decide)]
          have w_83 : Int32.toInt (q_65.1 49 6) = Int32.toInt (q_57.1 49 6) := by rw [eq_65, cui_n (by decide)]
          have f_84 : 0 ≤ Int32.toInt (q_65.1 49 1) ∧ Int32.toInt (q_65.1 49 1) ≤ 10 := rg_49_1 hTq_65
          have f_85 : 0 ≤ Int32.toInt (q_57.1 49 1) ∧ Int32.toInt (q_57.1 49 1) ≤ 10 := rg_49_1 a_59
          have f_86 : 0 ≤ Int32.toInt (q_41.1 49 1) ∧ Int32.toInt (q_41.1 49 1) ≤ 10 := rg_49_1 hTq_41
          have f_87 : 0 ≤ Int32.toInt (q_33.1 49 1) ∧ Int32.toInt (q_33.1 49 1) ≤ 10 := rg_49_1 a_35
          have f_88 : 0 ≤ Int32.toInt (q_21.1 49 1) ∧ Int32.toInt (q_21.1 49 1) ≤ 10 := rg_49_1 hTq_21
          have f_89 : 0 ≤ Int32.toInt (q_17.1 49 1) ∧ Int32.toInt (q_17.1 49 1) ≤ 10 := rg_49_1 hTq_17
          have f_90 : 0 ≤ Int32.toInt (q_14.1 49 1) ∧ Int32.toInt (q_14.1 49 1) ≤ 10 := rg_49_1 hTq_14
          have f_91 : 0 ≤ Int32.toInt (q_10.1 49 1) ∧ Int32.toInt (q_10.1 49 1) ≤ 10 := rg_49_1 hTq_10
          have w_92 : Int32.toInt (q_10.1 49 1) = Int32.toInt (q_6.1 1 1) := by rw [eq_10, cui_e]
          have w_93 : Int32.toInt (q_14.1 49 1) = Int32.toInt (q_10.1 49 1) := by rw [eq_14, cui_n (by decide)]
          have w_94 : Int32.toInt (q_17.1 49 1) = Int32.toInt (q_14.1 49 1) := by rw [eq_17, cui_n (by decide)]
          have w_95 : Int32.toInt (q_21.1 49 1) = Int32.toInt (q_17.1 49 1) := by rw [eq_21, cui_n (by decide)]
          have w_96 : Int32.toInt (q_33.1 49 1) = Int32.toInt (q_21.1 49 1) := by rw [a_36.1 49 1 (by decide) (by decide)]
          have w_97 : Int32.toInt (q_41.1 49 1) = Int32.toInt (q_33.1 49 1) := by rw [eq_41, cui_n (by decide)]
          have w_98 : Int32.toInt (q_57.1 49 1) = Int32.toInt (q_41.1 49 1) := by rw [a_60.1 49 1 (by decide) (by decide)]
          have w_99 : Int32.toInt (q_65.1 49 1) = Int32.toInt (q_57.1 49 1) := by rw [eq_65, cui_n (by decide)]
          exact dOk_some (show (TC q_65) ∧ (cFr [51, 52, 53, 54, 55] [(49, 1), (49, 2), (49, 3), (49, 6), (49, 8), (49, 9), (50, 2), (50, 3), (50, 4)] q q_65) ∧ (Int32.toInt (q_65.1 49 6) = Int32.toInt (q.1 1 6)) ∧ (Int32.toInt (q_65.1 49 1) = Int32.toInt (q.1 1 1)) from ⟨hTq_65, hFq_65, by omega, by omega⟩)
        · refine dOk_G (dg_ok (show 0 ≤ Int32.toInt x2_58 by omega) (show Int32.toInt x2_58 < ((6 : Nat) : Int) by omega)) ?_
          have n_100 : ((Int32.toNatClampNeg x2_58 : Nat) : Int) = Int32.toInt x2_58 := cl_eq (by omega)
          refine dOk_L (fun v_101 ev_101 => ?_)
          have f_102 : 0 ≤ Int32.toInt v_101 ∧ Int32.toInt v_101 ≤ 2147483647 := by rw [ev_101]; exact rg_7 a_59 _
          have f_103 : Int32.toInt v_101 ≤ (q_57.2.2.length : Int) := by rw [ev_101]; exact (a_59.2.1.2 _).1
          refine dOk_G (dg_ok (show 0 ≤ Int32.toInt x2_58 by omega) (show Int32.toInt x2_58 < ((6 : Nat) : Int) by omega)) ?_
          refine dOk_eq (A := Int32.toInt v_101) (B := 0) rfl (by decide) (fun c_104z c_104 => ?_) (fun c_105z c_105 => ?_)
          · refine dOk_L (fun q_107 eq_107 => ?_)
            have n_108 : q_6.2.2.length = q.2.2.length := (congrArg List.length i_9.2)
            have n_109 : q_10.2.2.length = q_6.2.2.length := (by rw [eq_10]; rfl)
            have n_110 : q_14.2.2.length = q_10.2.2.length := (by rw [eq_14]; rfl)
            have n_111 : q_17.2.2.length = q_14.2.2.length := (by rw [eq_17]; rfl)
            have n_112 : q_21.2.2.length = q_17.2.2.length := (by rw [eq_21]; rfl)
            have n_113 : q_33.2.2.length = q_21.2.2.length := (congrArg List.length a_36.2)
            have n_114 : q_41.2.2.length = q_33.2.2.length := (by rw [eq_41]; rfl)
            have n_115 : q_57.2.2.length = q_41.2.2.length := (congrArg List.length a_60.2)
            have hTq_107 : TC q_107 := by rw [eq_107]; exact tc_law a_59 (by omega) (show 0 ≤ (0 : Int) by omega) (show (0 : Int) ≤ (q_57.2.2.length : Int) by omega)
            have hFq_107 : cFr [51, 52, 53, 54, 55] [(49, 1), (49, 2), (49, 3), (49, 6), (49, 8), (49, 9), (50, 2), (50, 3), (50, 4)] q q_107 := by rw [eq_107]; exact hFq_57.i (by decide)
            try have t_116 : Int32.toInt (x2_58 + 1) = Int32.toInt x2_58 + 1 := ti_add rfl (by decide) (by omega) (by omega)
            exact hk_55 (q_107, (x2_58 + 1)) (show (TC q_107) ∧ (cFr [55] [] q_41 q_107) ∧ (0 ≤ Int32.toInt (x2_58 + 1)) ∧ (Int32.toInt (x2_58 + 1) ≤ 6) from ⟨hTq_107, (by rw [eq_107]; exact (((cFr.rf : cFr [55] [] q_41 q_41).t a_60 (by decide) (by decide)) : cFr [55] [] q_41 q_57).i (by decide)), by omega, by omega⟩) (show (6 - Int32.toInt (x2_58 + 1)).toNat < (6 - Int32.toInt x2_58).toNat by omega)
          · have n_117 : q_6.2.2.length = q.2.2.length := (congrArg List.length i_9.2)
            have n_118 : q_10.2.2.length = q_6.2.2.length := (by rw [eq_10]; rfl)
            have n_119 : q_14.2.2.length = q_10.2.2.length := (by rw [eq_14]; rfl)
            have n_120 : q_17.2.2.length = q_14.2.2.length := (by rw [eq_17]; rfl)
            have n_121 : q_21.2.2.length = q_17.2.2.length := (by rw [eq_21]; rfl)
            have n_122 : q_33.2.2.length = q_21.2.2.length := (congrArg List.length a_36.2)
            have n_123 : q_41.2.2.length = q_33.2.2.length := (by rw [eq_41]; rfl)
            have n_124 : q_57.2.2.length = q_41.2.2.length := (congrArg List.length a_60.2)
            have g_125 : dlg q_57 v_101 = true := tc_dlg a_59 (show ¬ Int32.toInt v_101 = 0 by omega) (show 0 ≤ Int32.toInt v_101 by omega) (show Int32.toInt v_101 ≤ (q_57.2.2.length : Int) by omega)
            refine dOk_G g_125 ?_
            refine dOk_L (fun q_126 eq_126 => ?_)
            have hTq_126 : TC q_126 := by rw [eq_126]; exact tc_law a_59 (by omega) (show 0 ≤ Int32.toInt v_101 by omega) (show Int32.toInt v_101 ≤ (q_57.2.2.length : Int) by omega)
            have hFq_126 : cFr [51, 52, 53, 54, 55] [(49, 1), (49, 2), (49, 3), (49, 6), (49, 8), (49, 9), (50, 2), (50, 3), (50, 4)] q q_126 := by rw [eq_126]; exact hFq_57.i (by decide)
            try have t_127 : Int32.toInt (x2_58 + 1) = Int32.toInt x2_58 + 1 := ti_add rfl (by decide) (by omega) (by omega)
            exact hk_55 (q_126, (x2_58 + 1)) (show (TC q_126) ∧ (cFr [55] [] q_41 q_126) ∧ (0 ≤ Int32.toInt (x2_58 + 1)) ∧ (Int32.toInt (x2_58 + 1) ≤ 6) from ⟨hTq_126, (by rw [eq_126]; exact (((cFr.rf : cFr [55] [] q_41 q_41).t a_60 (by decide) (by decide)) : cFr [55] [] q_41 q_57).i (by decide)), by omega, by omega⟩) (show (6 - Int32.toInt (x2_58 + 1)).toNat < (6 - Int32.toInt x2_58).toNat by omega)
      · exact (show (TC q_41) ∧ (cFr [55] [] q_41 q_41) ∧ (0 ≤ (0 : Int)) ∧ ((0 : Int) ≤ 6) from ⟨hTq_41, cFr.rf, by omega, by omega⟩)
      · show (6 - (0 : Int)).toNat < 1000000000000
        omega
    · refine dOk_G (dg_ok (show 0 ≤ Int32.toInt x2_34 by omega) (show Int32.toInt x2_34 < ((6 : Nat) : Int) by omega)) ?_
      have n_128 : ((Int32.toNatClampNeg x2_34 : Nat) : Int) = Int32.toInt x2_34 := cl_eq (by omega)
      refine dOk_L (fun v_129 ev_129 => ?_)
      refine dOk_G (dg_ok (show 0 ≤ Int32.toInt x2_34 by omega) (show Int32.toInt x2_34 < ((6 : Nat) : Int) by omega)) ?_
      refine dOk_L (fun q_130 eq_130 => ?_)
      have hTq_130 : TC q_130 := by rw [eq_130]; exact sa_53 a_35
      have hFq_130 : cFr [51, 52, 53, 54, 55] [(49, 1), (49, 2), (49, 3), (49, 6), (49, 8), (49, 9), (50, 2), (50, 3), (50, 4)] q q_130 := by rw [eq_130]; exact hFq_33.i (by decide)
      refine dOk_G (dg_ok (show 0 ≤ Int32.toInt x2_34 by omega) (show Int32.toInt x2_34 < ((6 : Nat) : Int) by omega)) ?_
      refine dOk_L (fun v_131 ev_131 => ?_)
      refine dOk_G (dg_ok (show 0 ≤ Int32.toInt x2_34 by omega) (show Int32.toInt x2_34 < ((6 : Nat) : Int) by omega)) ?_
      refine dOk_L (fun q_132 eq_132 => ?_)
      have hTq_132 : TC q_132 := by rw [eq_132]; exact sa_54 hTq_130
      have hFq_132 : cFr [51, 52, 53, 54, 55] [(49, 1), (49, 2), (49, 3), (49, 6), (49, 8), (49, 9), (50, 2), (50, 3), (50, 4)] q q_132 := by rw [eq_132]; exact hFq_130.i (by decide)
      try have t_133 : Int32.toInt (x2_34 + 1) = Int32.toInt x2_34 + 1 := ti_add rfl (by decide) (by omega) (by omega)
      exact hk_31 (q_132, (x2_34 + 1)) (show (TC q_132) ∧ (cFr [53, 54] [] q_21 q_132) ∧ (0 ≤ Int32.toInt (x2_34 + 1)) ∧ (Int32.toInt (x2_34 + 1) ≤ 6) from ⟨hTq_132, (by rw [eq_132]; exact ((by rw [eq_130]; exact (((cFr.rf : cFr [53, 54] [] q_21 q_21).t a_36 (by decide) (by decide)) : cFr [53, 54] [] q_21 q_33).i (by decide)) : cFr [53, 54] [] q_21 q_130).i (by decide)), by omega, by omega⟩) (show (6 - Int32.toInt (x2_34 + 1)).toNat < (6 - Int32.toInt x2_34).toNat by omega)
  · exact (show (TC q_21) ∧ (cFr [53, 54] [] q_21 q_21) ∧ (0 ≤ (0 : Int)) ∧ ((0 : Int) ≤ 6) from ⟨hTq_21, cFr.rf, by omega, by omega⟩)
  · show (6 - (0 : Int)).toNat < 1000000000000
    omega
