set_option maxHeartbeats 4000000 in
set_option maxRecDepth 100000 in
theorem ok_X3_isCloser_s32 (q : dK) (p1 : Int32) (p2 : Int32) (hT : TC q) (hp0 : LD q) (hp1 : 0 ≤ Int32.toInt p1) (hp2 : Int32.toInt p1 < Int32.toInt (q.1 32 14)) (hp3 : 1 ≤ Int32.toInt p2) (hp4 : Int32.toInt p2 ≤ Int32.toInt (q.1 32 13)) : dOk (zX3_isCloser_s32 q p1 p2) (fun (o : Int32 × dK) => (o.2 = q) ∧ ((Int32.toInt o.1 = 0 ∨ Int32.toInt o.1 = 1))) := by
  unfold zX3_isCloser_s32
  have hLs := ld_sz hp0
  have f_1 : 0 ≤ Int32.toInt (q.1 32 14) ∧ Int32.toInt (q.1 32 14) ≤ 46080 := rg_32_14 hT
  refine dOk_B (ok_X3_turned_s32 q p1 p2 hT hp0 (show 0 ≤ Int32.toInt p1 by omega) (show Int32.toInt p1 < Int32.toInt (q.1 32 14) by omega)) (fun r_2 q_3 h_4 => ?_)
  replace h_4 : (q_3 = q) ∧ (0 ≤ Int32.toInt r_2) ∧ (Int32.toInt r_2 < Int32.toInt (q.1 32 14)) := h_4
  obtain ⟨i_5, i_6, i_7⟩ := h_4
  subst q_3
  have f_8 : 0 ≤ Int32.toInt (q.1 32 103) ∧ Int32.toInt (q.1 32 103) ≤ 46080 := rg_32_103 hT
  refine dOk_G (dg_ok (show 0 ≤ Int32.toInt r_2 by omega) (show Int32.toInt r_2 < ((Int32.toNatClampNeg (q.1 32 103) : Nat) : Int) by rw [cl_eq (show 0 ≤ Int32.toInt (q.1 32 103) by omega)]; omega)) ?_
  have n_9 : ((Int32.toNatClampNeg r_2 : Nat) : Int) = Int32.toInt r_2 := cl_eq (by omega)
  refine dOk_L (fun v_10 ev_10 => ?_)
  refine dOk_G (dg_ok (show 0 ≤ Int32.toInt p1 by omega) (show Int32.toInt p1 < ((Int32.toNatClampNeg (q.1 32 103) : Nat) : Int) by rw [cl_eq (show 0 ≤ Int32.toInt (q.1 32 103) by omega)]; omega)) ?_
  have n_11 : ((Int32.toNatClampNeg p1 : Nat) : Int) = Int32.toInt p1 := cl_eq (by omega)
  refine dOk_L (fun v_12 ev_12 => ?_)
  try have t_13 : Int32.toInt (v_12 - 1) = Int32.toInt v_12 - 1 := ti_sub rfl (by decide) (by omega) (by omega)
  refine dOk_eq (A := Int32.toInt v_10) (B := Int32.toInt (v_12 - 1)) rfl rfl (fun c_14z c_14 => ?_) (fun c_15z c_15 => ?_)
  · refine dOk_G (dg_ok (show 0 ≤ Int32.toInt p1 by omega) (show Int32.toInt p1 < ((Int32.toNatClampNeg (q.1 32 103) : Nat) : Int) by rw [cl_eq (show 0 ≤ Int32.toInt (q.1 32 103) by omega)]; omega)) ?_
    refine dOk_L (fun v_17 ev_17 => ?_)
    have w_18 : Int32.toInt v_17 = Int32.toInt v_12 := by rw [ev_17, ev_12]
    refine dOk_le (A := Int32.toInt v_17) (B := 0) rfl (by decide) (fun c_19 => ?_) (fun c_20 => ?_)
    · unfold zX3_isCloser_s32_49
      unfold zX3_isCloser_s32_50
      refine dOk_G (dbl_ok (show (0 : Int) = 0 ∨ (0 : Int) = 1 by omega)) ?_
      exact dOk_some (show (q = q) ∧ (((0 : Int) = 0 ∨ (0 : Int) = 1)) from ⟨rfl, by omega⟩)
    · have f_21 : 0 ≤ Int32.toInt (q.1 32 13) ∧ Int32.toInt (q.1 32 13) ≤ 6 := rg_32_13 hT
      refine dOk_B (ok_X3_caseOf_s32 q p1 p2 hT hp0 (show 0 ≤ Int32.toInt p1 by omega) (show Int32.toInt p1 < Int32.toInt (q.1 32 14) by omega) (show 1 ≤ Int32.toInt p2 by omega) (show Int32.toInt p2 ≤ Int32.toInt (q.1 32 13) by omega)) (fun r_22 q_23 h_24 => ?_)
      replace h_24 : (q_23 = q) ∧ (0 ≤ Int32.toInt r_22) ∧ (Int32.toInt r_22 < 504) := h_24
      obtain ⟨i_25, i_26, i_27⟩ := h_24
      subst q_23
      refine dOk_G (dg_ok (show 0 ≤ Int32.toInt r_22 by omega) (show Int32.toInt r_22 < ((504 : Nat) : Int) by omega)) ?_
      have n_28 : ((Int32.toNatClampNeg r_22 : Nat) : Int) = Int32.toInt r_22 := cl_eq (by omega)
      refine dOk_L (fun v_29 ev_29 => ?_)
      refine dOk_eq (A := Int32.toInt v_29) (B := 0) rfl (by decide) (fun c_30z c_30 => ?_) (fun c_31z c_31 => ?_)
      · unfold zX3_isCloser_s32_50
        refine dOk_G (dbl_ok (show (1 : Int) = 0 ∨ (1 : Int) = 1 by omega)) ?_
        exact dOk_some (show (q = q) ∧ (((1 : Int) = 0 ∨ (1 : Int) = 1)) from ⟨rfl, by omega⟩)
      · unfold zX3_isCloser_s32_49
        unfold zX3_isCloser_s32_50
        refine dOk_G (dbl_ok (show (0 : Int) = 0 ∨ (0 : Int) = 1 by omega)) ?_
        exact dOk_some (show (q = q) ∧ (((0 : Int) = 0 ∨ (0 : Int) = 1)) from ⟨rfl, by omega⟩)
  · unfold zX3_isCloser_s32_49
    unfold zX3_isCloser_s32_50
    refine dOk_G (dbl_ok (show (0 : Int) = 0 ∨ (0 : Int) = 1 by omega)) ?_
    exact dOk_some (show (q = q) ∧ (((0 : Int) = 0 ∨ (0 : Int) = 1)) from ⟨rfl, by omega⟩)

set_option maxHeartbeats 4000000 in
set_option maxRecDepth 100000 in
theorem ok_X3_firstCloser_s32 (q : dK) (p1 : Int32) (hT : TC q) (hp0 : LD q) (hp1 : 0 ≤ Int32.toInt p1) (hp2 : Int32.toInt p1 < Int32.toInt (q.1 32 14)) : dOk (zX3_firstCloser_s32 q p1) (fun (o : Int32 × dK) => (o.2 = q)) := by
  unfold zX3_firstCloser_s32
  have hLs := ld_sz hp0
  unfold zX3_firstCloser_s32_2
  refine dFix_ok (fun (a : dK × Int32 × Int32) => (a.1 = q) ∧ (a.2.1 = p1) ∧ (1 ≤ Int32.toInt a.2.2) ∧ (Int32.toInt a.2.2 ≤ 7)) (fun (a : dK × Int32 × Int32) => (7 - Int32.toInt a.2.2).toNat) ?_ _ ?_ _ (dF_gt ?_)
  · intro a ha k_2 hk_1
    obtain ⟨q_3, x1_4, x2_5⟩ := a
    replace ha : (q_3 = q) ∧ (x1_4 = p1) ∧ (1 ≤ Int32.toInt x2_5) ∧ (Int32.toInt x2_5 ≤ 7) := ha
    obtain ⟨a_6, a_7, a_8, a_9⟩ := ha
    show dOk (zX3_firstCloser_s32_2b  (fun q x1 x2 => k_2 (q, x1, x2)) q_3 x1_4 x2_5) _
    unfold zX3_firstCloser_s32_2b
    subst q_3
    subst x1_4
    have f_10 : 0 ≤ Int32.toInt (q.1 32 13) ∧ Int32.toInt (q.1 32 13) ≤ 6 := rg_32_13 hT
    refine dOk_lt (A := Int32.toInt (q.1 32 13)) (B := Int32.toInt x2_5) rfl rfl (fun c_11 => ?_) (fun c_12 => ?_)
    · exact dOk_some (show (q = q) from rfl)
    · have f_13 : 0 ≤ Int32.toInt (q.1 32 14) ∧ Int32.toInt (q.1 32 14) ≤ 46080 := rg_32_14 hT
      refine dOk_B (ok_X3_isCloser_s32 q p1 x2_5 hT hp0 (show 0 ≤ Int32.toInt p1 by omega) (show Int32.toInt p1 < Int32.toInt (q.1 32 14) by omega) (show 1 ≤ Int32.toInt x2_5 by omega) (show Int32.toInt x2_5 ≤ Int32.toInt (q.1 32 13) by omega)) (fun r_14 q_15 h_16 => ?_)
      replace h_16 : (q_15 = q) ∧ ((Int32.toInt r_14 = 0 ∨ Int32.toInt r_14 = 1)) := h_16
      obtain ⟨i_17, i_18⟩ := h_16
      subst q_15
      refine dOk_eq (A := Int32.toInt r_14) (B := 0) rfl (by decide) (fun c_19z c_19 => ?_) (fun c_20z c_20 => ?_)
      · try have t_22 : Int32.toInt (x2_5 + 1) = Int32.toInt x2_5 + 1 := ti_add rfl (by decide) (by omega) (by omega)
        exact hk_1 (q, p1, (x2_5 + 1)) (show (q = q) ∧ (p1 = p1) ∧ (1 ≤ Int32.toInt (x2_5 + 1)) ∧ (Int32.toInt (x2_5 + 1) ≤ 7) from ⟨rfl, rfl, by omega, by omega⟩) (show (7 - Int32.toInt (x2_5 + 1)).toNat < (7 - Int32.toInt x2_5).toNat by omega)
      · exact dOk_some (show (q = q) from rfl)
  · exact (show (q = q) ∧ (p1 = p1) ∧ (1 ≤ (1 : Int)) ∧ ((1 : Int) ≤ 7) from ⟨rfl, rfl, by omega, by omega⟩)
  · show (7 - (1 : Int)).toNat < 1000000000000
    omega

set_option maxHeartbeats 4000000 in
set_option maxRecDepth 100000 in
theorem ok_X3_turnOfFirstRow_s32 (q : dK) (p1 : Int32) (hT : TC q) (hp0 : LD q) (hp1 : 0 ≤ Int32.toInt (q.1 32 15)) (hp2 : Int32.toInt (q.1 32 15) < Int32.toInt (q.1 32 14)) : dOk (zX3_turnOfFirstRow_s32 q p1) (fun (o : Int32 × dK) => (TC o.2) ∧ (cFr [37, 42, 44] [(32, 17), (32, 18)] q o.2)) := by
  unfold zX3_turnOfFirstRow_s32
  have hLs := ld_sz hp0
  refine dOk_V (ok_X3_measure_s32 q hT hp0) (fun q_1 h_2 => ?_)
  replace h_2 : (TC q_1) ∧ (cFr [37, 42, 44] [(32, 17), (32, 18)] q q_1) := h_2
  obtain ⟨i_3, i_4⟩ := h_2
  have hFq_1 : cFr [37, 42, 44] [(32, 17), (32, 18)] q q_1 := (cFr.rf (q := q)).t i_4 (by decide) (by decide)
  refine dOk_lt (A := Int32.toInt p1) (B := 0) rfl (by decide) (fun c_5 => ?_) (fun c_6 => ?_)
  · unfold zX3_turnOfFirstRow_s32_21
    exact dOk_some (show (TC q_1) ∧ (cFr [37, 42, 44] [(32, 17), (32, 18)] q q_1) from ⟨i_3, hFq_1⟩)
  · have f_7 : 0 ≤ Int32.toInt (q_1.1 32 15) ∧ Int32.toInt (q_1.1 32 15) ≤ 46079 := rg_32_15 i_3
    have f_8 : 0 ≤ Int32.toInt (q.1 32 15) ∧ Int32.toInt (q.1 32 15) ≤ 46079 := rg_32_15 hT
    have w_9 : Int32.toInt (q_1.1 32 15) = Int32.toInt (q.1 32 15) := by rw [i_4.1 32 15 (by decide) (by decide)]
    have f_10 : 0 ≤ Int32.toInt (q_1.1 32 103) ∧ Int32.toInt (q_1.1 32 103) ≤ 46080 := rg_32_103 i_3
    have f_11 : 0 ≤ Int32.toInt (q.1 32 103) ∧ Int32.toInt (q.1 32 103) ≤ 46080 := rg_32_103 hT
    have w_12 : Int32.toInt (q_1.1 32 103) = Int32.toInt (q.1 32 103) := by rw [i_4.1 32 103 (by decide) (by decide)]
    refine dOk_G (dg_ok (show 0 ≤ Int32.toInt (q_1.1 32 15) by omega) (show Int32.toInt (q_1.1 32 15) < ((Int32.toNatClampNeg (q_1.1 32 103) : Nat) : Int) by rw [cl_eq (show 0 ≤ Int32.toInt (q_1.1 32 103) by omega)]; omega)) ?_
    have n_13 : ((Int32.toNatClampNeg (q_1.1 32 15) : Nat) : Int) = Int32.toInt (q_1.1 32 15) := cl_eq (by omega)
    refine dOk_L (fun v_14 ev_14 => ?_)
    refine dOk_lt (A := Int32.toInt p1) (B := Int32.toInt v_14) rfl rfl (fun c_15 => ?_) (fun c_16 => ?_)
    · unfold zX3_turnOfFirstRow_s32_30
      refine dFix_ok (fun (a : dK × Int32 × Int32 × Int32) => (a.1 = q_1) ∧ (a.2.1 = p1) ∧ (0 ≤ Int32.toInt a.2.2.2) ∧ (Int32.toInt a.2.2.2 ≤ Int32.toInt a.2.1) ∧ (0 ≤ Int32.toInt a.2.2.1) ∧ (Int32.toInt a.2.2.1 < Int32.toInt (q_1.1 32 14))) (fun (a : dK × Int32 × Int32 × Int32) => (Int32.toInt a.2.1 - Int32.toInt a.2.2.2).toNat) ?_ _ ?_ _ (dF_gt ?_)
      · intro a ha k_18 hk_17
        obtain ⟨q_19, x1_20, x2_21, x3_22⟩ := a
        replace ha : (q_19 = q_1) ∧ (x1_20 = p1) ∧ (0 ≤ Int32.toInt x3_22) ∧ (Int32.toInt x3_22 ≤ Int32.toInt x1_20) ∧ (0 ≤ Int32.toInt x2_21) ∧ (Int32.toInt x2_21 < Int32.toInt (q_1.1 32 14)) := ha
        obtain ⟨a_23, a_24, a_25, a_26, a_27, a_28⟩ := ha
        show dOk (zX3_turnOfFirstRow_s32_30b  (fun q x1 x2 x3 => k_18 (q, x1, x2, x3)) q_19 x1_20 x2_21 x3_22) _
        unfold zX3_turnOfFirstRow_s32_30b
        subst q_19
        subst x1_20
        have f_29 : 0 ≤ Int32.toInt (q_1.1 32 14) ∧ Int32.toInt (q_1.1 32 14) ≤ 46080 := rg_32_14 i_3
        have f_30 : 0 ≤ Int32.toInt (q.1 32 14) ∧ Int32.toInt (q.1 32 14) ≤ 46080 := rg_32_14 hT
        have w_31 : Int32.toInt (q_1.1 32 14) = Int32.toInt (q.1 32 14) := by rw [i_4.1 32 14 (by decide) (by decide)]
        have hb9 := ti_rg p1
        refine dOk_le (A := Int32.toInt p1) (B := Int32.toInt x3_22) rfl rfl (fun c_32 => ?_) (fun c_33 => ?_)
        · refine dOk_B (ok_X3_firstCloser_s32 q_1 x2_21 i_3 (ld_fr hp0 hFq_1 rfl) (show 0 ≤ Int32.toInt x2_21 by omega) (show Int32.toInt x2_21 < Int32.toInt (q_1.1 32 14) by omega)) (fun r_34 q_35 h_36 => ?_)
          replace h_36 : (q_35 = q_1) := h_36
          have i_37 := h_36
          subst q_35
          exact dOk_some (show (TC q_1) ∧ (cFr [37, 42, 44] [(32, 17), (32, 18)] q q_1) from ⟨i_3, hFq_1⟩)
        · refine dOk_B (ok_X3_firstCloser_s32 q_1 x2_21 i_3 (ld_fr hp0 hFq_1 rfl) (show 0 ≤ Int32.toInt x2_21 by omega) (show Int32.toInt x2_21 < Int32.toInt (q_1.1 32 14) by omega)) (fun r_38 q_39 h_40 => ?_)
          replace h_40 : (q_39 = q_1) := h_40
          have i_41 := h_40
          subst q_39
          refine dOk_B (ok_X3_turned_s32 q_1 x2_21 r_38 i_3 (ld_fr hp0 hFq_1 rfl) (show 0 ≤ Int32.toInt x2_21 by omega) (show Int32.toInt x2_21 < Int32.toInt (q_1.1 32 14) by omega)) (fun r_42 q_43 h_44 => ?_)
          replace h_44 : (q_43 = q_1) ∧ (0 ≤ Int32.toInt r_42) ∧ (Int32.toInt r_42 < Int32.toInt (q_1.1 32 14)) := h_44
          obtain ⟨i_45, i_46, i_47⟩ := h_44
          subst q_43
          try have t_48 : Int32.toInt (x3_22 + 1) = Int32.toInt x3_22 + 1 := ti_add rfl (by decide) (by omega) (by omega)
          exact hk_17 (q_1, p1, r_42, (x3_22 + 1)) (show (q_1 = q_1) ∧ (p1 = p1) ∧ (0 ≤ Int32.toInt (x3_22 + 1)) ∧ (Int32.toInt (x3_22 + 1) ≤ Int32.toInt p1) ∧ (0 ≤ Int32.toInt r_42) ∧ (Int32.toInt r_42 < Int32.toInt (q_1.1 32 14)) from ⟨rfl, rfl, by omega, by omega, by omega, by omega⟩) (show (Int32.toInt p1 - Int32.toInt (x3_22 + 1)).toNat < (Int32.toInt p1 - Int32.toInt x3_22).toNat by omega)
      · have f_49 : 0 ≤ Int32.toInt (q_1.1 32 14) ∧ Int32.toInt (q_1.1 32 14) ≤ 46080 := rg_32_14 i_3
        have f_50 : 0 ≤ Int32.toInt (q.1 32 14) ∧ Int32.toInt (q.1 32 14) ≤ 46080 := rg_32_14 hT
        have w_51 : Int32.toInt (q_1.1 32 14) = Int32.toInt (q.1 32 14) := by rw [i_4.1 32 14 (by decide) (by decide)]
        exact (show (q_1 = q_1) ∧ (p1 = p1) ∧ (0 ≤ (0 : Int)) ∧ ((0 : Int) ≤ Int32.toInt p1) ∧ (0 ≤ Int32.toInt (q_1.1 32 15)) ∧ (Int32.toInt (q_1.1 32 15) < Int32.toInt (q_1.1 32 14)) from ⟨rfl, rfl, by omega, by omega, by omega, by omega⟩)
      · have hm9 := ti_rg p1
        show (Int32.toInt p1 - (0 : Int)).toNat < 1000000000000
        omega
    · unfold zX3_turnOfFirstRow_s32_21
      exact dOk_some (show (TC q_1) ∧ (cFr [37, 42, 44] [(32, 17), (32, 18)] q q_1) from ⟨i_3, hFq_1⟩)

set_option maxHeartbeats 4000000 in
set_option maxRecDepth 100000 in
theorem ok_X3_turnsToOrder_s32 (q : dK) (hT : TC q) (hp0 : LD q) (hp1 : 0 ≤ Int32.toInt (q.1 32 15)) (hp2 : Int32.toInt (q.1 32 15) < Int32.toInt (q.1 32 14)) : dOk (zX3_turnsToOrder_s32 q) (fun (o : Int32 × dK) => (TC o.2) ∧ (cFr [37, 42, 44] [(32, 17), (32, 18)] q o.2)) := by
  unfold zX3_turnsToOrder_s32
  have hLs := ld_sz hp0
  refine dOk_V (ok_X3_measure_s32 q hT hp0) (fun q_1 h_2 => ?_)
  replace h_2 : (TC q_1) ∧ (cFr [37, 42, 44] [(32, 17), (32, 18)] q q_1) := h_2
  obtain ⟨i_3, i_4⟩ := h_2
  have hFq_1 : cFr [37, 42, 44] [(32, 17), (32, 18)] q q_1 := (cFr.rf (q := q)).t i_4 (by decide) (by decide)
  have f_5 : 0 ≤ Int32.toInt (q_1.1 32 15) ∧ Int32.toInt (q_1.1 32 15) ≤ 46079 := rg_32_15 i_3
  have f_6 : 0 ≤ Int32.toInt (q.1 32 15) ∧ Int32.toInt (q.1 32 15) ≤ 46079 := rg_32_15 hT
  have w_7 : Int32.toInt (q_1.1 32 15) = Int32.toInt (q.1 32 15) := by rw [i_4.1 32 15 (by decide) (by decide)]
  have f_8 : 0 ≤ Int32.toInt (q_1.1 32 103) ∧ Int32.toInt (q_1.1 32 103) ≤ 46080 := rg_32_103 i_3
  have f_9 : 0 ≤ Int32.toInt (q.1 32 103) ∧ Int32.toInt (q.1 32 103) ≤ 46080 := rg_32_103 hT
  have w_10 : Int32.toInt (q_1.1 32 103) = Int32.toInt (q.1 32 103) := by rw [i_4.1 32 103 (by decide) (by decide)]
  refine dOk_G (dg_ok (show 0 ≤ Int32.toInt (q_1.1 32 15) by omega) (show Int32.toInt (q_1.1 32 15) < ((Int32.toNatClampNeg (q_1.1 32 103) : Nat) : Int) by rw [cl_eq (show 0 ≤ Int32.toInt (q_1.1 32 103) by omega)]; omega)) ?_
  have n_11 : ((Int32.toNatClampNeg (q_1.1 32 15) : Nat) : Int) = Int32.toInt (q_1.1 32 15) := cl_eq (by omega)
  refine dOk_L (fun v_12 ev_12 => ?_)
  exact dOk_some (show (TC q_1) ∧ (cFr [37, 42, 44] [(32, 17), (32, 18)] q q_1) from ⟨i_3, hFq_1⟩)
