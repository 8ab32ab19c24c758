set_option maxHeartbeats 4000000 in
set_option maxRecDepth 100000 in
theorem ok_X4_wordIn_s24_t1 (q : dK) (hT : TC q) (hp0 : ¬ Int32.toInt (q.1 24 0) = 0) : dOk (zX4_wordIn_s24_t1 q) (fun (o : Int32 × dK) => (o.2 = q) ∧ (-1 ≤ Int32.toInt o.1 ∧ Int32.toInt o.1 ≤ 15)) := by
  unfold zX4_wordIn_s24_t1
  unfold zX4_wordIn_s24_t1_7
  refine dFix_ok (fun (a : dK × Int32 × Int32 × Int32) => (a.1 = q) ∧ (0 ≤ Int32.toInt a.2.2.2) ∧ (Int32.toInt a.2.2.2 ≤ 15) ∧ (0 ≤ Int32.toInt a.2.2.1) ∧ (Int32.toInt a.2.2.1 ≤ Int32.toInt a.2.2.2) ∧ (0 ≤ Int32.toInt a.2.1) ∧ (Int32.toInt a.2.1 ≤ Int32.toInt a.2.2.2)) (fun (a : dK × Int32 × Int32 × Int32) => (15 - Int32.toInt a.2.2.2).toNat) ?_ _ ?_ _ (dF_gt ?_)
  · intro a ha k_2 hk_1
    obtain ⟨q_3, x2_4, x3_5, x4_6⟩ := a
    replace ha : (q_3 = q) ∧ (0 ≤ Int32.toInt x4_6) ∧ (Int32.toInt x4_6 ≤ 15) ∧ (0 ≤ Int32.toInt x3_5) ∧ (Int32.toInt x3_5 ≤ Int32.toInt x4_6) ∧ (0 ≤ Int32.toInt x2_4) ∧ (Int32.toInt x2_4 ≤ Int32.toInt x4_6) := ha
    obtain ⟨a_7, a_8, a_9, a_10, a_11, a_12, a_13⟩ := ha
    show dOk (zX4_wordIn_s24_t1_7b  (fun q x2 x3 x4 => k_2 (q, x2, x3, x4)) q_3 x2_4 x3_5 x4_6) _
    unfold zX4_wordIn_s24_t1_7b
    subst q_3
    refine dOk_le (A := 15) (B := Int32.toInt x4_6) (by decide) rfl (fun c_14 => ?_) (fun c_15 => ?_)
    · unfold zX4_wordIn_s24_t1_62
      exact dOk_some (show (q = q) ∧ (-1 ≤ (-1 : Int) ∧ (-1 : Int) ≤ 15) from ⟨rfl, by omega⟩)
    · refine dOk_eq (A := Int32.toInt (q.1 24 4)) (B := 1) rfl (by decide) (fun c_16z c_16 => ?_) (fun c_17z c_17 => ?_)
      · refine dOk_G (dg_ok (show 0 ≤ Int32.toInt x4_6 by omega) (show Int32.toInt x4_6 < ((15 : Nat) : Int) by omega)) ?_
        have n_19 : ((Int32.toNatClampNeg x4_6 : Nat) : Int) = Int32.toInt x4_6 := cl_eq (by omega)
        refine dOk_L (fun v_20 ev_20 => ?_)
        have w_21 : Int32.toInt v_20 = Int32.toInt (chV 1 x4_6) := by rw [ev_20]
        refine dOk_eq (A := Int32.toInt v_20) (B := 32) rfl (by decide) (fun c_22z c_22 => ?_) (fun c_23z c_23 => ?_)
        · have f_25 : 0 ≤ Int32.toInt (q.1 24 0) ∧ Int32.toInt (q.1 24 0) ≤ 1 := rg_24_0 hT
          refine dOk_B (ok_X4_isSame_s24_t1 q x3_5 x4_6 hT (show ¬ Int32.toInt (q.1 24 0) = 0 by omega) (show 0 ≤ Int32.toInt x3_5 by omega) (show Int32.toInt x3_5 ≤ Int32.toInt x4_6 by omega) (show Int32.toInt x4_6 ≤ 15 by omega)) (fun r_26 q_27 h_28 => ?_)
          replace h_28 : (q_27 = q) ∧ ((Int32.toInt r_26 = 0 ∨ Int32.toInt r_26 = 1)) := h_28
          obtain ⟨i_29, i_30⟩ := h_28
          subst q_27
          refine dOk_eq (A := Int32.toInt r_26) (B := 0) rfl (by decide) (fun c_31z c_31 => ?_) (fun c_32z c_32 => ?_)
          · unfold zX4_wordIn_s24_t1_56
            try have t_34 : Int32.toInt (x2_4 + 1) = Int32.toInt x2_4 + 1 := ti_add rfl (by decide) (by omega) (by omega)
            try have t_35 : Int32.toInt (x4_6 + 1) = Int32.toInt x4_6 + 1 := ti_add rfl (by decide) (by omega) (by omega)
            exact hk_1 (q, (x2_4 + 1), (x4_6 + 1), (x4_6 + 1)) (show (q = q) ∧ (0 ≤ Int32.toInt (x4_6 + 1)) ∧ (Int32.toInt (x4_6 + 1) ≤ 15) ∧ (0 ≤ Int32.toInt (x4_6 + 1)) ∧ (Int32.toInt (x4_6 + 1) ≤ Int32.toInt (x4_6 + 1)) ∧ (0 ≤ Int32.toInt (x2_4 + 1)) ∧ (Int32.toInt (x2_4 + 1) ≤ Int32.toInt (x4_6 + 1)) from ⟨rfl, by omega, by omega, by omega, by omega, by omega, by omega⟩) (show (15 - Int32.toInt (x4_6 + 1)).toNat < (15 - Int32.toInt x4_6).toNat by omega)
          · exact dOk_some (show (q = q) ∧ (-1 ≤ Int32.toInt x2_4 ∧ Int32.toInt x2_4 ≤ 15) from ⟨rfl, by omega⟩)
        · unfold zX4_wordIn_s24_t1_56
          try have t_36 : Int32.toInt (x4_6 + 1) = Int32.toInt x4_6 + 1 := ti_add rfl (by decide) (by omega) (by omega)
          exact hk_1 (q, x2_4, x3_5, (x4_6 + 1)) (show (q = q) ∧ (0 ≤ Int32.toInt (x4_6 + 1)) ∧ (Int32.toInt (x4_6 + 1) ≤ 15) ∧ (0 ≤ Int32.toInt x3_5) ∧ (Int32.toInt x3_5 ≤ Int32.toInt (x4_6 + 1)) ∧ (0 ≤ Int32.toInt x2_4) ∧ (Int32.toInt x2_4 ≤ Int32.toInt (x4_6 + 1)) from ⟨rfl, by omega, by omega, by omega, by omega, by omega, by omega⟩) (show (15 - Int32.toInt (x4_6 + 1)).toNat < (15 - Int32.toInt x4_6).toNat by omega)
      · unfold zX4_wordIn_s24_t1_62
        exact dOk_some (show (q = q) ∧ (-1 ≤ (-1 : Int) ∧ (-1 : Int) ≤ 15) from ⟨rfl, by omega⟩)
  · exact (show (q = q) ∧ (0 ≤ (0 : Int)) ∧ ((0 : Int) ≤ 15) ∧ (0 ≤ (0 : Int)) ∧ ((0 : Int) ≤ (0 : Int)) ∧ (0 ≤ (0 : Int)) ∧ ((0 : Int) ≤ (0 : Int)) from ⟨rfl, by omega, by omega, by omega, by omega, by omega, by omega⟩)
  · show (15 - (0 : Int)).toNat < 1000000000000
    omega

set_option maxHeartbeats 4000000 in
set_option maxRecDepth 100000 in
theorem ok_X4_isSame_s24_t2 (q : dK) (p2 : Int32) (p3 : Int32) (hT : TC q) (hp0 : ¬ Int32.toInt (q.1 24 0) = 0) (hp1 : 0 ≤ Int32.toInt p2) (hp2 : Int32.toInt p2 ≤ Int32.toInt p3) (hp3 : Int32.toInt p3 ≤ 35) : dOk (zX4_isSame_s24_t2 q p2 p3) (fun (o : Int32 × dK) => (o.2 = q) ∧ ((Int32.toInt o.1 = 0 ∨ Int32.toInt o.1 = 1))) := by
  unfold zX4_isSame_s24_t2
  try have t_1 : Int32.toInt (p3 - p2) = Int32.toInt p3 - Int32.toInt p2 := ti_sub rfl rfl (by omega) (by omega)
  have f_2 : 0 ≤ Int32.toInt (q.1 24 6) ∧ Int32.toInt (q.1 24 6) ≤ 400 := rg_24_6 hT
  have f_3 : 0 ≤ Int32.toInt (q.1 24 5) ∧ Int32.toInt (q.1 24 5) ≤ 400 := rg_24_5 hT
  try have t_4 : Int32.toInt (q.1 24 6 - q.1 24 5) = Int32.toInt (q.1 24 6) - Int32.toInt (q.1 24 5) := ti_sub rfl rfl (by omega) (by omega)
  refine dOk_eq (A := Int32.toInt (p3 - p2)) (B := Int32.toInt (q.1 24 6 - q.1 24 5)) rfl rfl (fun c_5z c_5 => ?_) (fun c_6z c_6 => ?_)
  · unfold zX4_isSame_s24_t2_20
    refine dFix_ok (fun (a : dK × Int32 × Int32 × Int32) => (a.1 = q) ∧ (a.2.1 = p2) ∧ (a.2.2.1 = p3) ∧ (Int32.toInt a.2.1 ≤ Int32.toInt a.2.2.2) ∧ (Int32.toInt a.2.2.2 ≤ 35)) (fun (a : dK × Int32 × Int32 × Int32) => (35 - Int32.toInt a.2.2.2).toNat) ?_ _ ?_ _ (dF_gt ?_)
    · intro a ha k_9 hk_8
      obtain ⟨q_10, x2_11, x3_12, x4_13⟩ := a
      replace ha : (q_10 = q) ∧ (x2_11 = p2) ∧ (x3_12 = p3) ∧ (Int32.toInt x2_11 ≤ Int32.toInt x4_13) ∧ (Int32.toInt x4_13 ≤ 35) := ha
      obtain ⟨a_14, a_15, a_16, a_17, a_18⟩ := ha
      show dOk (zX4_isSame_s24_t2_20b  (fun q x2 x3 x4 => k_9 (q, x2, x3, x4)) q_10 x2_11 x3_12 x4_13) _
      unfold zX4_isSame_s24_t2_20b
      subst q_10
      subst x2_11
      subst x3_12
      refine dOk_le (A := Int32.toInt p3) (B := Int32.toInt x4_13) rfl rfl (fun c_19 => ?_) (fun c_20 => ?_)
      · exact dOk_some (show (q = q) ∧ (((1 : Int) = 0 ∨ (1 : Int) = 1)) from ⟨rfl, by omega⟩)
      · refine dOk_G (dg_ok (show 0 ≤ Int32.toInt x4_13 by omega) (show Int32.toInt x4_13 < ((35 : Nat) : Int) by omega)) ?_
        have n_21 : ((Int32.toNatClampNeg x4_13 : Nat) : Int) = Int32.toInt x4_13 := cl_eq (by omega)
        refine dOk_L (fun v_22 ev_22 => ?_)
        have w_23 : Int32.toInt v_22 = Int32.toInt (chV 2 x4_13) := by rw [ev_22]
        have f_24 : 0 ≤ Int32.toInt (q.1 24 0) ∧ Int32.toInt (q.1 24 0) ≤ 1 := rg_24_0 hT
        refine dOk_G (dnz_ok (show ¬ Int32.toInt (q.1 24 0) = 0 by omega)) ?_
        try have t_25 : Int32.toInt (q.1 24 5 + x4_13) = Int32.toInt (q.1 24 5) + Int32.toInt x4_13 := ti_add rfl rfl (by omega) (by omega)
        try have t_26 : Int32.toInt (q.1 24 5 + x4_13 - p2) = Int32.toInt (q.1 24 5 + x4_13) - Int32.toInt p2 := ti_sub rfl rfl (by omega) (by omega)
        refine dOk_G (dg_ok (show 0 ≤ Int32.toInt (q.1 24 5 + x4_13 - p2) by omega) (show Int32.toInt (q.1 24 5 + x4_13 - p2) < ((400 : Nat) : Int) by omega)) ?_
        have n_27 : ((Int32.toNatClampNeg (q.1 24 5 + x4_13 - p2) : Nat) : Int) = Int32.toInt (q.1 24 5 + x4_13 - p2) := cl_eq (by omega)
        refine dOk_L (fun v_28 ev_28 => ?_)
        refine dOk_eq (A := Int32.toInt v_22) (B := Int32.toInt v_28) rfl rfl (fun c_29z c_29 => ?_) (fun c_30z c_30 => ?_)
        · try have t_32 : Int32.toInt (x4_13 + 1) = Int32.toInt x4_13 + 1 := ti_add rfl (by decide) (by omega) (by omega)
          exact hk_8 (q, p2, p3, (x4_13 + 1)) (show (q = q) ∧ (p2 = p2) ∧ (p3 = p3) ∧ (Int32.toInt p2 ≤ Int32.toInt (x4_13 + 1)) ∧ (Int32.toInt (x4_13 + 1) ≤ 35) from ⟨rfl, rfl, rfl, by omega, by omega⟩) (show (35 - Int32.toInt (x4_13 + 1)).toNat < (35 - Int32.toInt x4_13).toNat by omega)
        · exact dOk_some (show (q = q) ∧ (((0 : Int) = 0 ∨ (0 : Int) = 1)) from ⟨rfl, by omega⟩)
    · exact (show (q = q) ∧ (p2 = p2) ∧ (p3 = p3) ∧ (Int32.toInt p2 ≤ Int32.toInt p2) ∧ (Int32.toInt p2 ≤ 35) from ⟨rfl, rfl, rfl, by omega, by omega⟩)
    · show (35 - Int32.toInt p2).toNat < 1000000000000
      omega
  · exact dOk_some (show (q = q) ∧ (((0 : Int) = 0 ∨ (0 : Int) = 1)) from ⟨rfl, by omega⟩)

set_option maxHeartbeats 4000000 in
set_option maxRecDepth 100000 in
theorem ok_X4_wordIn_s24_t2 (q : dK) (hT : TC q) (hp0 : ¬ Int32.toInt (q.1 24 0) = 0) : dOk (zX4_wordIn_s24_t2 q) (fun (o : Int32 × dK) => (o.2 = q) ∧ (-1 ≤ Int32.toInt o.1 ∧ Int32.toInt o.1 ≤ 35)) := by
  unfold zX4_wordIn_s24_t2
  unfold zX4_wordIn_s24_t2_7
  refine dFix_ok (fun (a : dK × Int32 × Int32 × Int32) => (a.1 = q) ∧ (0 ≤ Int32.toInt a.2.2.2) ∧ (Int32.toInt a.2.2.2 ≤ 35) ∧ (0 ≤ Int32.toInt a.2.2.1) ∧ (Int32.toInt a.2.2.1 ≤ Int32.toInt a.2.2.2) ∧ (0 ≤ Int32.toInt a.2.1) ∧ (Int32.toInt a.2.1 ≤ Int32.toInt a.2.2.2)) (fun (a : dK × Int32 × Int32 × Int32) => (35 - Int32.toInt a.2.2.2).toNat) ?_ _ ?_ _ (dF_gt ?_)
  · intro a ha k_2 hk_1
    obtain ⟨q_3, x2_4, x3_5, x4_6⟩ := a
    replace ha : (q_3 = q) ∧ (0 ≤ Int32.toInt x4_6) ∧ (Int32.toInt x4_6 ≤ 35) ∧ (0 ≤ Int32.toInt x3_5) ∧ (Int32.toInt x3_5 ≤ Int32.toInt x4_6) ∧ (0 ≤ Int32.toInt x2_4) ∧ (Int32.toInt x2_4 ≤ Int32.toInt x4_6) := ha
    obtain ⟨a_7, a_8, a_9, a_10, a_11, a_12, a_13⟩ := ha
    show dOk (zX4_wordIn_s24_t2_7b  (fun q x2 x3 x4 => k_2 (q, x2, x3, x4)) q_3 x2_4 x3_5 x4_6) _
    unfold zX4_wordIn_s24_t2_7b
    subst q_3
    refine dOk_le (A := 35) (B := Int32.toInt x4_6) (by decide) rfl (fun c_14 => ?_) (fun c_15 => ?_)
    · unfold zX4_wordIn_s24_t2_62
      exact dOk_some (show (q = q) ∧ (-1 ≤ (-1 : Int) ∧ (-1 : Int) ≤ 35) from ⟨rfl, by omega⟩)
    · refine dOk_eq (A := Int32.toInt (q.1 24 4)) (B := 1) rfl (by decide) (fun c_16z c_16 => ?_) (fun c_17z c_17 => ?_)
      · refine dOk_G (dg_ok (show 0 ≤ Int32.toInt x4_6 by omega) (show Int32.toInt x4_6 < ((35 : Nat) : Int) by omega)) ?_
        have n_19 : ((Int32.toNatClampNeg x4_6 : Nat) : Int) = Int32.toInt x4_6 := cl_eq (by omega)
        refine dOk_L (fun v_20 ev_20 => ?_)
        have w_21 : Int32.toInt v_20 = Int32.toInt (chV 2 x4_6) := by rw [ev_20]
        refine dOk_eq (A := Int32.toInt v_20) (B := 32) rfl (by decide) (fun c_22z c_22 => ?_) (fun c_23z c_23 => ?_)
        · have f_25 : 0 ≤ Int32.toInt (q.1 24 0) ∧ Int32.toInt (q.1 24 0) ≤ 1 := rg_24_0 hT
          refine dOk_B (ok_X4_isSame_s24_t2 q x3_5 x4_6 hT (show ¬ Int32.toInt (q.1 24 0) = 0 by omega) (show 0 ≤ Int32.toInt x3_5 by omega) (show Int32.toInt x3_5 ≤ Int32.toInt x4_6 by omega) (show Int32.toInt x4_6 ≤ 35 by omega)) (fun r_26 q_27 h_28 => ?_)
          replace h_28 : (q_27 = q) ∧ ((Int32.toInt r_26 = 0 ∨ Int32.toInt r_26 = 1)) := h_28
          obtain ⟨i_29, i_30⟩ := h_28
          subst q_27
          refine dOk_eq (A := Int32.toInt r_26) (B := 0) rfl (by decide) (fun c_31z c_31 => ?_) (fun c_32z c_32 => ?_)
          · unfold zX4_wordIn_s24_t2_56
            try have t_34 : Int32.toInt (x2_4 + 1) = Int32.toInt x2_4 + 1 := ti_add rfl (by decide) (by omega) (by omega)
            try have t_35 : Int32.toInt (x4_6 + 1) = Int32.toInt x4_6 + 1 := ti_add rfl (by decide) (by omega) (by omega)
            exact hk_1 (q, (x2_4 + 1), (x4_6 + 1), (x4_6 + 1)) (show (q = q) ∧ (0 ≤ Int32.toInt (x4_6 + 1)) ∧ (Int32.toInt (x4_6 + 1) ≤ 35) ∧ (0 ≤ Int32.toInt (x4_6 + 1)) ∧ (Int32.toInt (x4_6 + 1) ≤ Int32.toInt (x4_6 + 1)) ∧ (0 ≤ Int32.toInt (x2_4 + 1)) ∧ (Int32.toInt (x2_4 + 1) ≤ Int32.toInt (x4_6 + 1)) from ⟨rfl, by omega, by omega, by omega, by omega, by omega, by omega⟩) (show (35 - Int32.toInt (x4_6 + 1)).toNat < (35 - Int32.toInt x4_6).toNat by omega)
          · exact dOk_some (show (q = q) ∧ (-1 ≤ Int32.toInt x2_4 ∧ Int32.toInt x2_4 ≤ 35) from ⟨rfl, by omega⟩)
        · unfold zX4_wordIn_s24_t2_56
          try have t_36 : Int32.toInt (x4_6 + 1) = Int32.toInt x4_6 + 1 := ti_add rfl (by decide) (by omega) (by omega)
          exact hk_1 (q, x2_4, x3_5, (x4_6 + 1)) (show (q = q) ∧ (0 ≤ Int32.toInt (x4_6 + 1)) ∧ (Int32.toInt (x4_6 + 1) ≤ 35) ∧ (0 ≤ Int32.toInt x3_5) ∧ (Int32.toInt x3_5 ≤ Int32.toInt (x4_6 + 1)) ∧ (0 ≤ Int32.toInt x2_4) ∧ (Int32.toInt x2_4 ≤ Int32.toInt (x4_6 + 1)) from ⟨rfl, by omega, by omega, by omega, by omega, by omega, by omega⟩) (show (35 - Int32.toInt (x4_6 + 1)).toNat < (35 - Int32.toInt x4_6).toNat by omega)
      · unfold zX4_wordIn_s24_t2_62
        exact dOk_some (show (q = q) ∧ (-1 ≤ (-1 : Int) ∧ (-1 : Int) ≤ 35) from ⟨rfl, by omega⟩)
  · exact (show (q = q) ∧ (0 ≤ (0 : Int)) ∧ ((0 : Int) ≤ 35) ∧ (0 ≤ (0 : Int)) ∧ ((0 : Int) ≤ (0 : Int)) ∧ (0 ≤ (0 : Int)) ∧ ((0 : Int) ≤ (0 : Int)) from ⟨rfl, by omega, by omega, by omega, by omega, by omega, by omega⟩)
  · show (35 - (0 : Int)).toNat < 1000000000000
    omega

set_option maxHeartbeats 4000000 in
set_option maxRecDepth 100000 in
theorem ok_X4_isSame_s24_t3 (q : dK) (p2 : Int32) (p3 : Int32) (hT : TC q) (hp0 : ¬ Int32.toInt (q.1 24 0) = 0) (hp1 : 0 ≤ Int32.toInt p2) (hp2 : Int32.toInt p2 ≤ Int32.toInt p3) (hp3 : Int32.toInt p3 ≤ 47) : dOk (zX4_isSame_s24_t3 q p2 p3) (fun (o : Int32 × dK) => (o.2 = q) ∧ ((Int32.toInt o.1 = 0 ∨ Int32.toInt o.1 = 1))) := by
  unfold zX4_isSame_s24_t3
  try have t_1 : Int32.toInt (p3 - p2) = Int32.toInt p3 - Int32.toInt p2 := ti_sub rfl rfl (by omega) (by omega)
  have f_2 : 0 ≤ Int32.toInt (q.1 24 6) ∧ Int32.toInt (q.1 24 6) ≤ 400 := rg_24_6 hT
  have f_3 : 0 ≤ Int32.toInt (q.1 24 5) ∧ Int32.toInt (q.1 24 5) ≤ 400 := rg_24_5 hT
  try have t_4 : Int32.toInt (q.1 24 6 - q.1 24 5) = Int32.toInt (q.1 24 6) - Int32.toInt (q.1 24 5) := ti_sub rfl rfl (by omega) (by omega)
  refine dOk_eq (A := Int32.toInt (p3 - p2)) (B := Int32.toInt (q.1 24 6 - q.1 24 5)) rfl rfl (fun c_5z c_5 => ?_) (fun c_6z c_6 => ?_)
  · unfold zX4_isSame_s24_t3_20
    refine dFix_ok (fun (a : dK × Int32 × Int32 × Int32) => (a.1 = q) ∧ (a.2.1 = p2) ∧ (a.2.2.1 = p3) ∧ (Int32.toInt a.2.1 ≤ Int32.toInt a.2.2.2) ∧ (Int32.toInt a.2.2.2 ≤ 47)) (fun (a : dK × Int32 × Int32 × Int32) => (47 - Int32.toInt a.2.2.2).toNat) ?_ _ ?_ _ (dF_gt ?_)
    · intro a ha k_9 hk_8
      obtain ⟨q_10, x2_11, x3_12, x4_13⟩ := a
      replace ha : (q_10 = q) ∧ (x2_11 = p2) ∧ (x3_12 = p3) ∧ (Int32.toInt x2_11 ≤ Int32.toInt x4_13) ∧ (Int32.toInt x4_13 ≤ 47) := ha
      obtain ⟨a_14, a_15, a_16, a_17, a_18⟩ := ha
      show dOk (zX4_isSame_s24_t3_20b  (fun q x2 x3 x4 => k_9 (q, x2, x3, x4)) q_10 x2_11 x3_12 x4_13) _
      unfold zX4_isSame_s24_t3_20b
      subst q_10
      subst x2_11
      subst x3_12
      refine dOk_le (A := Int32.toInt p3) (B := Int32.toInt x4_13) rfl rfl (fun c_19 => ?_) (fun c_20 => ?_)
      · exact dOk_some (show (q = q) ∧ (((1 : Int) = 0 ∨ (1 : Int) = 1)) from ⟨rfl, by omega⟩)
      · refine dOk_G (dg_ok (show 0 ≤ Int32.toInt x4_13 by omega) (show Int32.toInt x4_13 < ((47 : Nat) : Int) by omega)) ?_
        have n_21 : ((Int32.toNatClampNeg x4_13 : Nat) : Int) = Int32.toInt x4_13 := cl_eq (by omega)
        refine dOk_L (fun v_22 ev_22 => ?_)
        have w_23 : Int32.toInt v_22 = Int32.toInt (chV 3 x4_13) := by rw [ev_22]
        have f_24 : 0 ≤ Int32.toInt (q.1 24 0) ∧ Int32.toInt (q.1 24 0) ≤ 1 := rg_24_0 hT
        refine dOk_G (dnz_ok (show ¬ Int32.toInt (q.1 24 0) = 0 by omega)) ?_
        try have t_25 : Int32.toInt (q.1 24 5 + x4_13) = Int32.toInt (q.1 24 5) + Int32.toInt x4_13 := ti_add rfl rfl (by omega) (by omega)
        try have t_26 : Int32.toInt (q.1 24 5 + x4_13 - p2) = Int32.toInt (q.1 24 5 + x4_13) - Int32.toInt p2 := ti_sub rfl rfl (by omega) (by omega)
        refine dOk_G (dg_ok (show 0 ≤ Int32.toInt (q.1 24 5 + x4_13 - p2) by omega) (show Int32.toInt (q.1 24 5 + x4_13 - p2) < ((400 : Nat) : Int) by omega)) ?_
        have n_27 : ((Int32.toNatClampNeg (q.1 24 5 + x4_13 - p2) : Nat) : Int) = Int32.toInt (q.1 24 5 + x4_13 - p2) := cl_eq (by omega)
        refine dOk_L (fun v_28 ev_28 => ?_)
        refine dOk_eq (A := Int32.toInt v_22) (B := Int32.toInt v_28) rfl rfl (fun c_29z c_29 => ?_) (fun c_30z c_30 => ?_)
        · try have t_32 : Int32.toInt (x4_13 + 1) = Int32.toInt x4_13 + 1 := ti_add rfl (by decide) (by omega) (by omega)
          exact hk_8 (q, p2, p3, (x4_13 + 1)) (show (q = q) ∧ (p2 = p2) ∧ (p3 = p3) ∧ (Int32.toInt p2 ≤ Int32.toInt (x4_13 + 1)) ∧ (Int32.toInt (x4_13 + 1) ≤ 47) from ⟨rfl, rfl, rfl, by omega, by omega⟩) (show (47 - Int32.toInt (x4_13 + 1)).toNat < (47 - Int32.toInt x4_13).toNat by omega)
        · exact dOk_some (show (q = q) ∧ (((0 : Int) = 0 ∨ (0 : Int) = 1)) from ⟨rfl, by omega⟩)
    · exact (show (q = q) ∧ (p2 = p2) ∧ (p3 = p3) ∧ (Int32.toInt p2 ≤ Int32.toInt p2) ∧ (Int32.toInt p2 ≤ 47) from ⟨rfl, rfl, rfl, by omega, by omega⟩)
    · show (47 - Int32.toInt p2).toNat < 1000000000000
      omega
  · exact dOk_some (show (q = q) ∧ (((0 : Int) = 0 ∨ (0 : Int) = 1)) from ⟨rfl, by omega⟩)

set_option maxHeartbeats 4000000 in
set_option maxRecDepth 100000 in
theorem ok_X4_wordIn_s24_t3 (q : dK) (hT : TC q) (hp0 : ¬ Int32.toInt (q.1 24 0) = 0) : dOk (zX4_wordIn_s24_t3 q) (fun (o : Int32 × dK) => (o.2 = q) ∧ (-1 ≤ Int32.toInt o.1 ∧ Int32.toInt o.1 ≤ 47)) := by
  unfold zX4_wordIn_s24_t3
  unfold zX4_wordIn_s24_t3_7
  refine dFix_ok (fun (a : dK × Int32 × Int32 × Int32) => (a.1 = q) ∧ (0 ≤ Int32.toInt a.2.2.2) ∧ (Int32.toInt a.2.2.2 ≤ 47) ∧ (0 ≤ Int32.toInt a.2.2.1) ∧ (Int32.toInt a.2.2.1 ≤ Int32.toInt a.2.2.2) ∧ (0 ≤ Int32.toInt a.2.1) ∧ (Int32.toInt a.2.1 ≤ Int32.toInt a.2.2.2)) (fun (a : dK × Int32 × Int32 × Int32) => (47 - Int32.toInt a.2.2.2).toNat) ?_ _ ?_ _ (dF_gt ?_)
  · intro a ha k_2 hk_1
    obtain ⟨q_3, x2_4, x3_5, x4_6⟩ := a
    replace ha : (q_3 = q) ∧ (0 ≤ Int32.toInt x4_6) ∧ (Int32.toInt x4_6 ≤ 47) ∧ (0 ≤ Int32.toInt x3_5) ∧ (Int32.toInt x3_5 ≤ Int32.toInt x4_6) ∧ (0 ≤ Int32.toInt x2_4) ∧ (Int32.toInt x2_4 ≤ Int32.toInt x4_6) := ha
    obtain ⟨a_7, a_8, a_9, a_10, a_11, a_12, a_13⟩ := ha
    show dOk (zX4_wordIn_s24_t3_7b  (fun q x2 x3 x4 => k_2 (q, x2, x3, x4)) q_3 x2_4 x3_5 x4_6) _
    unfold zX4_wordIn_s24_t3_7b
    subst q_3
    refine dOk_le (A := 47) (B := Int32.toInt x4_6) (by decide) rfl (fun c_14 => ?_) (fun c_15 => ?_)
    · unfold zX4_wordIn_s24_t3_62
      exact dOk_some (show (q = q) ∧ (-1 ≤ (-1 : Int) ∧ (-1 : Int) ≤ 47) from ⟨rfl, by omega⟩)
    · refine dOk_eq (A := Int32.toInt (q.1 24 4)) (B := 1) rfl (by decide) (fun c_16z c_16 => ?_) (fun c_17z c_17 => ?_)
      · refine dOk_G (dg_ok (show 0 ≤ Int32.toInt x4_6 by omega) (show Int32.toInt x4_6 < ((47 : Nat) : Int) by omega)) ?_
        have n_19 : ((Int32.toNatClampNeg x4_6 : Nat) : Int) = Int32.toInt x4_6 := cl_eq (by omega)
        refine dOk_L (fun v_20 ev_20 => ?_)
        have w_21 : Int32.toInt v_20 = Int32.toInt (chV 3 x4_6) := by rw [ev_20]
        refine dOk_eq (A := Int32.toInt v_20) (B := 32) rfl (by decide) (fun c_22z c_22 => ?_) (fun c_23z c_23 => ?_)
        · have f_25 : 0 ≤ Int32.toInt (q.1 24 0) ∧ Int32.toInt (q.1 24 0) ≤ 1 := rg_24_0 hT
          refine dOk_B (ok_X4_isSame_s24_t3 q x3_5 x4_6 hT (show ¬ Int32.toInt (q.1 24 0) = 0 by omega) (show 0 ≤ Int32.toInt x3_5 by omega) (show Int32.toInt x3_5 ≤ Int32.toInt x4_6 by omega) (show Int32.toInt x4_6 ≤ 47 by omega)) (fun r_26 q_27 h_28 => ?_)
          replace h_28 : (q_27 = q) ∧ ((Int32.toInt r_26 = 0 ∨ Int32.toInt r_26 = 1)) := h_28
          obtain ⟨i_29, i_30⟩ := h_28
          subst q_27
          refine dOk_eq (A := Int32.toInt r_26) (B := 0) rfl (by decide) (fun c_31z c_31 => ?_) (fun c_32z c_32 => ?_)
          · unfold zX4_wordIn_s24_t3_56
            try have t_34 : Int32.toInt (x2_4 + 1) = Int32.toInt x2_4 + 1 := ti_add rfl (by decide) (by omega) (by omega)
            try have t_35 : Int32.toInt (x4_6 + 1) = Int32.toInt x4_6 + 1 := ti_add rfl (by decide) (by omega) (by omega)
            exact hk_1 (q, (x2_4 + 1), (x4_6 + 1), (x4_6 + 1)) (show (q = q) ∧ (0 ≤ Int32.toInt (x4_6 + 1)) ∧ (Int32.toInt (x4_6 + 1) ≤ 47) ∧ (0 ≤ Int32.toInt (x4_6 + 1)) ∧ (Int32.toInt (x4_6 + 1) ≤ Int32.toInt (x4_6 + 1)) ∧ (0 ≤ Int32.toInt (x2_4 + 1)) ∧ (Int32.toInt (x2_4 + 1) ≤ Int32.toInt (x4_6 + 1)) from ⟨rfl, by omega, by omega, by omega, by omega, by omega, by omega⟩) (show (47 - Int32.toInt (x4_6 + 1)).toNat < (47 - Int32.toInt x4_6).toNat by omega)
          · exact dOk_some (show (q = q) ∧ (-1 ≤ Int32.toInt x2_4 ∧ Int32.toInt x2_4 ≤ 47) from ⟨rfl, by omega⟩)
        · unfold zX4_wordIn_s24_t3_56
          try have t_36 : Int32.toInt (x4_6 + 1) = Int32.toInt x4_6 + 1 := ti_add rfl (by decide) (by omega) (by omega)
          exact hk_1 (q, x2_4, x3_5, (x4_6 + 1)) (show (q = q) ∧ (0 ≤ Int32.toInt (x4_6 + 1)) ∧ (Int32.toInt (x4_6 + 1) ≤ 47) ∧ (0 ≤ Int32.toInt x3_5) ∧ (Int32.toInt x3_5 ≤ Int32.toInt (x4_6 + 1)) ∧ (0 ≤ Int32.toInt x2_4) ∧ (Int32.toInt x2_4 ≤ Int32.toInt (x4_6 + 1)) from ⟨rfl, by omega, by omega, by omega, by omega, by omega, by omega⟩) (show (47 - Int32.toInt (x4_6 + 1)).toNat < (47 - Int32.toInt x4_6).toNat by omega)
      · unfold zX4_wordIn_s24_t3_62
        exact dOk_some (show (q = q) ∧ (-1 ≤ (-1 : Int) ∧ (-1 : Int) ≤ 47) from ⟨rfl, by omega⟩)
  · exact (show (q = q) ∧ (0 ≤ (0 : Int)) ∧ ((0 : Int) ≤ 47) ∧ (0 ≤ (0 : Int)) ∧ ((0 : Int) ≤ (0 : Int)) ∧ (0 ≤ (0 : Int)) ∧ ((0 : Int) ≤ (0 : Int)) from ⟨rfl, by omega, by omega, by omega, by omega, by omega, by omega⟩)
  · show (47 - (0 : Int)).toNat < 1000000000000
    omega

set_option maxHeartbeats 4000000 in
set_option maxRecDepth 100000 in
theorem ok_X4_signIn_s24_t4 (q : dK) (p2 : Int32) (hT : TC q) (hp0 : ¬ Int32.toInt (q.1 24 0) = 0) (hp1 : 0 ≤ Int32.toInt p2) (hp2 : Int32.toInt p2 ≤ 10) : dOk (zX4_signIn_s24_t4 q p2) (fun (o : Int32 × dK) => (o.2 = q) ∧ (-1 ≤ Int32.toInt o.1) ∧ (Int32.toInt o.1 ≤ Int32.toInt p2 + 2)) := by
  unfold zX4_signIn_s24_t4
  unfold zX4_signIn_s24_t4_2
  refine dFix_ok (fun (a : dK × Int32 × Int32) => (a.1 = q) ∧ (a.2.1 = p2) ∧ (0 ≤ Int32.toInt a.2.2) ∧ (Int32.toInt a.2.2 ≤ 3)) (fun (a : dK × Int32 × Int32) => (3 - Int32.toInt a.2.2).toNat) ?_ _ ?_ _ (dF_gt ?_)
  · intro a ha k_2 hk_1
    obtain ⟨q_3, x2_4, x3_5⟩ := a
    replace ha : (q_3 = q) ∧ (x2_4 = p2) ∧ (0 ≤ Int32.toInt x3_5) ∧ (Int32.toInt x3_5 ≤ 3) := ha
    obtain ⟨a_6, a_7, a_8, a_9⟩ := ha
    show dOk (zX4_signIn_s24_t4_2b  (fun q x2 x3 => k_2 (q, x2, x3)) q_3 x2_4 x3_5) _
    unfold zX4_signIn_s24_t4_2b
    subst q_3
    subst x2_4
    refine dOk_le (A := 3) (B := Int32.toInt x3_5) (by decide) rfl (fun c_10 => ?_) (fun c_11 => ?_)
    · exact dOk_some (show (q = q) ∧ (-1 ≤ (-1 : Int)) ∧ ((-1 : Int) ≤ Int32.toInt p2 + 2) from ⟨rfl, by omega, by omega⟩)
    · refine dOk_G (dg_ok (show 0 ≤ Int32.toInt x3_5 by omega) (show Int32.toInt x3_5 < ((3 : Nat) : Int) by omega)) ?_
      have n_12 : ((Int32.toNatClampNeg x3_5 : Nat) : Int) = Int32.toInt x3_5 := cl_eq (by omega)
      refine dOk_L (fun v_13 ev_13 => ?_)
      have w_14 : Int32.toInt v_13 = Int32.toInt (chV 4 x3_5) := by rw [ev_13]
      have f_15 : 0 ≤ Int32.toInt (q.1 24 0) ∧ Int32.toInt (q.1 24 0) ≤ 1 := rg_24_0 hT
      refine dOk_B (ok_X4_isSign_s24 q v_13 hT (show ¬ Int32.toInt (q.1 24 0) = 0 by omega)) (fun r_16 q_17 h_18 => ?_)
      replace h_18 : (q_17 = q) ∧ ((Int32.toInt r_16 = 0 ∨ Int32.toInt r_16 = 1)) := h_18
      obtain ⟨i_19, i_20⟩ := h_18
      subst q_17
      refine dOk_eq (A := Int32.toInt r_16) (B := 0) rfl (by decide) (fun c_21z c_21 => ?_) (fun c_22z c_22 => ?_)
      · try have t_24 : Int32.toInt (x3_5 + 1) = Int32.toInt x3_5 + 1 := ti_add rfl (by decide) (by omega) (by omega)
        exact hk_1 (q, p2, (x3_5 + 1)) (show (q = q) ∧ (p2 = p2) ∧ (0 ≤ Int32.toInt (x3_5 + 1)) ∧ (Int32.toInt (x3_5 + 1) ≤ 3) from ⟨rfl, rfl, by omega, by omega⟩) (show (3 - Int32.toInt (x3_5 + 1)).toNat < (3 - Int32.toInt x3_5).toNat by omega)
      · try have t_25 : Int32.toInt (p2 + x3_5) = Int32.toInt p2 + Int32.toInt x3_5 := ti_add rfl rfl (by omega) (by omega)
        exact dOk_some (show (q = q) ∧ (-1 ≤ Int32.toInt (p2 + x3_5)) ∧ (Int32.toInt (p2 + x3_5) ≤ Int32.toInt p2 + 2) from ⟨rfl, by omega, by omega⟩)
  · exact (show (q = q) ∧ (p2 = p2) ∧ (0 ≤ (0 : Int)) ∧ ((0 : Int) ≤ 3) from ⟨rfl, rfl, by omega, by omega⟩)
  · show (3 - (0 : Int)).toNat < 1000000000000
    omega

set_option maxHeartbeats 4000000 in
set_option maxRecDepth 100000 in
theorem ok_X4_signIn_s24_t5 (q : dK) (p2 : Int32) (hT : TC q) (hp0 : ¬ Int32.toInt (q.1 24 0) = 0) (hp1 : 0 ≤ Int32.toInt p2) (hp2 : Int32.toInt p2 ≤ 10) : dOk (zX4_signIn_s24_t5 q p2) (fun (o : Int32 × dK) => (o.2 = q) ∧ (-1 ≤ Int32.toInt o.1) ∧ (Int32.toInt o.1 ≤ Int32.toInt p2 + 1)) := by
  unfold zX4_signIn_s24_t5
  unfold zX4_signIn_s24_t5_2
  refine dFix_ok (fun (a : dK × Int32 × Int32) => (a.1 = q) ∧ (a.2.1 = p2) ∧ (0 ≤ Int32.toInt a.2.2) ∧ (Int32.toInt a.2.2 ≤ 2)) (fun (a : dK × Int32 × Int32) => (2 - Int32.toInt a.2.2).toNat) ?_ _ ?_ _ (dF_gt ?_)
  · intro a ha k_2 hk_1
    obtain ⟨q_3, x2_4, x3_5⟩ := a
    replace ha : (q_3 = q) ∧ (x2_4 = p2) ∧ (0 ≤ Int32.toInt x3_5) ∧ (Int32.toInt x3_5 ≤ 2) := ha
    obtain ⟨a_6, a_7, a_8, a_9⟩ := ha
    show dOk (zX4_signIn_s24_t5_2b  (fun q x2 x3 => k_2 (q, x2, x3)) q_3 x2_4 x3_5) _
    unfold zX4_signIn_s24_t5_2b
    subst q_3
    subst x2_4
    refine dOk_le (A := 2) (B := Int32.toInt x3_5) (by decide) rfl (fun c_10 => ?_) (fun c_11 => ?_)
    · exact dOk_some (show (q = q) ∧ (-1 ≤ (-1 : Int)) ∧ ((-1 : Int) ≤ Int32.toInt p2 + 1) from ⟨rfl, by omega, by omega⟩)
    · refine dOk_G (dg_ok (show 0 ≤ Int32.toInt x3_5 by omega) (show Int32.toInt x3_5 < ((2 : Nat) : Int) by omega)) ?_
      have n_12 : ((Int32.toNatClampNeg x3_5 : Nat) : Int) = Int32.toInt x3_5 := cl_eq (by omega)
      refine dOk_L (fun v_13 ev_13 => ?_)
      have w_14 : Int32.toInt v_13 = Int32.toInt (chV 5 x3_5) := by rw [ev_13]
      have f_15 : 0 ≤ Int32.toInt (q.1 24 0) ∧ Int32.toInt (q.1 24 0) ≤ 1 := rg_24_0 hT
      refine dOk_B (ok_X4_isSign_s24 q v_13 hT (show ¬ Int32.toInt (q.1 24 0) = 0 by omega)) (fun r_16 q_17 h_18 => ?_)
      replace h_18 : (q_17 = q) ∧ ((Int32.toInt r_16 = 0 ∨ Int32.toInt r_16 = 1)) := h_18
      obtain ⟨i_19, i_20⟩ := h_18
      subst q_17
      refine dOk_eq (A := Int32.toInt r_16) (B := 0) rfl (by decide) (fun c_21z c_21 => ?_) (fun c_22z c_22 => ?_)
      · try have t_24 : Int32.toInt (x3_5 + 1) = Int32.toInt x3_5 + 1 := ti_add rfl (by decide) (by omega) (by omega)
        exact hk_1 (q, p2, (x3_5 + 1)) (show (q = q) ∧ (p2 = p2) ∧ (0 ≤ Int32.toInt (x3_5 + 1)) ∧ (Int32.toInt (x3_5 + 1) ≤ 2) from ⟨rfl, rfl, by omega, by omega⟩) (show (2 - Int32.toInt (x3_5 + 1)).toNat < (2 - Int32.toInt x3_5).toNat by omega)
      · try have t_25 : Int32.toInt (p2 + x3_5) = Int32.toInt p2 + Int32.toInt x3_5 := ti_add rfl rfl (by omega) (by omega)
        exact dOk_some (show (q = q) ∧ (-1 ≤ Int32.toInt (p2 + x3_5)) ∧ (Int32.toInt (p2 + x3_5) ≤ Int32.toInt p2 + 1) from ⟨rfl, by omega, by omega⟩)
  · exact (show (q = q) ∧ (p2 = p2) ∧ (0 ≤ (0 : Int)) ∧ ((0 : Int) ≤ 2) from ⟨rfl, rfl, by omega, by omega⟩)
  · show (2 - (0 : Int)).toNat < 1000000000000
    omega

set_option maxHeartbeats 4000000 in
set_option maxRecDepth 100000 in
theorem ok_X4_isSame_s24_t6 (q : dK) (p2 : Int32) (p3 : Int32) (hT : TC q) (hp0 : ¬ Int32.toInt (q.1 24 0) = 0) (hp1 : 0 ≤ Int32.toInt p2) (hp2 : Int32.toInt p2 ≤ Int32.toInt p3) (hp3 : Int32.toInt p3 ≤ 5) : dOk (zX4_isSame_s24_t6 q p2 p3) (fun (o : Int32 × dK) => (o.2 = q) ∧ ((Int32.toInt o.1 = 0 ∨ Int32.toInt o.1 = 1))) := by
  unfold zX4_isSame_s24_t6
  try have t_1 : Int32.toInt (p3 - p2) = Int32.toInt p3 - Int32.toInt p2 := ti_sub rfl rfl (by omega) (by omega)
  have f_2 : 0 ≤ Int32.toInt (q.1 24 6) ∧ Int32.toInt (q.1 24 6) ≤ 400 := rg_24_6 hT
  have f_3 : 0 ≤ Int32.toInt (q.1 24 5) ∧ Int32.toInt (q.1 24 5) ≤ 400 := rg_24_5 hT
  try have t_4 : Int32.toInt (q.1 24 6 - q.1 24 5) = Int32.toInt (q.1 24 6) - Int32.toInt (q.1 24 5) := ti_sub rfl rfl (by omega) (by omega)
  refine dOk_eq (A := Int32.toInt (p3 - p2)) (B := Int32.toInt (q.1 24 6 - q.1 24 5)) rfl rfl (fun c_5z c_5 => ?_) (fun c_6z c_6 => ?_)
  · unfold zX4_isSame_s24_t6_20
    refine dFix_ok (fun (a : dK × Int32 × Int32 × Int32) => (a.1 = q) ∧ (a.2.1 = p2) ∧ (a.2.2.1 = p3) ∧ (Int32.toInt a.2.1 ≤ Int32.toInt a.2.2.2) ∧ (Int32.toInt a.2.2.2 ≤ 5)) (fun (a : dK × Int32 × Int32 × Int32) => (5 - Int32.toInt a.2.2.2).toNat) ?_ _ ?_ _ (dF_gt ?_)
    · intro a ha k_9 hk_8
      obtain ⟨q_10, x2_11, x3_12, x4_13⟩ := a
      replace ha : (q_10 = q) ∧ (x2_11 = p2) ∧ (x3_12 = p3) ∧ (Int32.toInt x2_11 ≤ Int32.toInt x4_13) ∧ (Int32.toInt x4_13 ≤ 5) := ha
      obtain ⟨a_14, a_15, a_16, a_17, a_18⟩ := ha
      show dOk (zX4_isSame_s24_t6_20b  (fun q x2 x3 x4 => k_9 (q, x2, x3, x4)) q_10 x2_11 x3_12 x4_13) _
      unfold zX4_isSame_s24_t6_20b
      subst q_10
      subst x2_11
      subst x3_12
      refine dOk_le (A := Int32.toInt p3) (B := Int32.toInt x4_13) rfl rfl (fun c_19 => ?_) (fun c_20 => ?_)
      · exact dOk_some (show (q = q) ∧ (((1 : Int) = 0 ∨ (1 : Int) = 1)) from ⟨rfl, by omega⟩)
      · refine dOk_G (dg_ok (show 0 ≤ Int32.toInt x4_13 by omega) (show Int32.toInt x4_13 < ((5 : Nat) : Int) by omega)) ?_
        have n_21 : ((Int32.toNatClampNeg x4_13 : Nat) : Int) = Int32.toInt x4_13 := cl_eq (by omega)
        refine dOk_L (fun v_22 ev_22 => ?_)
        have w_23 : Int32.toInt v_22 = Int32.toInt (chV 6 x4_13) := by rw [ev_22]
        have f_24 : 0 ≤ Int32.toInt (q.1 24 0) ∧ Int32.toInt (q.1 24 0) ≤ 1 := rg_24_0 hT
        refine dOk_G (dnz_ok (show ¬ Int32.toInt (q.1 24 0) = 0 by omega)) ?_
        try have t_25 : Int32.toInt (q.1 24 5 + x4_13) = Int32.toInt (q.1 24 5) + Int32.toInt x4_13 := ti_add rfl rfl (by omega) (by omega)
        try have t_26 : Int32.toInt (q.1 24 5 + x4_13 - p2) = Int32.toInt (q.1 24 5 + x4_13) - Int32.toInt p2 := ti_sub rfl rfl (by omega) (by omega)
        refine dOk_G (dg_ok (show 0 ≤ Int32.toInt (q.1 24 5 + x4_13 - p2) by omega) (show Int32.toInt (q.1 24 5 + x4_13 - p2) < ((400 : Nat) : Int) by omega)) ?_
        have n_27 : ((Int32.toNatClampNeg (q.1 24 5 + x4_13 - p2) : Nat) : Int) = Int32.toInt (q.1 24 5 + x4_13 - p2) := cl_eq (by omega)
        refine dOk_L (fun v_28 ev_28 => ?_)
        refine dOk_eq (A := Int32.toInt v_22) (B := Int32.toInt v_28) rfl rfl (fun c_29z c_29 => ?_) (fun c_30z c_30 => ?_)
        · try have t_32 : Int32.toInt (x4_13 + 1) = Int32.toInt x4_13 + 1 := ti_add rfl (by decide) (by omega) (by omega)
          exact hk_8 (q, p2, p3, (x4_13 + 1)) (show (q = q) ∧ (p2 = p2) ∧ (p3 = p3) ∧ (Int32.toInt p2 ≤ Int32.toInt (x4_13 + 1)) ∧ (Int32.toInt (x4_13 + 1) ≤ 5) from ⟨rfl, rfl, rfl, by omega, by omega⟩) (show (5 - Int32.toInt (x4_13 + 1)).toNat < (5 - Int32.toInt x4_13).toNat by omega)
        · exact dOk_some (show (q = q) ∧ (((0 : Int) = 0 ∨ (0 : Int) = 1)) from ⟨rfl, by omega⟩)
    · exact (show (q = q) ∧ (p2 = p2) ∧ (p3 = p3) ∧ (Int32.toInt p2 ≤ Int32.toInt p2) ∧ (Int32.toInt p2 ≤ 5) from ⟨rfl, rfl, rfl, by omega, by omega⟩)
    · show (5 - Int32.toInt p2).toNat < 1000000000000
      omega
  · exact dOk_some (show (q = q) ∧ (((0 : Int) = 0 ∨ (0 : Int) = 1)) from ⟨rfl, by omega⟩)

set_option maxHeartbeats 4000000 in
set_option maxRecDepth 100000 in
theorem ok_X4_isWord_s24_t6 (q : dK) (hT : TC q) (hp0 : ¬ Int32.toInt (q.1 24 0) = 0) : dOk (zX4_isWord_s24_t6 q) (fun (o : Int32 × dK) => (o.2 = q) ∧ ((Int32.toInt o.1 = 0 ∨ Int32.toInt o.1 = 1))) := by
  unfold zX4_isWord_s24_t6
  refine dOk_eq (A := Int32.toInt (q.1 24 4)) (B := 1) rfl (by decide) (fun c_1z c_1 => ?_) (fun c_2z c_2 => ?_)
  · have f_4 : 0 ≤ Int32.toInt (q.1 24 0) ∧ Int32.toInt (q.1 24 0) ≤ 1 := rg_24_0 hT
    refine dOk_B (ok_X4_isSame_s24_t6 q 0 5 hT (show ¬ Int32.toInt (q.1 24 0) = 0 by omega) (show 0 ≤ (0 : Int) by omega) (show (0 : Int) ≤ (5 : Int) by omega) (show (5 : Int) ≤ 5 by omega)) (fun r_5 q_6 h_7 => ?_)
    replace h_7 : (q_6 = q) ∧ ((Int32.toInt r_5 = 0 ∨ Int32.toInt r_5 = 1)) := h_7
    obtain ⟨i_8, i_9⟩ := h_7
    subst q_6
    refine dOk_eq (A := Int32.toInt r_5) (B := 0) rfl (by decide) (fun c_10z c_10 => ?_) (fun c_11z c_11 => ?_)
    · unfold zX4_isWord_s24_t6_25
      unfold zX4_isWord_s24_t6_26
      refine dOk_G (dbl_ok (show (0 : Int) = 0 ∨ (0 : Int) = 1 by omega)) ?_
      exact dOk_some (show (q = q) ∧ (((0 : Int) = 0 ∨ (0 : Int) = 1)) from ⟨rfl, by omega⟩)
    · unfold zX4_isWord_s24_t6_26
      refine dOk_G (dbl_ok (show (1 : Int) = 0 ∨ (1 : Int) = 1 by omega)) ?_
      exact dOk_some (show (q = q) ∧ (((1 : Int) = 0 ∨ (1 : Int) = 1)) from ⟨rfl, by omega⟩)
  · unfold zX4_isWord_s24_t6_25
    unfold zX4_isWord_s24_t6_26
    refine dOk_G (dbl_ok (show (0 : Int) = 0 ∨ (0 : Int) = 1 by omega)) ?_
    exact dOk_some (show (q = q) ∧ (((0 : Int) = 0 ∨ (0 : Int) = 1)) from ⟨rfl, by omega⟩)

set_option maxHeartbeats 4000000 in
set_option maxRecDepth 100000 in
theorem ok_X4_isSame_s24_t7 (q : dK) (p2 : Int32) (p3 : Int32) (hT : TC q) (hp0 : ¬ Int32.toInt (q.1 24 0) = 0) (hp1 : 0 ≤ Int32.toInt p2) (hp2 : Int32.toInt p2 ≤ Int32.toInt p3) (hp3 : Int32.toInt p3 ≤ 2) : dOk (zX4_isSame_s24_t7 q p2 p3) (fun (o : Int32 × dK) => (o.2 = q) ∧ ((Int32.toInt o.1 = 0 ∨ Int32.toInt o.1 = 1))) := by
  unfold zX4_isSame_s24_t7
  try have t_1 : Int32.toInt (p3 - p2) = Int32.toInt p3 - Int32.toInt p2 := ti_sub rfl rfl (by omega) (by omega)
  have f_2 : 0 ≤ Int32.toInt (q.1 24 6) ∧ Int32.toInt (q.1 24 6) ≤ 400 := rg_24_6 hT
  have f_3 : 0 ≤ Int32.toInt (q.1 24 5) ∧ Int32.toInt (q.1 24 5) ≤ 400 := rg_24_5 hT
  try have t_4 : Int32.toInt (q.1 24 6 - q.1 24 5) = Int32.toInt (q.1 24 6) - Int32.toInt (q.1 24 5) := ti_sub rfl rfl (by omega) (by omega)
  refine dOk_eq (A := Int32.toInt (p3 - p2)) (B := Int32.toInt (q.1 24 6 - q.1 24 5)) rfl rfl (fun c_5z c_5 => ?_) (fun c_6z c_6 => ?_)
  · unfold zX4_isSame_s24_t7_20
    refine dFix_ok (fun (a : dK × Int32 × Int32 × Int32) => (a.1 = q) ∧ (a.2.1 = p2) ∧ (a.2.2.1 = p3) ∧ (Int32.toInt a.2.1 ≤ Int32.toInt a.2.2.2) ∧ (Int32.toInt a.2.2.2 ≤ 2)) (fun (a : dK × Int32 × Int32 × Int32) => (2 - Int32.toInt a.2.2.2).toNat) ?_ _ ?_ _ (dF_gt ?_)
    · intro a ha k_9 hk_8
      obtain ⟨q_10, x2_11, x3_12, x4_13⟩ := a
      replace ha : (q_10 = q) ∧ (x2_11 = p2) ∧ (x3_12 = p3) ∧ (Int32.toInt x2_11 ≤ Int32.toInt x4_13) ∧ (Int32.toInt x4_13 ≤ 2) := ha
      obtain ⟨a_14, a_15, a_16, a_17, a_18⟩ := ha
      show dOk (zX4_isSame_s24_t7_20b  (fun q x2 x3 x4 => k_9 (q, x2, x3, x4)) q_10 x2_11 x3_12 x4_13) _
      unfold zX4_isSame_s24_t7_20b
      subst q_10
      subst x2_11
      subst x3_12
      refine dOk_le (A := Int32.toInt p3) (B := Int32.toInt x4_13) rfl rfl (fun c_19 => ?_) (fun c_20 => ?_)
      · exact dOk_some (show (q = q) ∧ (((1 : Int) = 0 ∨ (1 : Int) = 1)) from ⟨rfl, by omega⟩)
      · refine dOk_G (dg_ok (show 0 ≤ Int32.toInt x4_13 by omega) (show Int32.toInt x4_13 < ((2 : Nat) : Int) by omega)) ?_
        have n_21 : ((Int32.toNatClampNeg x4_13 : Nat) : Int) = Int32.toInt x4_13 := cl_eq (by omega)
        refine dOk_L (fun v_22 ev_22 => ?_)
        have w_23 : Int32.toInt v_22 = Int32.toInt (chV 7 x4_13) := by rw [ev_22]
        have f_24 : 0 ≤ Int32.toInt (q.1 24 0) ∧ Int32.toInt (q.1 24 0) ≤ 1 := rg_24_0 hT
        refine dOk_G (dnz_ok (show ¬ Int32.toInt (q.1 24 0) = 0 by omega)) ?_
        try have t_25 : Int32.toInt (q.1 24 5 + x4_13) = Int32.toInt (q.1 24 5) + Int32.toInt x4_13 := ti_add rfl rfl (by omega) (by omega)
        try have t_26 : Int32.toInt (q.1 24 5 + x4_13 - p2) = Int32.toInt (q.1 24 5 + x4_13) - Int32.toInt p2 := ti_sub rfl rfl (by omega) (by omega)
        refine dOk_G (dg_ok (show 0 ≤ Int32.toInt (q.1 24 5 + x4_13 - p2) by omega) (show Int32.toInt (q.1 24 5 + x4_13 - p2) < ((400 : Nat) : Int) by omega)) ?_
        have n_27 : ((Int32.toNatClampNeg (q.1 24 5 + x4_13 - p2) : Nat) : Int) = Int32.toInt (q.1 24 5 + x4_13 - p2) := cl_eq (by omega)
        refine dOk_L (fun v_28 ev_28 => ?_)
        refine dOk_eq (A := Int32.toInt v_22) (B := Int32.toInt v_28) rfl rfl (fun c_29z c_29 => ?_) (fun c_30z c_30 => ?_)
        · try have t_32 : Int32.toInt (x4_13 + 1) = Int32.toInt x4_13 + 1 := ti_add rfl (by decide) (by omega) (by omega)
          exact hk_8 (q, p2, p3, (x4_13 + 1)) (show (q = q) ∧ (p2 = p2) ∧ (p3 = p3) ∧ (Int32.toInt p2 ≤ Int32.toInt (x4_13 + 1)) ∧ (Int32.toInt (x4_13 + 1) ≤ 2) from ⟨rfl, rfl, rfl, by omega, by omega⟩) (show (2 - Int32.toInt (x4_13 + 1)).toNat < (2 - Int32.toInt x4_13).toNat by omega)
        · exact dOk_some (show (q = q) ∧ (((0 : Int) = 0 ∨ (0 : Int) = 1)) from ⟨rfl, by omega⟩)
    · exact (show (q = q) ∧ (p2 = p2) ∧ (p3 = p3) ∧ (Int32.toInt p2 ≤ Int32.toInt p2) ∧ (Int32.toInt p2 ≤ 2) from ⟨rfl, rfl, rfl, by omega, by omega⟩)
    · show (2 - Int32.toInt p2).toNat < 1000000000000
      omega
  · exact dOk_some (show (q = q) ∧ (((0 : Int) = 0 ∨ (0 : Int) = 1)) from ⟨rfl, by omega⟩)

set_option maxHeartbeats 4000000 in
set_option maxRecDepth 100000 in
theorem ok_X4_isWord_s24_t7 (q : dK) (hT : TC q) (hp0 : ¬ Int32.toInt (q.1 24 0) = 0) : dOk (zX4_isWord_s24_t7 q) (fun (o : Int32 × dK) => (o.2 = q) ∧ ((Int32.toInt o.1 = 0 ∨ Int32.toInt o.1 = 1))) := by
  unfold zX4_isWord_s24_t7
  refine dOk_eq (A := Int32.toInt (q.1 24 4)) (B := 1) rfl (by decide) (fun c_1z c_1 => ?_) (fun c_2z c_2 => ?_)
  · have f_4 : 0 ≤ Int32.toInt (q.1 24 0) ∧ Int32.toInt (q.1 24 0) ≤ 1 := rg_24_0 hT
    refine dOk_B (ok_X4_isSame_s24_t7 q 0 2 hT (show ¬ Int32.toInt (q.1 24 0) = 0 by omega) (show 0 ≤ (0 : Int) by omega) (show (0 : Int) ≤ (2 : Int) by omega) (show (2 : Int) ≤ 2 by omega)) (fun r_5 q_6 h_7 => ?_)
    replace h_7 : (q_6 = q) ∧ ((Int32.toInt r_5 = 0 ∨ Int32.toInt r_5 = 1)) := h_7
    obtain ⟨i_8, i_9⟩ := h_7
    subst q_6
    refine dOk_eq (A := Int32.toInt r_5) (B := 0) rfl (by decide) (fun c_10z c_10 => ?_) (fun c_11z c_11 => ?_)
    · unfold zX4_isWord_s24_t7_25
      unfold zX4_isWord_s24_t7_26
      refine dOk_G (dbl_ok (show (0 : Int) = 0 ∨ (0 : Int) = 1 by omega)) ?_
      exact dOk_some (show (q = q) ∧ (((0 : Int) = 0 ∨ (0 : Int) = 1)) from ⟨rfl, by omega⟩)
    · unfold zX4_isWord_s24_t7_26
      refine dOk_G (dbl_ok (show (1 : Int) = 0 ∨ (1 : Int) = 1 by omega)) ?_
      exact dOk_some (show (q = q) ∧ (((1 : Int) = 0 ∨ (1 : Int) = 1)) from ⟨rfl, by omega⟩)
  · unfold zX4_isWord_s24_t7_25
    unfold zX4_isWord_s24_t7_26
    refine dOk_G (dbl_ok (show (0 : Int) = 0 ∨ (0 : Int) = 1 by omega)) ?_
    exact dOk_some (show (q = q) ∧ (((0 : Int) = 0 ∨ (0 : Int) = 1)) from ⟨rfl, by omega⟩)
