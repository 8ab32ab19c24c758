set_option maxHeartbeats 4000000 in
set_option maxRecDepth 100000 in
theorem ok_X4_isSame_s24_t8 (q : dK) (p2 : Int32) (p3 : Int32) (hT : TC q) (hp0 : ¬ Int32.toInt (q.1 24 0) = 0) (hp1 : 0 ≤ Int32.toInt p2) (hp2 : Int32.toInt p2 ≤ Int32.toInt p3) (hp3 : Int32.toInt p3 ≤ 3) : dOk (zX4_isSame_s24_t8 q p2 p3) (fun (o : Int32 × dK) => (o.2 = q) ∧ ((Int32.toInt o.1 = 0 ∨ Int32.toInt o.1 = 1))) := by
  unfold zX4_isSame_s24_t8
  try have t_1 : Int32.toInt (p3 - p2) = Int32.toInt p3 - Int32.toInt p2 := ti_sub rfl rfl (by omega) (by omega)
  have f_2 : 0 ≤ Int32.toInt (q.1 24 6) ∧ Int32.toInt (q.1 24 6) ≤ 400 := rg_24_6 hT
  have f_3 : 0 ≤ Int32.toInt (q.1 24 5) ∧ Int32.toInt (q.1 24 5) ≤ 400 := rg_24_5 hT
  try have t_4 : Int32.toInt (q.1 24 6 - q.1 24 5) = Int32.toInt (q.1 24 6) - Int32.toInt (q.1 24 5) := ti_sub rfl rfl (by omega) (by omega)
  refine dOk_eq (A := Int32.toInt (p3 - p2)) (B := Int32.toInt (q.1 24 6 - q.1 24 5)) rfl rfl (fun c_5z c_5 => ?_) (fun c_6z c_6 => ?_)
  · unfold zX4_isSame_s24_t8_20
    refine dFix_ok (fun (a : dK × Int32 × Int32 × Int32) => (a.1 = q) ∧ (a.2.1 = p2) ∧ (a.2.2.1 = p3) ∧ (Int32.toInt a.2.1 ≤ Int32.toInt a.2.2.2) ∧ (Int32.toInt a.2.2.2 ≤ 3)) (fun (a : dK × Int32 × Int32 × Int32) => (3 - Int32.toInt a.2.2.2).toNat) ?_ _ ?_ _ (dF_gt ?_)
    · intro a ha k_9 hk_8
      obtain ⟨q_10, x2_11, x3_12, x4_13⟩ := a
      replace ha : (q_10 = q) ∧ (x2_11 = p2) ∧ (x3_12 = p3) ∧ (Int32.toInt x2_11 ≤ Int32.toInt x4_13) ∧ (Int32.toInt x4_13 ≤ 3) := ha
      obtain ⟨a_14, a_15, a_16, a_17, a_18⟩ := ha
      show dOk (zX4_isSame_s24_t8_20b  (fun q x2 x3 x4 => k_9 (q, x2, x3, x4)) q_10 x2_11 x3_12 x4_13) _
      unfold zX4_isSame_s24_t8_20b
      subst q_10
      subst x2_11
      subst x3_12
      refine dOk_le (A := Int32.toInt p3) (B := Int32.toInt x4_13) rfl rfl (fun c_19 => ?_) (fun c_20 => ?_)
      · exact dOk_some (show (q = q) ∧ (((1 : Int) = 0 ∨ (1 : Int) = 1)) from ⟨rfl, by omega⟩)
      · refine dOk_G (dg_ok (show 0 ≤ Int32.toInt x4_13 by omega) (show Int32.toInt x4_13 < ((3 : Nat) : Int) by omega)) ?_
        have n_21 : ((Int32.toNatClampNeg x4_13 : Nat) : Int) = Int32.toInt x4_13 := cl_eq (by omega)
        refine dOk_L (fun v_22 ev_22 => ?_)
        have w_23 : Int32.toInt v_22 = Int32.toInt (chV 8 x4_13) := by rw [ev_22]
        have f_24 : 0 ≤ Int32.toInt (q.1 24 0) ∧ Int32.toInt (q.1 24 0) ≤ 1 := rg_24_0 hT
        refine dOk_G (dnz_ok (show ¬ Int32.toInt (q.1 24 0) = 0 by omega)) ?_
        try have t_25 : Int32.toInt (q.1 24 5 + x4_13) = Int32.toInt (q.1 24 5) + Int32.toInt x4_13 := ti_add rfl rfl (by omega) (by omega)
        try have t_26 : Int32.toInt (q.1 24 5 + x4_13 - p2) = Int32.toInt (q.1 24 5 + x4_13) - Int32.toInt p2 := ti_sub rfl rfl (by omega) (by omega)
        refine dOk_G (dg_ok (show 0 ≤ Int32.toInt (q.1 24 5 + x4_13 - p2) by omega) (show Int32.toInt (q.1 24 5 + x4_13 - p2) < ((400 : Nat) : Int) by omega)) ?_
        have n_27 : ((Int32.toNatClampNeg (q.1 24 5 + x4_13 - p2) : Nat) : Int) = Int32.toInt (q.1 24 5 + x4_13 - p2) := cl_eq (by omega)
        refine dOk_L (fun v_28 ev_28 => ?_)
        refine dOk_eq (A := Int32.toInt v_22) (B := Int32.toInt v_28) rfl rfl (fun c_29z c_29 => ?_) (fun c_30z c_30 => ?_)
        · try have t_32 : Int32.toInt (x4_13 + 1) = Int32.toInt x4_13 + 1 := ti_add rfl (by decide) (by omega) (by omega)
          exact hk_8 (q, p2, p3, (x4_13 + 1)) (show (q = q) ∧ (p2 = p2) ∧ (p3 = p3) ∧ (Int32.toInt p2 ≤ Int32.toInt (x4_13 + 1)) ∧ (Int32.toInt (x4_13 + 1) ≤ 3) from ⟨rfl, rfl, rfl, by omega, by omega⟩) (show (3 - Int32.toInt (x4_13 + 1)).toNat < (3 - Int32.toInt x4_13).toNat by omega)
        · exact dOk_some (show (q = q) ∧ (((0 : Int) = 0 ∨ (0 : Int) = 1)) from ⟨rfl, by omega⟩)
    · exact (show (q = q) ∧ (p2 = p2) ∧ (p3 = p3) ∧ (Int32.toInt p2 ≤ Int32.toInt p2) ∧ (Int32.toInt p2 ≤ 3) from ⟨rfl, rfl, rfl, by omega, by omega⟩)
    · show (3 - Int32.toInt p2).toNat < 1000000000000
      omega
  · exact dOk_some (show (q = q) ∧ (((0 : Int) = 0 ∨ (0 : Int) = 1)) from ⟨rfl, by omega⟩)

set_option maxHeartbeats 4000000 in
set_option maxRecDepth 100000 in
theorem ok_X4_isWord_s24_t8 (q : dK) (hT : TC q) (hp0 : ¬ Int32.toInt (q.1 24 0) = 0) : dOk (zX4_isWord_s24_t8 q) (fun (o : Int32 × dK) => (o.2 = q) ∧ ((Int32.toInt o.1 = 0 ∨ Int32.toInt o.1 = 1))) := by
  unfold zX4_isWord_s24_t8
  refine dOk_eq (A := Int32.toInt (q.1 24 4)) (B := 1) rfl (by decide) (fun c_1z c_1 => ?_) (fun c_2z c_2 => ?_)
  · have f_4 : 0 ≤ Int32.toInt (q.1 24 0) ∧ Int32.toInt (q.1 24 0) ≤ 1 := rg_24_0 hT
    refine dOk_B (ok_X4_isSame_s24_t8 q 0 3 hT (show ¬ Int32.toInt (q.1 24 0) = 0 by omega) (show 0 ≤ (0 : Int) by omega) (show (0 : Int) ≤ (3 : Int) by omega) (show (3 : Int) ≤ 3 by omega)) (fun r_5 q_6 h_7 => ?_)
    replace h_7 : (q_6 = q) ∧ ((Int32.toInt r_5 = 0 ∨ Int32.toInt r_5 = 1)) := h_7
    obtain ⟨i_8, i_9⟩ := h_7
    subst q_6
    refine dOk_eq (A := Int32.toInt r_5) (B := 0) rfl (by decide) (fun c_10z c_10 => ?_) (fun c_11z c_11 => ?_)
    · unfold zX4_isWord_s24_t8_25
      unfold zX4_isWord_s24_t8_26
      refine dOk_G (dbl_ok (show (0 : Int) = 0 ∨ (0 : Int) = 1 by omega)) ?_
      exact dOk_some (show (q = q) ∧ (((0 : Int) = 0 ∨ (0 : Int) = 1)) from ⟨rfl, by omega⟩)
    · unfold zX4_isWord_s24_t8_26
      refine dOk_G (dbl_ok (show (1 : Int) = 0 ∨ (1 : Int) = 1 by omega)) ?_
      exact dOk_some (show (q = q) ∧ (((1 : Int) = 0 ∨ (1 : Int) = 1)) from ⟨rfl, by omega⟩)
  · unfold zX4_isWord_s24_t8_25
    unfold zX4_isWord_s24_t8_26
    refine dOk_G (dbl_ok (show (0 : Int) = 0 ∨ (0 : Int) = 1 by omega)) ?_
    exact dOk_some (show (q = q) ∧ (((0 : Int) = 0 ∨ (0 : Int) = 1)) from ⟨rfl, by omega⟩)

set_option maxHeartbeats 4000000 in
set_option maxRecDepth 100000 in
theorem ok_X4_signIn_s24_t9 (q : dK) (p2 : Int32) (hT : TC q) (hp0 : ¬ Int32.toInt (q.1 24 0) = 0) (hp1 : 0 ≤ Int32.toInt p2) (hp2 : Int32.toInt p2 ≤ 10) : dOk (zX4_signIn_s24_t9 q p2) (fun (o : Int32 × dK) => (o.2 = q) ∧ (-1 ≤ Int32.toInt o.1) ∧ (Int32.toInt o.1 ≤ Int32.toInt p2 + 2)) := by
  unfold zX4_signIn_s24_t9
  unfold zX4_signIn_s24_t9_2
  refine dFix_ok (fun (a : dK × Int32 × Int32) => (a.1 = q) ∧ (a.2.1 = p2) ∧ (0 ≤ Int32.toInt a.2.2) ∧ (Int32.toInt a.2.2 ≤ 3)) (fun (a : dK × Int32 × Int32) => (3 - Int32.toInt a.2.2).toNat) ?_ _ ?_ _ (dF_gt ?_)
  · intro a ha k_2 hk_1
    obtain ⟨q_3, x2_4, x3_5⟩ := a
    replace ha : (q_3 = q) ∧ (x2_4 = p2) ∧ (0 ≤ Int32.toInt x3_5) ∧ (Int32.toInt x3_5 ≤ 3) := ha
    obtain ⟨a_6, a_7, a_8, a_9⟩ := ha
    show dOk (zX4_signIn_s24_t9_2b  (fun q x2 x3 => k_2 (q, x2, x3)) q_3 x2_4 x3_5) _
    unfold zX4_signIn_s24_t9_2b
    subst q_3
    subst x2_4
    refine dOk_le (A := 3) (B := Int32.toInt x3_5) (by decide) rfl (fun c_10 => ?_) (fun c_11 => ?_)
    · exact dOk_some (show (q = q) ∧ (-1 ≤ (-1 : Int)) ∧ ((-1 : Int) ≤ Int32.toInt p2 + 2) from ⟨rfl, by omega, by omega⟩)
    · refine dOk_G (dg_ok (show 0 ≤ Int32.toInt x3_5 by omega) (show Int32.toInt x3_5 < ((3 : Nat) : Int) by omega)) ?_
      have n_12 : ((Int32.toNatClampNeg x3_5 : Nat) : Int) = Int32.toInt x3_5 := cl_eq (by omega)
      refine dOk_L (fun v_13 ev_13 => ?_)
      have w_14 : Int32.toInt v_13 = Int32.toInt (chV 9 x3_5) := by rw [ev_13]
      have f_15 : 0 ≤ Int32.toInt (q.1 24 0) ∧ Int32.toInt (q.1 24 0) ≤ 1 := rg_24_0 hT
      refine dOk_B (ok_X4_isSign_s24 q v_13 hT (show ¬ Int32.toInt (q.1 24 0) = 0 by omega)) (fun r_16 q_17 h_18 => ?_)
      replace h_18 : (q_17 = q) ∧ ((Int32.toInt r_16 = 0 ∨ Int32.toInt r_16 = 1)) := h_18
      obtain ⟨i_19, i_20⟩ := h_18
      subst q_17
      refine dOk_eq (A := Int32.toInt r_16) (B := 0) rfl (by decide) (fun c_21z c_21 => ?_) (fun c_22z c_22 => ?_)
      · try have t_24 : Int32.toInt (x3_5 + 1) = Int32.toInt x3_5 + 1 := ti_add rfl (by decide) (by omega) (by omega)
        exact hk_1 (q, p2, (x3_5 + 1)) (show (q = q) ∧ (p2 = p2) ∧ (0 ≤ Int32.toInt (x3_5 + 1)) ∧ (Int32.toInt (x3_5 + 1) ≤ 3) from ⟨rfl, rfl, by omega, by omega⟩) (show (3 - Int32.toInt (x3_5 + 1)).toNat < (3 - Int32.toInt x3_5).toNat by omega)
      · try have t_25 : Int32.toInt (p2 + x3_5) = Int32.toInt p2 + Int32.toInt x3_5 := ti_add rfl rfl (by omega) (by omega)
        exact dOk_some (show (q = q) ∧ (-1 ≤ Int32.toInt (p2 + x3_5)) ∧ (Int32.toInt (p2 + x3_5) ≤ Int32.toInt p2 + 2) from ⟨rfl, by omega, by omega⟩)
  · exact (show (q = q) ∧ (p2 = p2) ∧ (0 ≤ (0 : Int)) ∧ ((0 : Int) ≤ 3) from ⟨rfl, rfl, by omega, by omega⟩)
  · show (3 - (0 : Int)).toNat < 1000000000000
    omega

set_option maxHeartbeats 4000000 in
set_option maxRecDepth 100000 in
theorem ok_X4_isSame_s24_t10 (q : dK) (p2 : Int32) (p3 : Int32) (hT : TC q) (hp0 : ¬ Int32.toInt (q.1 24 0) = 0) (hp1 : 0 ≤ Int32.toInt p2) (hp2 : Int32.toInt p2 ≤ Int32.toInt p3) (hp3 : Int32.toInt p3 ≤ 3) : dOk (zX4_isSame_s24_t10 q p2 p3) (fun (o : Int32 × dK) => (o.2 = q) ∧ ((Int32.toInt o.1 = 0 ∨ Int32.toInt o.1 = 1))) := by
  unfold zX4_isSame_s24_t10
  try have t_1 : Int32.toInt (p3 - p2) = Int32.toInt p3 - Int32.toInt p2 := ti_sub rfl rfl (by omega) (by omega)
  have f_2 : 0 ≤ Int32.toInt (q.1 24 6) ∧ Int32.toInt (q.1 24 6) ≤ 400 := rg_24_6 hT
  have f_3 : 0 ≤ Int32.toInt (q.1 24 5) ∧ Int32.toInt (q.1 24 5) ≤ 400 := rg_24_5 hT
  try have t_4 : Int32.toInt (q.1 24 6 - q.1 24 5) = Int32.toInt (q.1 24 6) - Int32.toInt (q.1 24 5) := ti_sub rfl rfl (by omega) (by omega)
  refine dOk_eq (A := Int32.toInt (p3 - p2)) (B := Int32.toInt (q.1 24 6 - q.1 24 5)) rfl rfl (fun c_5z c_5 => ?_) (fun c_6z c_6 => ?_)
  · unfold zX4_isSame_s24_t10_20
    refine dFix_ok (fun (a : dK × Int32 × Int32 × Int32) => (a.1 = q) ∧ (a.2.1 = p2) ∧ (a.2.2.1 = p3) ∧ (Int32.toInt a.2.1 ≤ Int32.toInt a.2.2.2) ∧ (Int32.toInt a.2.2.2 ≤ 3)) (fun (a : dK × Int32 × Int32 × Int32) => (3 - Int32.toInt a.2.2.2).toNat) ?_ _ ?_ _ (dF_gt ?_)
    · intro a ha k_9 hk_8
      obtain ⟨q_10, x2_11, x3_12, x4_13⟩ := a
      replace ha : (q_10 = q) ∧ (x2_11 = p2) ∧ (x3_12 = p3) ∧ (Int32.toInt x2_11 ≤ Int32.toInt x4_13) ∧ (Int32.toInt x4_13 ≤ 3) := ha
      obtain ⟨a_14, a_15, a_16, a_17, a_18⟩ := ha
      show dOk (zX4_isSame_s24_t10_20b  (fun q x2 x3 x4 => k_9 (q, x2, x3, x4)) q_10 x2_11 x3_12 x4_13) _
      unfold zX4_isSame_s24_t10_20b
      subst q_10
      subst x2_11
      subst x3_12
      refine dOk_le (A := Int32.toInt p3) (B := Int32.toInt x4_13) rfl rfl (fun c_19 => ?_) (fun c_20 => ?_)
      · exact dOk_some (show (q = q) ∧ (((1 : Int) = 0 ∨ (1 : Int) = 1)) from ⟨rfl, by omega⟩)
      · refine dOk_G (dg_ok (show 0 ≤ Int32.toInt x4_13 by omega) (show Int32.toInt x4_13 < ((3 : Nat) : Int) by omega)) ?_
        have n_21 : ((Int32.toNatClampNeg x4_13 : Nat) : Int) = Int32.toInt x4_13 := cl_eq (by omega)
        refine dOk_L (fun v_22 ev_22 => ?_)
        have w_23 : Int32.toInt v_22 = Int32.toInt (chV 10 x4_13) := by rw [ev_22]
        have f_24 : 0 ≤ Int32.toInt (q.1 24 0) ∧ Int32.toInt (q.1 24 0) ≤ 1 := rg_24_0 hT
        refine dOk_G (dnz_ok (show ¬ Int32.toInt (q.1 24 0) = 0 by omega)) ?_
        try have t_25 : Int32.toInt (q.1 24 5 + x4_13) = Int32.toInt (q.1 24 5) + Int32.toInt x4_13 := ti_add rfl rfl (by omega) (by omega)
        try have t_26 : Int32.toInt (q.1 24 5 + x4_13 - p2) = Int32.toInt (q.1 24 5 + x4_13) - Int32.toInt p2 := ti_sub rfl rfl (by omega) (by omega)
        refine dOk_G (dg_ok (show 0 ≤ Int32.toInt (q.1 24 5 + x4_13 - p2) by omega) (show Int32.toInt (q.1 24 5 + x4_13 - p2) < ((400 : Nat) : Int) by omega)) ?_
        have n_27 : ((Int32.toNatClampNeg (q.1 24 5 + x4_13 - p2) : Nat) : Int) = Int32.toInt (q.1 24 5 + x4_13 - p2) := cl_eq (by omega)
        refine dOk_L (fun v_28 ev_28 => ?_)
        refine dOk_eq (A := Int32.toInt v_22) (B := Int32.toInt v_28) rfl rfl (fun c_29z c_29 => ?_) (fun c_30z c_30 => ?_)
        · try have t_32 : Int32.toInt (x4_13 + 1) = Int32.toInt x4_13 + 1 := ti_add rfl (by decide) (by omega) (by omega)
          exact hk_8 (q, p2, p3, (x4_13 + 1)) (show (q = q) ∧ (p2 = p2) ∧ (p3 = p3) ∧ (Int32.toInt p2 ≤ Int32.toInt (x4_13 + 1)) ∧ (Int32.toInt (x4_13 + 1) ≤ 3) from ⟨rfl, rfl, rfl, by omega, by omega⟩) (show (3 - Int32.toInt (x4_13 + 1)).toNat < (3 - Int32.toInt x4_13).toNat by omega)
        · exact dOk_some (show (q = q) ∧ (((0 : Int) = 0 ∨ (0 : Int) = 1)) from ⟨rfl, by omega⟩)
    · exact (show (q = q) ∧ (p2 = p2) ∧ (p3 = p3) ∧ (Int32.toInt p2 ≤ Int32.toInt p2) ∧ (Int32.toInt p2 ≤ 3) from ⟨rfl, rfl, rfl, by omega, by omega⟩)
    · show (3 - Int32.toInt p2).toNat < 1000000000000
      omega
  · exact dOk_some (show (q = q) ∧ (((0 : Int) = 0 ∨ (0 : Int) = 1)) from ⟨rfl, by omega⟩)

set_option maxHeartbeats 4000000 in
set_option maxRecDepth 100000 in
theorem ok_X4_isWord_s24_t10 (q : dK) (hT : TC q) (hp0 : ¬ Int32.toInt (q.1 24 0) = 0) : dOk (zX4_isWord_s24_t10 q) (fun (o : Int32 × dK) => (o.2 = q) ∧ ((Int32.toInt o.1 = 0 ∨ Int32.toInt o.1 = 1))) := by
  unfold zX4_isWord_s24_t10
  refine dOk_eq (A := Int32.toInt (q.1 24 4)) (B := 1) rfl (by decide) (fun c_1z c_1 => ?_) (fun c_2z c_2 => ?_)
  · have f_4 : 0 ≤ Int32.toInt (q.1 24 0) ∧ Int32.toInt (q.1 24 0) ≤ 1 := rg_24_0 hT
    refine dOk_B (ok_X4_isSame_s24_t10 q 0 3 hT (show ¬ Int32.toInt (q.1 24 0) = 0 by omega) (show 0 ≤ (0 : Int) by omega) (show (0 : Int) ≤ (3 : Int) by omega) (show (3 : Int) ≤ 3 by omega)) (fun r_5 q_6 h_7 => ?_)
    replace h_7 : (q_6 = q) ∧ ((Int32.toInt r_5 = 0 ∨ Int32.toInt r_5 = 1)) := h_7
    obtain ⟨i_8, i_9⟩ := h_7
    subst q_6
    refine dOk_eq (A := Int32.toInt r_5) (B := 0) rfl (by decide) (fun c_10z c_10 => ?_) (fun c_11z c_11 => ?_)
    · unfold zX4_isWord_s24_t10_25
      unfold zX4_isWord_s24_t10_26
      refine dOk_G (dbl_ok (show (0 : Int) = 0 ∨ (0 : Int) = 1 by omega)) ?_
      exact dOk_some (show (q = q) ∧ (((0 : Int) = 0 ∨ (0 : Int) = 1)) from ⟨rfl, by omega⟩)
    · unfold zX4_isWord_s24_t10_26
      refine dOk_G (dbl_ok (show (1 : Int) = 0 ∨ (1 : Int) = 1 by omega)) ?_
      exact dOk_some (show (q = q) ∧ (((1 : Int) = 0 ∨ (1 : Int) = 1)) from ⟨rfl, by omega⟩)
  · unfold zX4_isWord_s24_t10_25
    unfold zX4_isWord_s24_t10_26
    refine dOk_G (dbl_ok (show (0 : Int) = 0 ∨ (0 : Int) = 1 by omega)) ?_
    exact dOk_some (show (q = q) ∧ (((0 : Int) = 0 ∨ (0 : Int) = 1)) from ⟨rfl, by omega⟩)

set_option maxHeartbeats 4000000 in
set_option maxRecDepth 100000 in
theorem ok_X4_isSame_s24_t11 (q : dK) (p2 : Int32) (p3 : Int32) (hT : TC q) (hp0 : ¬ Int32.toInt (q.1 24 0) = 0) (hp1 : 0 ≤ Int32.toInt p2) (hp2 : Int32.toInt p2 ≤ Int32.toInt p3) (hp3 : Int32.toInt p3 ≤ 2) : dOk (zX4_isSame_s24_t11 q p2 p3) (fun (o : Int32 × dK) => (o.2 = q) ∧ ((Int32.toInt o.1 = 0 ∨ Int32.toInt o.1 = 1))) := by
  unfold zX4_isSame_s24_t11
  try have t_1 : Int32.toInt (p3 - p2) = Int32.toInt p3 - Int32.toInt p2 := ti_sub rfl rfl (by omega) (by omega)
  have f_2 : 0 ≤ Int32.toInt (q.1 24 6) ∧ Int32.toInt (q.1 24 6) ≤ 400 := rg_24_6 hT
  have f_3 : 0 ≤ Int32.toInt (q.1 24 5) ∧ Int32.toInt (q.1 24 5) ≤ 400 := rg_24_5 hT
  try have t_4 : Int32.toInt (q.1 24 6 - q.1 24 5) = Int32.toInt (q.1 24 6) - Int32.toInt (q.1 24 5) := ti_sub rfl rfl (by omega) (by omega)
  refine dOk_eq (A := Int32.toInt (p3 - p2)) (B := Int32.toInt (q.1 24 6 - q.1 24 5)) rfl rfl (fun c_5z c_5 => ?_) (fun c_6z c_6 => ?_)
  · unfold zX4_isSame_s24_t11_20
    refine dFix_ok (fun (a : dK × Int32 × Int32 × Int32) => (a.1 = q) ∧ (a.2.1 = p2) ∧ (a.2.2.1 = p3) ∧ (Int32.toInt a.2.1 ≤ Int32.toInt a.2.2.2) ∧ (Int32.toInt a.2.2.2 ≤ 2)) (fun (a : dK × Int32 × Int32 × Int32) => (2 - Int32.toInt a.2.2.2).toNat) ?_ _ ?_ _ (dF_gt ?_)
    · intro a ha k_9 hk_8
      obtain ⟨q_10, x2_11, x3_12, x4_13⟩ := a
      replace ha : (q_10 = q) ∧ (x2_11 = p2) ∧ (x3_12 = p3) ∧ (Int32.toInt x2_11 ≤ Int32.toInt x4_13) ∧ (Int32.toInt x4_13 ≤ 2) := ha
      obtain ⟨a_14, a_15, a_16, a_17, a_18⟩ := ha
      show dOk (zX4_isSame_s24_t11_20b  (fun q x2 x3 x4 => k_9 (q, x2, x3, x4)) q_10 x2_11 x3_12 x4_13) _
      unfold zX4_isSame_s24_t11_20b
      subst q_10
      subst x2_11
      subst x3_12
      refine dOk_le (A := Int32.toInt p3) (B := Int32.toInt x4_13) rfl rfl (fun c_19 => ?_) (fun c_20 => ?_)
      · exact dOk_some (show (q = q) ∧ (((1 : Int) = 0 ∨ (1 : Int) = 1)) from ⟨rfl, by omega⟩)
      · refine dOk_G (dg_ok (show 0 ≤ Int32.toInt x4_13 by omega) (show Int32.toInt x4_13 < ((2 : Nat) : Int) by omega)) ?_
        have n_21 : ((Int32.toNatClampNeg x4_13 : Nat) : Int) = Int32.toInt x4_13 := cl_eq (by omega)
        refine dOk_L (fun v_22 ev_22 => ?_)
        have w_23 : Int32.toInt v_22 = Int32.toInt (chV 11 x4_13) := by rw [ev_22]
        have f_24 : 0 ≤ Int32.toInt (q.1 24 0) ∧ Int32.toInt (q.1 24 0) ≤ 1 := rg_24_0 hT
        refine dOk_G (dnz_ok (show ¬ Int32.toInt (q.1 24 0) = 0 by omega)) ?_
        try have t_25 : Int32.toInt (q.1 24 5 + x4_13) = Int32.toInt (q.1 24 5) + Int32.toInt x4_13 := ti_add rfl rfl (by omega) (by omega)
        try have t_26 : Int32.toInt (q.1 24 5 + x4_13 - p2) = Int32.toInt (q.1 24 5 + x4_13) - Int32.toInt p2 := ti_sub rfl rfl (by omega) (by omega)
        refine dOk_G (dg_ok (show 0 ≤ Int32.toInt (q.1 24 5 + x4_13 - p2) by omega) (show Int32.toInt (q.1 24 5 + x4_13 - p2) < ((400 : Nat) : Int) by omega)) ?_
        have n_27 : ((Int32.toNatClampNeg (q.1 24 5 + x4_13 - p2) : Nat) : Int) = Int32.toInt (q.1 24 5 + x4_13 - p2) := cl_eq (by omega)
        refine dOk_L (fun v_28 ev_28 => ?_)
        refine dOk_eq (A := Int32.toInt v_22) (B := Int32.toInt v_28) rfl rfl (fun c_29z c_29 => ?_) (fun c_30z c_30 => ?_)
        · try have t_32 : Int32.toInt (x4_13 + 1) = Int32.toInt x4_13 + 1 := ti_add rfl (by decide) (by omega) (by omega)
          exact hk_8 (q, p2, p3, (x4_13 + 1)) (show (q = q) ∧ (p2 = p2) ∧ (p3 = p3) ∧ (Int32.toInt p2 ≤ Int32.toInt (x4_13 + 1)) ∧ (Int32.toInt (x4_13 + 1) ≤ 2) from ⟨rfl, rfl, rfl, by omega, by omega⟩) (show (2 - Int32.toInt (x4_13 + 1)).toNat < (2 - Int32.toInt x4_13).toNat by omega)
        · exact dOk_some (show (q = q) ∧ (((0 : Int) = 0 ∨ (0 : Int) = 1)) from ⟨rfl, by omega⟩)
    · exact (show (q = q) ∧ (p2 = p2) ∧ (p3 = p3) ∧ (Int32.toInt p2 ≤ Int32.toInt p2) ∧ (Int32.toInt p2 ≤ 2) from ⟨rfl, rfl, rfl, by omega, by omega⟩)
    · show (2 - Int32.toInt p2).toNat < 1000000000000
      omega
  · exact dOk_some (show (q = q) ∧ (((0 : Int) = 0 ∨ (0 : Int) = 1)) from ⟨rfl, by omega⟩)

set_option maxHeartbeats 4000000 in
set_option maxRecDepth 100000 in
theorem ok_X4_isWord_s24_t11 (q : dK) (hT : TC q) (hp0 : ¬ Int32.toInt (q.1 24 0) = 0) : dOk (zX4_isWord_s24_t11 q) (fun (o : Int32 × dK) => (o.2 = q) ∧ ((Int32.toInt o.1 = 0 ∨ Int32.toInt o.1 = 1))) := by
  unfold zX4_isWord_s24_t11
  refine dOk_eq (A := Int32.toInt (q.1 24 4)) (B := 1) rfl (by decide) (fun c_1z c_1 => ?_) (fun c_2z c_2 => ?_)
  · have f_4 : 0 ≤ Int32.toInt (q.1 24 0) ∧ Int32.toInt (q.1 24 0) ≤ 1 := rg_24_0 hT
    refine dOk_B (ok_X4_isSame_s24_t11 q 0 2 hT (show ¬ Int32.toInt (q.1 24 0) = 0 by omega) (show 0 ≤ (0 : Int) by omega) (show (0 : Int) ≤ (2 : Int) by omega) (show (2 : Int) ≤ 2 by omega)) (fun r_5 q_6 h_7 => ?_)
    replace h_7 : (q_6 = q) ∧ ((Int32.toInt r_5 = 0 ∨ Int32.toInt r_5 = 1)) := h_7
    obtain ⟨i_8, i_9⟩ := h_7
    subst q_6
    refine dOk_eq (A := Int32.toInt r_5) (B := 0) rfl (by decide) (fun c_10z c_10 => ?_) (fun c_11z c_11 => ?_)
    · unfold zX4_isWord_s24_t11_25
      unfold zX4_isWord_s24_t11_26
      refine dOk_G (dbl_ok (show (0 : Int) = 0 ∨ (0 : Int) = 1 by omega)) ?_
      exact dOk_some (show (q = q) ∧ (((0 : Int) = 0 ∨ (0 : Int) = 1)) from ⟨rfl, by omega⟩)
    · unfold zX4_isWord_s24_t11_26
      refine dOk_G (dbl_ok (show (1 : Int) = 0 ∨ (1 : Int) = 1 by omega)) ?_
      exact dOk_some (show (q = q) ∧ (((1 : Int) = 0 ∨ (1 : Int) = 1)) from ⟨rfl, by omega⟩)
  · unfold zX4_isWord_s24_t11_25
    unfold zX4_isWord_s24_t11_26
    refine dOk_G (dbl_ok (show (0 : Int) = 0 ∨ (0 : Int) = 1 by omega)) ?_
    exact dOk_some (show (q = q) ∧ (((0 : Int) = 0 ∨ (0 : Int) = 1)) from ⟨rfl, by omega⟩)

set_option maxHeartbeats 4000000 in
set_option maxRecDepth 100000 in
theorem ok_X7_emit_s25 (q : dK) (p1 : Int32) (p2 : Int32) (hT : TC q) (hp0 : 0 ≤ Int32.toInt p1 ∧ Int32.toInt p1 ≤ 12) (hp1 : 0 ≤ Int32.toInt p2 ∧ Int32.toInt p2 ≤ 2000) : dOk (zX7_emit_s25 q p1 p2) (fun (o : dK) => (TC o) ∧ (cFr [31] [(25, 7)] q o)) := by
  unfold zX7_emit_s25
  have f_1 : 0 ≤ Int32.toInt (q.1 25 7) ∧ Int32.toInt (q.1 25 7) ≤ 400 := rg_25_7 hT
  refine dOk_le (A := 400) (B := Int32.toInt (q.1 25 7)) (by decide) rfl (fun c_2 => ?_) (fun c_3 => ?_)
  · unfold zX7_emit_s25_36
    exact dOk_some (show (TC q) ∧ (cFr [31] [(25, 7)] q q) from ⟨hT, (cFr.rf (q := q))⟩)
  · refine dOk_G (dg_ok (show 0 ≤ Int32.toInt (q.1 25 7) by omega) (show Int32.toInt (q.1 25 7) < ((400 : Nat) : Int) by omega)) ?_
    have n_4 : ((Int32.toNatClampNeg (q.1 25 7) : Nat) : Int) = Int32.toInt (q.1 25 7) := cl_eq (by omega)
    refine dOk_L (fun q_5 eq_5 => ?_)
    try have t_6 := ti_shl5 (x := p2) (s := 4) (by omega) (by omega) (by omega) (by omega)
    try have t_7 := ti_shl6 (x := p2) (s := 4) (by omega) (by omega) (by omega) (by omega)
    try have t_8 := em_or (a := p2) (b := p1) (by omega) (by omega) (by omega) (by omega)
    have hTq_5 : TC q_5 := by rw [eq_5]; exact st_31 hT (show (0 : Int) ≤ Int32.toInt (p2 <<< ((4 : Int32) &&& 31) ||| p1) by omega) (em_op (by omega) (by omega) (by omega) (by omega))
    have hFq_5 : cFr [31] [(25, 7)] q q_5 := by rw [eq_5]; exact (cFr.rf (q := q)).i (by decide)
    refine dOk_L (fun q_9 eq_9 => ?_)
    have f_10 : 0 ≤ Int32.toInt (q_5.1 25 7) ∧ Int32.toInt (q_5.1 25 7) ≤ 400 := rg_25_7 hTq_5
    try have w_11 : Int32.toInt (q_5.1 25 7) = Int32.toInt (q.1 25 7) := by rw [eq_5, cui_o (by decide)]
    try have t_12 : Int32.toInt (q_5.1 25 7 + 1) = Int32.toInt (q_5.1 25 7) + 1 := ti_add rfl (by decide) (by omega) (by omega)
    have hTq_9 : TC q_9 := by rw [eq_9]; exact st_25_7 hTq_5 (show (0 : Int) ≤ Int32.toInt (q_5.1 25 7 + 1) by omega) (show Int32.toInt (q_5.1 25 7 + 1) ≤ (400 : Int) by omega)
    have hFq_9 : cFr [31] [(25, 7)] q q_9 := by rw [eq_9]; exact hFq_5.f (by decide)
    unfold zX7_emit_s25_36
    exact dOk_some (show (TC q_9) ∧ (cFr [31] [(25, 7)] q q_9) from ⟨hTq_9, hFq_9⟩)

set_option maxHeartbeats 4000000 in
set_option maxRecDepth 100000 in
theorem ok_X7_leapHere_s25 (q : dK) (p1 : Int32) (p2 : Int32) (hT : TC q) (hp0 : 0 ≤ Int32.toInt p1 ∧ Int32.toInt p1 ≤ 12) : dOk (zX7_leapHere_s25 q p1 p2) (fun (o : dK) => (TC o) ∧ (cFr [31] [] q o)) := by
  unfold zX7_leapHere_s25
  refine dOk_lt (A := Int32.toInt p2) (B := 0) rfl (by decide) (fun c_1 => ?_) (fun c_2 => ?_)
  · unfold zX7_leapHere_s25_26
    exact dOk_some (show (TC q) ∧ (cFr [31] [] q q) from ⟨hT, (cFr.rf (q := q))⟩)
  · have f_3 : 0 ≤ Int32.toInt (q.1 25 7) ∧ Int32.toInt (q.1 25 7) ≤ 400 := rg_25_7 hT
    refine dOk_le (A := Int32.toInt (q.1 25 7)) (B := Int32.toInt p2) rfl rfl (fun c_4 => ?_) (fun c_5 => ?_)
    · unfold zX7_leapHere_s25_26
      exact dOk_some (show (TC q) ∧ (cFr [31] [] q q) from ⟨hT, (cFr.rf (q := q))⟩)
    · refine dOk_G (dg_ok (show 0 ≤ Int32.toInt p2 by omega) (show Int32.toInt p2 < ((400 : Nat) : Int) by omega)) ?_
      have n_6 : ((Int32.toNatClampNeg p2 : Nat) : Int) = Int32.toInt p2 := cl_eq (by omega)
      refine dOk_L (fun q_7 eq_7 => ?_)
      try have t_8 := ti_shl5 (x := q.1 25 7) (s := 4) (by omega) (by omega) (by omega) (by omega)
      try have t_9 := ti_shl6 (x := q.1 25 7) (s := 4) (by omega) (by omega) (by omega) (by omega)
      try have t_10 := em_or (a := q.1 25 7) (b := p1) (by omega) (by omega) (by omega) (by omega)
      have hTq_7 : TC q_7 := by rw [eq_7]; exact st_31 hT (show (0 : Int) ≤ Int32.toInt (q.1 25 7 <<< ((4 : Int32) &&& 31) ||| p1) by omega) (em_op (by omega) (by omega) (by omega) (by omega))
      have hFq_7 : cFr [31] [] q q_7 := by rw [eq_7]; exact (cFr.rf (q := q)).i (by decide)
      unfold zX7_leapHere_s25_26
      exact dOk_some (show (TC q_7) ∧ (cFr [31] [] q q_7) from ⟨hTq_7, hFq_7⟩)

set_option maxHeartbeats 4000000 in
set_option maxRecDepth 100000 in
theorem ok_X4_readPlace_s24 (q : dK) (p1 : Int32) (hT : TC q) (hp0 : ¬ Int32.toInt (q.1 24 0) = 0) (hp1 : ¬ Int32.toInt (q.1 24 3) = 0) (hp2 : 0 ≤ Int32.toInt p1 ∧ Int32.toInt p1 ≤ 100) : dOk (zX4_readPlace_s24 q p1) (fun (o : dK) => (TC o) ∧ (cFr [31] [(24, 4), (24, 5), (24, 6), (24, 7), (24, 10), (25, 7)] q o)) := by
  unfold zX4_readPlace_s24
  refine dOk_eq (A := Int32.toInt (q.1 24 4)) (B := 2) rfl (by decide) (fun c_1z c_1 => ?_) (fun c_2z c_2 => ?_)
  · have f_4 : 0 ≤ Int32.toInt (q.1 24 7) ∧ Int32.toInt (q.1 24 7) ≤ 1001 := rg_24_7 hT
    refine dOk_lt (A := Int32.toInt (q.1 24 7)) (B := 6) rfl (by decide) (fun c_5 => ?_) (fun c_6 => ?_)
    · have f_7 : 0 ≤ Int32.toInt (q.1 24 3) ∧ Int32.toInt (q.1 24 3) ≤ 1 := rg_24_3 hT
      refine dOk_G (dnz_ok (show ¬ Int32.toInt (q.1 24 3) = 0 by omega)) ?_
      try have t_8 : Int32.toInt (p1 + q.1 24 7) = Int32.toInt p1 + Int32.toInt (q.1 24 7) := ti_add rfl rfl (by omega) (by omega)
      refine dOk_V (ok_X7_emit_s25 q 1 (p1 + q.1 24 7) hT (show 0 ≤ (1 : Int) ∧ (1 : Int) ≤ 12 by omega) (show 0 ≤ Int32.toInt (p1 + q.1 24 7) ∧ Int32.toInt (p1 + q.1 24 7) ≤ 2000 by omega)) (fun q_9 h_10 => ?_)
      replace h_10 : (TC q_9) ∧ (cFr [31] [(25, 7)] q q_9) := h_10
      obtain ⟨i_11, i_12⟩ := h_10
      have hFq_9 : cFr [31] [(24, 4), (24, 5), (24, 6), (24, 7), (24, 10), (25, 7)] q q_9 := (cFr.rf (q := q)).t i_12 (by decide) (by decide)
      have f_13 : 0 ≤ Int32.toInt (q_9.1 24 0) ∧ Int32.toInt (q_9.1 24 0) ≤ 1 := rg_24_0 i_11
      have f_14 : 0 ≤ Int32.toInt (q.1 24 0) ∧ Int32.toInt (q.1 24 0) ≤ 1 := rg_24_0 hT
      have w_15 : Int32.toInt (q_9.1 24 0) = Int32.toInt (q.1 24 0) := by rw [i_12.1 24 0 (by decide) (by decide)]
      refine dOk_V (ok_X4_step_s24 q_9 i_11 (show ¬ Int32.toInt (q_9.1 24 0) = 0 by omega)) (fun q_16 h_17 => ?_)
      replace h_17 : (TC q_16) ∧ (cFr [] [(24, 4), (24, 5), (24, 6), (24, 7)] q_9 q_16) := h_17
      obtain ⟨i_18, i_19⟩ := h_17
      have hFq_16 : cFr [31] [(24, 4), (24, 5), (24, 6), (24, 7), (24, 10), (25, 7)] q q_16 := hFq_9.t i_19 (by decide) (by decide)
      exact dOk_some (show (TC q_16) ∧ (cFr [31] [(24, 4), (24, 5), (24, 6), (24, 7), (24, 10), (25, 7)] q q_16) from ⟨i_18, hFq_16⟩)
    · unfold zX4_readPlace_s24_17
      refine dOk_V (ok_X4_fail_s24 q hT) (fun q_20 h_21 => ?_)
      replace h_21 : (TC q_20) ∧ (cFr [] [(24, 10)] q q_20) := h_21
      obtain ⟨i_22, i_23⟩ := h_21
      have hFq_20 : cFr [31] [(24, 4), (24, 5), (24, 6), (24, 7), (24, 10), (25, 7)] q q_20 := (cFr.rf (q := q)).t i_23 (by decide) (by decide)
      exact dOk_some (show (TC q_20) ∧ (cFr [31] [(24, 4), (24, 5), (24, 6), (24, 7), (24, 10), (25, 7)] q q_20) from ⟨i_22, hFq_20⟩)
  · unfold zX4_readPlace_s24_17
    refine dOk_V (ok_X4_fail_s24 q hT) (fun q_24 h_25 => ?_)
    replace h_25 : (TC q_24) ∧ (cFr [] [(24, 10)] q q_24) := h_25
    obtain ⟨i_26, i_27⟩ := h_25
    have hFq_24 : cFr [31] [(24, 4), (24, 5), (24, 6), (24, 7), (24, 10), (25, 7)] q q_24 := (cFr.rf (q := q)).t i_27 (by decide) (by decide)
    exact dOk_some (show (TC q_24) ∧ (cFr [31] [(24, 4), (24, 5), (24, 6), (24, 7), (24, 10), (25, 7)] q q_24) from ⟨i_26, hFq_24⟩)

set_option maxHeartbeats 4000000 in
set_option maxRecDepth 100000 in
theorem ok_X4_readTimes_s24 (q : dK) (hT : TC q) (hp0 : ¬ Int32.toInt (q.1 24 0) = 0) (hp1 : ¬ Int32.toInt (q.1 24 3) = 0) : dOk (zX4_readTimes_s24 q) (fun (o : dK) => (TC o) ∧ (cFr [27] [(24, 4), (24, 5), (24, 6), (24, 7), (24, 10)] q o)) := by
  unfold zX4_readTimes_s24
  refine dOk_eq (A := Int32.toInt (q.1 24 4)) (B := 2) rfl (by decide) (fun c_1z c_1 => ?_) (fun c_2z c_2 => ?_)
  · have f_4 : 0 ≤ Int32.toInt (q.1 24 7) ∧ Int32.toInt (q.1 24 7) ≤ 1001 := rg_24_7 hT
    refine dOk_lt (A := Int32.toInt (q.1 24 7)) (B := 1) rfl (by decide) (fun c_5 => ?_) (fun c_6 => ?_)
    · unfold zX4_readTimes_s24_25
      refine dOk_V (ok_X4_fail_s24 q hT) (fun q_7 h_8 => ?_)
      replace h_8 : (TC q_7) ∧ (cFr [] [(24, 10)] q q_7) := h_8
      obtain ⟨i_9, i_10⟩ := h_8
      have hFq_7 : cFr [27] [(24, 4), (24, 5), (24, 6), (24, 7), (24, 10)] q q_7 := (cFr.rf (q := q)).t i_10 (by decide) (by decide)
      exact dOk_some (show (TC q_7) ∧ (cFr [27] [(24, 4), (24, 5), (24, 6), (24, 7), (24, 10)] q q_7) from ⟨i_9, hFq_7⟩)
    · refine dOk_le (A := Int32.toInt (q.1 24 7)) (B := 20) rfl (by decide) (fun c_11 => ?_) (fun c_12 => ?_)
      · have f_13 : 0 ≤ Int32.toInt (q.1 24 3) ∧ Int32.toInt (q.1 24 3) ≤ 1 := rg_24_3 hT
        refine dOk_G (dnz_ok (show ¬ Int32.toInt (q.1 24 3) = 0 by omega)) ?_
        refine dOk_V (ok_X7_setTimes_s25 q (q.1 24 7) hT) (fun q_14 h_15 => ?_)
        replace h_15 : (TC q_14) ∧ (cFr [27] [] q q_14) := h_15
        obtain ⟨i_16, i_17⟩ := h_15
        have hFq_14 : cFr [27] [(24, 4), (24, 5), (24, 6), (24, 7), (24, 10)] q q_14 := (cFr.rf (q := q)).t i_17 (by decide) (by decide)
        have f_18 : 0 ≤ Int32.toInt (q_14.1 24 0) ∧ Int32.toInt (q_14.1 24 0) ≤ 1 := rg_24_0 i_16
        have f_19 : 0 ≤ Int32.toInt (q.1 24 0) ∧ Int32.toInt (q.1 24 0) ≤ 1 := rg_24_0 hT
        have w_20 : Int32.toInt (q_14.1 24 0) = Int32.toInt (q.1 24 0) := by rw [i_17.1 24 0 (by decide) (by decide)]
        refine dOk_V (ok_X4_step_s24 q_14 i_16 (show ¬ Int32.toInt (q_14.1 24 0) = 0 by omega)) (fun q_21 h_22 => ?_)
        replace h_22 : (TC q_21) ∧ (cFr [] [(24, 4), (24, 5), (24, 6), (24, 7)] q_14 q_21) := h_22
        obtain ⟨i_23, i_24⟩ := h_22
        have hFq_21 : cFr [27] [(24, 4), (24, 5), (24, 6), (24, 7), (24, 10)] q q_21 := hFq_14.t i_24 (by decide) (by decide)
        exact dOk_some (show (TC q_21) ∧ (cFr [27] [(24, 4), (24, 5), (24, 6), (24, 7), (24, 10)] q q_21) from ⟨i_23, hFq_21⟩)
      · unfold zX4_readTimes_s24_25
        refine dOk_V (ok_X4_fail_s24 q hT) (fun q_25 h_26 => ?_)
        replace h_26 : (TC q_25) ∧ (cFr [] [(24, 10)] q q_25) := h_26
        obtain ⟨i_27, i_28⟩ := h_26
        have hFq_25 : cFr [27] [(24, 4), (24, 5), (24, 6), (24, 7), (24, 10)] q q_25 := (cFr.rf (q := q)).t i_28 (by decide) (by decide)
        exact dOk_some (show (TC q_25) ∧ (cFr [27] [(24, 4), (24, 5), (24, 6), (24, 7), (24, 10)] q q_25) from ⟨i_27, hFq_25⟩)
  · unfold zX4_readTimes_s24_25
    refine dOk_V (ok_X4_fail_s24 q hT) (fun q_29 h_30 => ?_)
    replace h_30 : (TC q_29) ∧ (cFr [] [(24, 10)] q q_29) := h_30
    obtain ⟨i_31, i_32⟩ := h_30
    have hFq_29 : cFr [27] [(24, 4), (24, 5), (24, 6), (24, 7), (24, 10)] q q_29 := (cFr.rf (q := q)).t i_32 (by decide) (by decide)
    exact dOk_some (show (TC q_29) ∧ (cFr [27] [(24, 4), (24, 5), (24, 6), (24, 7), (24, 10)] q q_29) from ⟨i_31, hFq_29⟩)
