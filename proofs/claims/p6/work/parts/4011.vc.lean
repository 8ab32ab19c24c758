set_option maxHeartbeats 4000000 in
set_option maxRecDepth 100000 in
theorem ok_isBit (p1 : Int32) : dOk (zX10_isBit p1) (fun (o : Int32) => ((Int32.toInt o = 1 ∧ 0 ≤ Int32.toInt p1 ∧ Int32.toInt p1 ≤ 1) ∨ (Int32.toInt o = 0 ∧ (Int32.toInt p1 < 0 ∨ 1 < Int32.toInt p1)))) := by
  unfold zX10_isBit
  refine dOk_V (ok_lies p1 0 1) (fun r_1 h_2 => ?_)
  replace h_2 : ((Int32.toInt r_1 = 1 ∧ (0 : Int) ≤ Int32.toInt p1 ∧ Int32.toInt p1 ≤ (1 : Int)) ∨ (Int32.toInt r_1 = 0 ∧ (Int32.toInt p1 < (0 : Int) ∨ (1 : Int) < Int32.toInt p1))) := h_2
  have i_3 := h_2
  refine dOk_G (dbl_ok (show Int32.toInt r_1 = 0 ∨ Int32.toInt r_1 = 1 by omega)) ?_
  exact dOk_some (show ((Int32.toInt r_1 = 1 ∧ 0 ≤ Int32.toInt p1 ∧ Int32.toInt p1 ≤ 1) ∨ (Int32.toInt r_1 = 0 ∧ (Int32.toInt p1 < 0 ∨ 1 < Int32.toInt p1))) from (by omega))

set_option maxHeartbeats 4000000 in
set_option maxRecDepth 100000 in
theorem ok_isRank (p1 : Int32) : dOk (zX10_isRank p1) (fun (o : Int32) => ((Int32.toInt o = 1 ∧ 0 ≤ Int32.toInt p1 ∧ Int32.toInt p1 ≤ 5) ∨ (Int32.toInt o = 0 ∧ (Int32.toInt p1 < 0 ∨ 5 < Int32.toInt p1)))) := by
  unfold zX10_isRank
  refine dOk_V (ok_lies p1 0 5) (fun r_1 h_2 => ?_)
  replace h_2 : ((Int32.toInt r_1 = 1 ∧ (0 : Int) ≤ Int32.toInt p1 ∧ Int32.toInt p1 ≤ (5 : Int)) ∨ (Int32.toInt r_1 = 0 ∧ (Int32.toInt p1 < (0 : Int) ∨ (5 : Int) < Int32.toInt p1))) := h_2
  have i_3 := h_2
  refine dOk_G (dbl_ok (show Int32.toInt r_1 = 0 ∨ Int32.toInt r_1 = 1 by omega)) ?_
  exact dOk_some (show ((Int32.toInt r_1 = 1 ∧ 0 ≤ Int32.toInt p1 ∧ Int32.toInt p1 ≤ 5) ∨ (Int32.toInt r_1 = 0 ∧ (Int32.toInt p1 < 0 ∨ 5 < Int32.toInt p1))) from (by omega))

set_option maxHeartbeats 4000000 in
set_option maxRecDepth 100000 in
theorem ok_laysAside (q : dS) (p1 : Int32) (hT : TS q) (hp0 : 0 ≤ Int32.toInt p1) (hp1 : Int32.toInt p1 ≤ 1) : dOk (zX10_laysAside q p1) (fun (o : dS) => (TS o) ∧ (dFr [5] [] q o)) := by
  unfold zX10_laysAside
  unfold zX10_laysAside_2
  refine dFix_ok (fun (a : dS × Int32 × Int32) => (TS a.1) ∧ (dFr [5] [] q a.1) ∧ (a.2.1 = p1) ∧ (0 ≤ Int32.toInt a.2.2) ∧ (Int32.toInt a.2.2 ≤ 14)) (fun (a : dS × Int32 × Int32) => (14 - Int32.toInt a.2.2).toNat) ?_ _ ?_ _ (dF_gt ?_)
  · intro a ha k_2 hk_1
    obtain ⟨q_3, x1_4, x2_5⟩ := a
    replace ha : (TS q_3) ∧ (dFr [5] [] q q_3) ∧ (x1_4 = p1) ∧ (0 ≤ Int32.toInt x2_5) ∧ (Int32.toInt x2_5 ≤ 14) := ha
    obtain ⟨a_6, a_7, a_8, a_9, a_10⟩ := ha
    show dOk (zX10_laysAside_2b  (fun q x1 x2 => k_2 (q, x1, x2)) q_3 x1_4 x2_5) _
    unfold zX10_laysAside_2b
    have hFq_3 : dFr [5] [] q q_3 := (dFr.rf (q := q)).t a_7 (by decide) (by decide)
    subst x1_4
    refine dOk_le (A := 14) (B := Int32.toInt x2_5) (by decide) rfl (fun c_11 => ?_) (fun c_12 => ?_)
    · exact dOk_some (show (TS q_3) ∧ (dFr [5] [] q q_3) from ⟨a_6, hFq_3⟩)
    · refine dOk_G (dg_ok (show 0 ≤ Int32.toInt x2_5 by omega) (show Int32.toInt x2_5 < ((5640 : Nat) : Int) by omega)) ?_
      have n_13 : ((Int32.toNatClampNeg x2_5 : Nat) : Int) = Int32.toInt x2_5 := cl_eq (by omega)
      refine dOk_L (fun v_14 ev_14 => ?_)
      try have g_15 : klo (Int32.toNatClampNeg x2_5) ≤ Int32.toInt v_14 ∧ Int32.toInt v_14 ≤ khi (Int32.toNatClampNeg x2_5) := by rw [ev_14]; exact te_k a_6 _
      try have f_16 : 0 ≤ Int32.toInt v_14 ∧ Int32.toInt v_14 ≤ 5 := by rw [ev_14]; exact te_2r a_6 (by omega) (by omega)
      try have f_17 : 0 ≤ Int32.toInt v_14 ∧ Int32.toInt v_14 ≤ 1 := by rw [ev_14]; exact te_2h a_6 (by omega) (by omega)
      try have f_18 : 0 ≤ Int32.toInt v_14 ∧ Int32.toInt v_14 ≤ 5 := by rw [ev_14]; exact te_2s a_6 (by omega) (by omega)
      try have f_19 : 0 ≤ Int32.toInt v_14 ∧ Int32.toInt v_14 ≤ 400 := by rw [ev_14]; exact te_2z a_6 (by omega) (by omega)
      try have t_20 : Int32.toInt (14 * p1) = 14 * Int32.toInt p1 := ti_mul (by decide) rfl (by omega) (by omega)
      try have t_21 : Int32.toInt (14 * p1 + x2_5) = Int32.toInt (14 * p1) + Int32.toInt x2_5 := ti_add rfl rfl (by omega) (by omega)
      refine dOk_G (dg_ok (show 0 ≤ Int32.toInt (14 * p1 + x2_5) by omega) (show Int32.toInt (14 * p1 + x2_5) < ((28 : Nat) : Int) by omega)) ?_
      have n_22 : ((Int32.toNatClampNeg (14 * p1 + x2_5) : Nat) : Int) = Int32.toInt (14 * p1 + x2_5) := cl_eq (by omega)
      refine dOk_L (fun q_23 eq_23 => ?_)
      have hTq_23 : TS q_23 := by rw [eq_23]; first | exact ts_5 a_6 (show (Int32.toNatClampNeg (14 * p1 + x2_5)) % 14 = Int32.toNatClampNeg x2_5 by omega) g_15 | exact ts_set a_6 (by decide) (by simp only [tlo, klo]; omega) (by simp only [thi, khi]; omega)
      have hFq_23 : dFr [5] [] q q_23 := by rw [eq_23]; exact hFq_3.i (by decide) (by decide)
      try have t_24 : Int32.toInt (x2_5 + 1) = Int32.toInt x2_5 + 1 := ti_add rfl (by decide) (by omega) (by omega)
      exact hk_1 (q_23, p1, (x2_5 + 1)) (show (TS q_23) ∧ (dFr [5] [] q q_23) ∧ (p1 = p1) ∧ (0 ≤ Int32.toInt (x2_5 + 1)) ∧ (Int32.toInt (x2_5 + 1) ≤ 14) from ⟨hTq_23, (by rw [eq_23]; exact (((dFr.rf : dFr [5] [] q q).t a_7 (by decide) (by decide)) : dFr [5] [] q q_3).i (by decide) (by decide)), rfl, by omega, by omega⟩) (show (14 - Int32.toInt (x2_5 + 1)).toNat < (14 - Int32.toInt x2_5).toNat by omega)
  · exact (show (TS q) ∧ (dFr [5] [] q q) ∧ (p1 = p1) ∧ (0 ≤ (0 : Int)) ∧ ((0 : Int) ≤ 14) from ⟨hT, dFr.rf, rfl, by omega, by omega⟩)
  · show (14 - (0 : Int)).toNat < 1000000000000
    omega

set_option maxHeartbeats 4000000 in
set_option maxRecDepth 100000 in
theorem ok_takesBack (q : dS) (p1 : Int32) (hT : TS q) (hp0 : 0 ≤ Int32.toInt p1) (hp1 : Int32.toInt p1 ≤ 1) : dOk (zX10_takesBack q p1) (fun (o : dS) => (TS o) ∧ (dFk [2] [] q o)) := by
  unfold zX10_takesBack
  unfold zX10_takesBack_2
  refine dFix_ok (fun (a : dS × Int32 × Int32) => (TS a.1) ∧ (dFk [2] [] q a.1) ∧ (a.2.1 = p1) ∧ (0 ≤ Int32.toInt a.2.2) ∧ (Int32.toInt a.2.2 ≤ 14)) (fun (a : dS × Int32 × Int32) => (14 - Int32.toInt a.2.2).toNat) ?_ _ ?_ _ (dF_gt ?_)
  · intro a ha k_2 hk_1
    obtain ⟨q_3, x1_4, x2_5⟩ := a
    replace ha : (TS q_3) ∧ (dFk [2] [] q q_3) ∧ (x1_4 = p1) ∧ (0 ≤ Int32.toInt x2_5) ∧ (Int32.toInt x2_5 ≤ 14) := ha
    obtain ⟨a_6, a_7, a_8, a_9, a_10⟩ := ha
    show dOk (zX10_takesBack_2b  (fun q x1 x2 => k_2 (q, x1, x2)) q_3 x1_4 x2_5) _
    unfold zX10_takesBack_2b
    have hFq_3 : dFk [2] [] q q_3 := (dFk.rf (q := q)).t a_7 (by decide) (by decide)
    subst x1_4
    refine dOk_le (A := 14) (B := Int32.toInt x2_5) (by decide) rfl (fun c_11 => ?_) (fun c_12 => ?_)
    · exact dOk_some (show (TS q_3) ∧ (dFk [2] [] q q_3) from ⟨a_6, hFq_3⟩)
    · try have t_13 : Int32.toInt (14 * p1) = 14 * Int32.toInt p1 := ti_mul (by decide) rfl (by omega) (by omega)
      try have t_14 : Int32.toInt (14 * p1 + x2_5) = Int32.toInt (14 * p1) + Int32.toInt x2_5 := ti_add rfl rfl (by omega) (by omega)
      refine dOk_G (dg_ok (show 0 ≤ Int32.toInt (14 * p1 + x2_5) by omega) (show Int32.toInt (14 * p1 + x2_5) < ((28 : Nat) : Int) by omega)) ?_
      have n_15 : ((Int32.toNatClampNeg (14 * p1 + x2_5) : Nat) : Int) = Int32.toInt (14 * p1 + x2_5) := cl_eq (by omega)
      refine dOk_L (fun v_16 ev_16 => ?_)
      try have g_17 : klo ((Int32.toNatClampNeg (14 * p1 + x2_5)) % 14) ≤ Int32.toInt v_16 ∧ Int32.toInt v_16 ≤ khi ((Int32.toNatClampNeg (14 * p1 + x2_5)) % 14) := by rw [ev_16]; exact te_5 a_6 _
      refine dOk_G (dg_ok (show 0 ≤ Int32.toInt x2_5 by omega) (show Int32.toInt x2_5 < ((5640 : Nat) : Int) by omega)) ?_
      have n_18 : ((Int32.toNatClampNeg x2_5 : Nat) : Int) = Int32.toInt x2_5 := cl_eq (by omega)
      refine dOk_L (fun q_19 eq_19 => ?_)
      have hTq_19 : TS q_19 := by rw [eq_19]; first | exact ts_2c a_6 (by omega) (show Int32.toNatClampNeg x2_5 = (Int32.toNatClampNeg (14 * p1 + x2_5)) % 14 by omega) g_17 | exact ts_set2 a_6 (by omega) (show klo (Int32.toNatClampNeg x2_5) ≤ Int32.toInt v_16 by unfold klo; omega) (show Int32.toInt v_16 ≤ khi (Int32.toNatClampNeg x2_5) by unfold khi; omega)
      have hFq_19 : dFk [2] [] q q_19 := by rw [eq_19]; exact hFq_3.k (by omega) (by decide)
      try have t_20 : Int32.toInt (x2_5 + 1) = Int32.toInt x2_5 + 1 := ti_add rfl (by decide) (by omega) (by omega)
      exact hk_1 (q_19, p1, (x2_5 + 1)) (show (TS q_19) ∧ (dFk [2] [] q q_19) ∧ (p1 = p1) ∧ (0 ≤ Int32.toInt (x2_5 + 1)) ∧ (Int32.toInt (x2_5 + 1) ≤ 14) from ⟨hTq_19, (by rw [eq_19]; exact (((dFk.rf : dFk [2] [] q q).t a_7 (by decide) (by decide)) : dFk [2] [] q q_3).k (by omega) (by decide)), rfl, by omega, by omega⟩) (show (14 - Int32.toInt (x2_5 + 1)).toNat < (14 - Int32.toInt x2_5).toNat by omega)
  · exact (show (TS q) ∧ (dFk [2] [] q q) ∧ (p1 = p1) ∧ (0 ≤ (0 : Int)) ∧ ((0 : Int) ≤ 14) from ⟨hT, dFk.rf, rfl, by omega, by omega⟩)
  · show (14 - (0 : Int)).toNat < 1000000000000
    omega

set_option maxHeartbeats 4000000 in
set_option maxRecDepth 100000 in
theorem ok_size (q : dS) (hT : TS q) : dOk (zX10_size q) (fun (o : Int32 × dS) => (o.2 = q) ∧ (Int32.toInt o.1 = Int32.toInt (q.1 2 29)) ∧ (0 ≤ Int32.toInt o.1 ∧ Int32.toInt o.1 ≤ 6)) := by
  unfold zX10_size
  have f_1 : 0 ≤ Int32.toInt (q.1 2 29) ∧ Int32.toInt (q.1 2 29) ≤ 6 := hT.1 2 29
  exact dOk_some (show (q = q) ∧ (Int32.toInt (q.1 2 29) = Int32.toInt (q.1 2 29)) ∧ (0 ≤ Int32.toInt (q.1 2 29) ∧ Int32.toInt (q.1 2 29) ≤ 6) from ⟨rfl, by omega, by omega⟩)

set_option maxHeartbeats 4000000 in
set_option maxRecDepth 100000 in
theorem ok_isPlace (q : dS) (p1 : Int32) (hT : TS q) : dOk (zX10_isPlace q p1) (fun (o : Int32 × dS) => (o.2 = q) ∧ ((Int32.toInt o.1 = 1 ∧ 0 ≤ Int32.toInt p1 ∧ Int32.toInt p1 < Int32.toInt (q.1 2 29)) ∨ (Int32.toInt o.1 = 0 ∧ (Int32.toInt p1 < 0 ∨ Int32.toInt (q.1 2 29) ≤ Int32.toInt p1)))) := by
  unfold zX10_isPlace
  refine dOk_B (ok_size q hT) (fun r_1 q_2 h_3 => ?_)
  replace h_3 : (q_2 = q) ∧ (Int32.toInt r_1 = Int32.toInt (q.1 2 29)) ∧ (0 ≤ Int32.toInt r_1 ∧ Int32.toInt r_1 ≤ 6) := h_3
  obtain ⟨i_4, i_5, i_6⟩ := h_3
  subst q_2
  have f_7 : 0 ≤ Int32.toInt (q.1 2 29) ∧ Int32.toInt (q.1 2 29) ≤ 6 := hT.1 2 29
  try have t_8 : Int32.toInt (r_1 - 1) = Int32.toInt r_1 - 1 := ti_sub rfl (by decide) (by omega) (by omega)
  refine dOk_V (ok_lies p1 0 (r_1 - 1)) (fun r_9 h_10 => ?_)
  replace h_10 : ((Int32.toInt r_9 = 1 ∧ (0 : Int) ≤ Int32.toInt p1 ∧ Int32.toInt p1 ≤ Int32.toInt (r_1 - 1)) ∨ (Int32.toInt r_9 = 0 ∧ (Int32.toInt p1 < (0 : Int) ∨ Int32.toInt (r_1 - 1) < Int32.toInt p1))) := h_10
  have i_11 := h_10
  refine dOk_G (dbl_ok (show Int32.toInt r_9 = 0 ∨ Int32.toInt r_9 = 1 by omega)) ?_
  exact dOk_some (show (q = q) ∧ ((Int32.toInt r_9 = 1 ∧ 0 ≤ Int32.toInt p1 ∧ Int32.toInt p1 < Int32.toInt (q.1 2 29)) ∨ (Int32.toInt r_9 = 0 ∧ (Int32.toInt p1 < 0 ∨ Int32.toInt (q.1 2 29) ≤ Int32.toInt p1))) from ⟨rfl, by omega⟩)

set_option maxHeartbeats 4000000 in
set_option maxRecDepth 100000 in
theorem ok_placeOf (q : dS) (p1 : Int32) (hT : TS q) : dOk (zX10_placeOf q p1) (fun (o : Int32 × dS) => (o.2 = q) ∧ (-1 ≤ Int32.toInt o.1 ∧ Int32.toInt o.1 ≤ 5)) := by
  unfold zX10_placeOf
  unfold zX10_placeOf_4
  refine dFix_ok (fun (a : dS × Int32 × Int32 × Int32) => (a.1 = q) ∧ (a.2.1 = p1) ∧ (0 ≤ Int32.toInt a.2.2.2) ∧ (Int32.toInt a.2.2.2 ≤ 6) ∧ (-1 ≤ Int32.toInt a.2.2.1 ∧ Int32.toInt a.2.2.1 ≤ 5)) (fun (a : dS × Int32 × Int32 × Int32) => (6 - Int32.toInt a.2.2.2).toNat) ?_ _ ?_ _ (dF_gt ?_)
  · intro a ha k_2 hk_1
    obtain ⟨q_3, x1_4, x2_5, x3_6⟩ := a
    replace ha : (q_3 = q) ∧ (x1_4 = p1) ∧ (0 ≤ Int32.toInt x3_6) ∧ (Int32.toInt x3_6 ≤ 6) ∧ (-1 ≤ Int32.toInt x2_5 ∧ Int32.toInt x2_5 ≤ 5) := ha
    obtain ⟨a_7, a_8, a_9, a_10, a_11⟩ := ha
    show dOk (zX10_placeOf_4b  (fun q x1 x2 x3 => k_2 (q, x1, x2, x3)) q_3 x1_4 x2_5 x3_6) _
    unfold zX10_placeOf_4b
    subst q_3
    subst x1_4
    refine dOk_B (ok_size q hT) (fun r_12 q_13 h_14 => ?_)
    replace h_14 : (q_13 = q) ∧ (Int32.toInt r_12 = Int32.toInt (q.1 2 29)) ∧ (0 ≤ Int32.toInt r_12 ∧ Int32.toInt r_12 ≤ 6) := h_14
    obtain ⟨i_15, i_16, i_17⟩ := h_14
    subst q_13
    have f_18 : 0 ≤ Int32.toInt (q.1 2 29) ∧ Int32.toInt (q.1 2 29) ≤ 6 := hT.1 2 29
    refine dOk_le (A := Int32.toInt r_12) (B := Int32.toInt x3_6) rfl rfl (fun c_19 => ?_) (fun c_20 => ?_)
    · exact dOk_some (show (q = q) ∧ (-1 ≤ Int32.toInt x2_5 ∧ Int32.toInt x2_5 ≤ 5) from ⟨rfl, by omega⟩)
    · try have t_21 : Int32.toInt (0 + x3_6) = 0 + Int32.toInt x3_6 := ti_add (by decide) rfl (by omega) (by omega)
      refine dOk_G (dg_ok (show 0 ≤ Int32.toInt (0 + x3_6) by omega) (show Int32.toInt (0 + x3_6) < ((5640 : Nat) : Int) by omega)) ?_
      have n_22 : ((Int32.toNatClampNeg (0 + x3_6) : Nat) : Int) = Int32.toInt (0 + x3_6) := cl_eq (by omega)
      refine dOk_L (fun v_23 ev_23 => ?_)
      try have g_24 : klo (Int32.toNatClampNeg (0 + x3_6)) ≤ Int32.toInt v_23 ∧ Int32.toInt v_23 ≤ khi (Int32.toNatClampNeg (0 + x3_6)) := by rw [ev_23]; exact te_k hT _
      try have f_25 : 0 ≤ Int32.toInt v_23 ∧ Int32.toInt v_23 ≤ 5 := by rw [ev_23]; exact te_2r hT (by omega) (by omega)
      try have f_26 : 0 ≤ Int32.toInt v_23 ∧ Int32.toInt v_23 ≤ 1 := by rw [ev_23]; exact te_2h hT (by omega) (by omega)
      try have f_27 : 0 ≤ Int32.toInt v_23 ∧ Int32.toInt v_23 ≤ 5 := by rw [ev_23]; exact te_2s hT (by omega) (by omega)
      try have f_28 : 0 ≤ Int32.toInt v_23 ∧ Int32.toInt v_23 ≤ 400 := by rw [ev_23]; exact te_2z hT (by omega) (by omega)
      refine dOk_eq (A := Int32.toInt v_23) (B := Int32.toInt p1) rfl rfl (fun c_29z c_29 => ?_) (fun c_30z c_30 => ?_)
      · unfold zX10_placeOf_29
        try have t_32 : Int32.toInt (x3_6 + 1) = Int32.toInt x3_6 + 1 := ti_add rfl (by decide) (by omega) (by omega)
        exact hk_1 (q, p1, x3_6, (x3_6 + 1)) (show (q = q) ∧ (p1 = p1) ∧ (0 ≤ Int32.toInt (x3_6 + 1)) ∧ (Int32.toInt (x3_6 + 1) ≤ 6) ∧ (-1 ≤ Int32.toInt x3_6 ∧ Int32.toInt x3_6 ≤ 5) from ⟨rfl, rfl, by omega, by omega, by omega⟩) (show (6 - Int32.toInt (x3_6 + 1)).toNat < (6 - Int32.toInt x3_6).toNat by omega)
      · unfold zX10_placeOf_29
        try have t_33 : Int32.toInt (x3_6 + 1) = Int32.toInt x3_6 + 1 := ti_add rfl (by decide) (by omega) (by omega)
        exact hk_1 (q, p1, x2_5, (x3_6 + 1)) (show (q = q) ∧ (p1 = p1) ∧ (0 ≤ Int32.toInt (x3_6 + 1)) ∧ (Int32.toInt (x3_6 + 1) ≤ 6) ∧ (-1 ≤ Int32.toInt x2_5 ∧ Int32.toInt x2_5 ≤ 5) from ⟨rfl, rfl, by omega, by omega, by omega⟩) (show (6 - Int32.toInt (x3_6 + 1)).toNat < (6 - Int32.toInt x3_6).toNat by omega)
  · exact (show (q = q) ∧ (p1 = p1) ∧ (0 ≤ (0 : Int)) ∧ ((0 : Int) ≤ 6) ∧ (-1 ≤ (-1 : Int) ∧ (-1 : Int) ≤ 5) from ⟨rfl, rfl, by omega, by omega, by omega⟩)
  · show (6 - (0 : Int)).toNat < 1000000000000
    omega

set_option maxHeartbeats 4000000 in
set_option maxRecDepth 100000 in
theorem ok_adds (q : dS) (p1 : Int32) (p2 : Int32) (hT : TS q) (hp0 : Int32.toInt (q.1 2 29) < 6) (hp1 : 0 ≤ Int32.toInt p1 ∧ Int32.toInt p1 ≤ 5) (hp2 : 0 ≤ Int32.toInt p2 ∧ Int32.toInt p2 ≤ 1) : dOk (zX10_adds q p1 p2) (fun (o : dS) => (TS o) ∧ (dFr [2] [] q o) ∧ (Int32.toInt (o.1 2 29) = Int32.toInt (q.1 2 29) + 1) ∧ (Int32.toInt (o.1 2 30) = Int32.toInt (q.1 2 30)) ∧ (Int32.toInt (o.1 2 26) = Int32.toInt (q.1 2 26))) := by
  unfold zX10_adds
  refine dOk_B (ok_size q hT) (fun r_1 q_2 h_3 => ?_)
  replace h_3 : (q_2 = q) ∧ (Int32.toInt r_1 = Int32.toInt (q.1 2 29)) ∧ (0 ≤ Int32.toInt r_1 ∧ Int32.toInt r_1 ≤ 6) := h_3
  obtain ⟨i_4, i_5, i_6⟩ := h_3
  subst q_2
  have f_7 : 0 ≤ Int32.toInt (q.1 2 29) ∧ Int32.toInt (q.1 2 29) ≤ 6 := hT.1 2 29
  try have t_8 : Int32.toInt (0 + r_1) = 0 + Int32.toInt r_1 := ti_add (by decide) rfl (by omega) (by omega)
  refine dOk_G (dg_ok (show 0 ≤ Int32.toInt (0 + r_1) by omega) (show Int32.toInt (0 + r_1) < ((5640 : Nat) : Int) by omega)) ?_
  have n_9 : ((Int32.toNatClampNeg (0 + r_1) : Nat) : Int) = Int32.toInt (0 + r_1) := cl_eq (by omega)
  refine dOk_L (fun q_10 eq_10 => ?_)
  have hTq_10 : TS q_10 := by rw [eq_10]; exact ts_set2 hT (by omega) (show klo (Int32.toNatClampNeg (0 + r_1)) ≤ Int32.toInt p1 by unfold klo; omega) (show Int32.toInt p1 ≤ khi (Int32.toNatClampNeg (0 + r_1)) by unfold khi; omega)
  have hFq_10 : dFr [2] [] q q_10 := by rw [eq_10]; exact (dFr.rf (q := q)).i (by decide) (by decide)
  refine dOk_B (ok_size q_10 hTq_10) (fun r_11 q_12 h_13 => ?_)
  replace h_13 : (q_12 = q_10) ∧ (Int32.toInt r_11 = Int32.toInt (q_10.1 2 29)) ∧ (0 ≤ Int32.toInt r_11 ∧ Int32.toInt r_11 ≤ 6) := h_13
  obtain ⟨i_14, i_15, i_16⟩ := h_13
  subst q_12
  have f_17 : 0 ≤ Int32.toInt (q_10.1 2 29) ∧ Int32.toInt (q_10.1 2 29) ≤ 6 := hTq_10.1 2 29
  try have w_18 : Int32.toInt (q_10.1 2 29) = Int32.toInt (q.1 2 29) := by rw [eq_10, dui_n (by omega)]
  try have t_19 : Int32.toInt (6 + r_11) = 6 + Int32.toInt r_11 := ti_add (by decide) rfl (by omega) (by omega)
  refine dOk_G (dg_ok (show 0 ≤ Int32.toInt (6 + r_11) by omega) (show Int32.toInt (6 + r_11) < ((5640 : Nat) : Int) by omega)) ?_
  have n_20 : ((Int32.toNatClampNeg (6 + r_11) : Nat) : Int) = Int32.toInt (6 + r_11) := cl_eq (by omega)
  refine dOk_L (fun q_21 eq_21 => ?_)
  have hTq_21 : TS q_21 := by rw [eq_21]; exact ts_set2 hTq_10 (by omega) (show klo (Int32.toNatClampNeg (6 + r_11)) ≤ Int32.toInt p2 by unfold klo; omega) (show Int32.toInt p2 ≤ khi (Int32.toNatClampNeg (6 + r_11)) by unfold khi; omega)
  have hFq_21 : dFr [2] [] q q_21 := by rw [eq_21]; exact hFq_10.i (by decide) (by decide)
  refine dOk_L (fun q_22 eq_22 => ?_)
  have f_23 : 0 ≤ Int32.toInt (q_21.1 2 29) ∧ Int32.toInt (q_21.1 2 29) ≤ 6 := hTq_21.1 2 29
  try have w_24 : Int32.toInt (q_21.1 2 29) = Int32.toInt (q_10.1 2 29) := by rw [eq_21, dui_n (by omega)]
  try have t_25 : Int32.toInt (q_21.1 2 29 + 1) = Int32.toInt (q_21.1 2 29) + 1 := ti_add rfl (by decide) (by omega) (by omega)
  have hTq_22 : TS q_22 := by rw [eq_22]; exact ts_set2 hTq_21 (by omega) (show klo (29) ≤ Int32.toInt (q_21.1 2 29 + 1) by unfold klo; omega) (show Int32.toInt (q_21.1 2 29 + 1) ≤ khi (29) by unfold khi; omega)
  have hFq_22 : dFr [2] [] q q_22 := by rw [eq_22]; exact hFq_21.i (by decide) (by decide)
  have f_26 : 0 ≤ Int32.toInt (q_22.1 2 29) ∧ Int32.toInt (q_22.1 2 29) ≤ 6 := hTq_22.1 2 29
  have w_27 : Int32.toInt (q_22.1 2 29) = Int32.toInt (q_21.1 2 29 + 1) := by rw [eq_22, dui_e]
  have f_28 : 0 ≤ Int32.toInt (q_22.1 2 30) ∧ Int32.toInt (q_22.1 2 30) ≤ 6 := hTq_22.1 2 30
  have f_29 : 0 ≤ Int32.toInt (q_21.1 2 30) ∧ Int32.toInt (q_21.1 2 30) ≤ 6 := hTq_21.1 2 30
  have f_30 : 0 ≤ Int32.toInt (q_10.1 2 30) ∧ Int32.toInt (q_10.1 2 30) ≤ 6 := hTq_10.1 2 30
  have f_31 : 0 ≤ Int32.toInt (q.1 2 30) ∧ Int32.toInt (q.1 2 30) ≤ 6 := hT.1 2 30
  try have w_32 : Int32.toInt (q_10.1 2 30) = Int32.toInt (q.1 2 30) := by rw [eq_10, dui_n (by omega)]
  try have w_33 : Int32.toInt (q_21.1 2 30) = Int32.toInt (q_10.1 2 30) := by rw [eq_21, dui_n (by omega)]
  have w_34 : Int32.toInt (q_22.1 2 30) = Int32.toInt (q_21.1 2 30) := by rw [eq_22, dui_n (by decide)]
  have f_35 : 0 ≤ Int32.toInt (q_22.1 2 26) ∧ Int32.toInt (q_22.1 2 26) ≤ 10 := hTq_22.1 2 26
  have f_36 : 0 ≤ Int32.toInt (q_21.1 2 26) ∧ Int32.toInt (q_21.1 2 26) ≤ 10 := hTq_21.1 2 26
  have f_37 : 0 ≤ Int32.toInt (q_10.1 2 26) ∧ Int32.toInt (q_10.1 2 26) ≤ 10 := hTq_10.1 2 26
  have f_38 : 0 ≤ Int32.toInt (q.1 2 26) ∧ Int32.toInt (q.1 2 26) ≤ 10 := hT.1 2 26
  try have w_39 : Int32.toInt (q_10.1 2 26) = Int32.toInt (q.1 2 26) := by rw [eq_10, dui_n (by omega)]
  try have w_40 : Int32.toInt (q_21.1 2 26) = Int32.toInt (q_10.1 2 26) := by rw [eq_21, dui_n (by omega)]
  have w_41 : Int32.toInt (q_22.1 2 26) = Int32.toInt (q_21.1 2 26) := by rw [eq_22, dui_n (by decide)]
  exact dOk_some (show (TS q_22) ∧ (dFr [2] [] q q_22) ∧ (Int32.toInt (q_22.1 2 29) = Int32.toInt (q.1 2 29) + 1) ∧ (Int32.toInt (q_22.1 2 30) = Int32.toInt (q.1 2 30)) ∧ (Int32.toInt (q_22.1 2 26) = Int32.toInt (q.1 2 26)) from ⟨hTq_22, hFq_22, by omega, by omega, by omega⟩)
