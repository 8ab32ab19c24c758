set_option maxHeartbeats 4000000 in
set_option maxRecDepth 100000 in
theorem ok_floor (q : dS) (p1 : Int32) (p2 : Int32) (hT : TS q) : dOk (zX10_floor q p1 p2) (fun (o : Int32 × dS) => (TS o.2) ∧ (dFr [1, 2] [0, 32] q o.2)) := by
  unfold zX10_floor
  refine dOk_V (ok_isRank p1) (fun r_1 h_2 => ?_)
  replace h_2 : ((Int32.toInt r_1 = 1 ∧ 0 ≤ Int32.toInt p1 ∧ Int32.toInt p1 ≤ 5) ∨ (Int32.toInt r_1 = 0 ∧ (Int32.toInt p1 < 0 ∨ 5 < Int32.toInt p1))) := h_2
  have i_3 := h_2
  refine dOk_eq (A := Int32.toInt r_1) (B := 0) rfl (by decide) (fun c_4z c_4 => ?_) (fun c_5z c_5 => ?_)
  · unfold zX10_floor_14
    refine dOk_B (ok_refuses q (-1) hT (show (-6) ≤ (-1 : Int) by omega) (show (-1 : Int) ≤ 0 by omega)) (fun r_7 q_8 h_9 => ?_)
    replace h_9 : (TS q_8) ∧ (dFr [1] [0] q q_8) ∧ (Int32.toInt r_7 = (-1 : Int)) := h_9
    obtain ⟨i_10, i_11, i_12⟩ := h_9
    have hFq_8 : dFr [1, 2] [0, 32] q q_8 := (dFr.rf (q := q)).t i_11 (by decide) (by decide)
    exact dOk_some (show (TS q_8) ∧ (dFr [1, 2] [0, 32] q q_8) from ⟨i_10, hFq_8⟩)
  · refine dOk_V (ok_isBit p2) (fun r_13 h_14 => ?_)
    replace h_14 : ((Int32.toInt r_13 = 1 ∧ 0 ≤ Int32.toInt p2 ∧ Int32.toInt p2 ≤ 1) ∨ (Int32.toInt r_13 = 0 ∧ (Int32.toInt p2 < 0 ∨ 1 < Int32.toInt p2))) := h_14
    have i_15 := h_14
    refine dOk_eq (A := Int32.toInt r_13) (B := 0) rfl (by decide) (fun c_16z c_16 => ?_) (fun c_17z c_17 => ?_)
    · unfold zX10_floor_14
      refine dOk_B (ok_refuses q (-1) hT (show (-6) ≤ (-1 : Int) by omega) (show (-1 : Int) ≤ 0 by omega)) (fun r_19 q_20 h_21 => ?_)
      replace h_21 : (TS q_20) ∧ (dFr [1] [0] q q_20) ∧ (Int32.toInt r_19 = (-1 : Int)) := h_21
      obtain ⟨i_22, i_23, i_24⟩ := h_21
      have hFq_20 : dFr [1, 2] [0, 32] q q_20 := (dFr.rf (q := q)).t i_23 (by decide) (by decide)
      exact dOk_some (show (TS q_20) ∧ (dFr [1, 2] [0, 32] q q_20) from ⟨i_22, hFq_20⟩)
    · refine dOk_B (ok_placeOf q p1 hT) (fun r_25 q_26 h_27 => ?_)
      replace h_27 : (q_26 = q) ∧ (-1 ≤ Int32.toInt r_25 ∧ Int32.toInt r_25 ≤ 5) := h_27
      obtain ⟨i_28, i_29⟩ := h_27
      subst q_26
      refine dOk_eq (A := Int32.toInt r_25) (B := (-1)) rfl (by decide) (fun c_30z c_30 => ?_) (fun c_31z c_31 => ?_)
      · refine dOk_B (ok_size q hT) (fun r_33 q_34 h_35 => ?_)
        replace h_35 : (q_34 = q) ∧ (Int32.toInt r_33 = Int32.toInt (q.1 2 29)) ∧ (0 ≤ Int32.toInt r_33 ∧ Int32.toInt r_33 ≤ 6) := h_35
        obtain ⟨i_36, i_37, i_38⟩ := h_35
        subst q_34
        have f_39 : 0 ≤ Int32.toInt (q.1 2 29) ∧ Int32.toInt (q.1 2 29) ≤ 6 := hT.1 2 29
        refine dOk_eq (A := Int32.toInt r_33) (B := 6) rfl (by decide) (fun c_40z c_40 => ?_) (fun c_41z c_41 => ?_)
        · refine dOk_B (ok_refuses q (-5) hT (show (-6) ≤ (-5 : Int) by omega) (show (-5 : Int) ≤ 0 by omega)) (fun r_43 q_44 h_45 => ?_)
          replace h_45 : (TS q_44) ∧ (dFr [1] [0] q q_44) ∧ (Int32.toInt r_43 = (-5 : Int)) := h_45
          obtain ⟨i_46, i_47, i_48⟩ := h_45
          have hFq_44 : dFr [1, 2] [0, 32] q q_44 := (dFr.rf (q := q)).t i_47 (by decide) (by decide)
          exact dOk_some (show (TS q_44) ∧ (dFr [1, 2] [0, 32] q q_44) from ⟨i_46, hFq_44⟩)
        · refine dOk_V (ok_adds q p1 p2 hT (show Int32.toInt (q.1 2 29) < 6 by omega) (show 0 ≤ Int32.toInt p1 ∧ Int32.toInt p1 ≤ 5 by omega) (show 0 ≤ Int32.toInt p2 ∧ Int32.toInt p2 ≤ 1 by omega)) (fun q_49 h_50 => ?_)
          replace h_50 : (TS q_49) ∧ (dFr [2] [] q q_49) ∧ (Int32.toInt (q_49.1 2 29) = Int32.toInt (q.1 2 29) + 1) := h_50
          obtain ⟨i_51, i_52, i_53⟩ := h_50
          have hFq_49 : dFr [1, 2] [0, 32] q q_49 := (dFr.rf (q := q)).t i_52 (by decide) (by decide)
          have f_54 : 0 ≤ Int32.toInt (q_49.1 2 29) ∧ Int32.toInt (q_49.1 2 29) ≤ 6 := i_51.1 2 29
          refine dOk_B (ok_size q_49 i_51) (fun r_55 q_56 h_57 => ?_)
          replace h_57 : (q_56 = q_49) ∧ (Int32.toInt r_55 = Int32.toInt (q_49.1 2 29)) ∧ (0 ≤ Int32.toInt r_55 ∧ Int32.toInt r_55 ≤ 6) := h_57
          obtain ⟨i_58, i_59, i_60⟩ := h_57
          subst q_56
          try have t_61 : Int32.toInt (r_55 - 1) = Int32.toInt r_55 - 1 := ti_sub rfl (by decide) (by omega) (by omega)
          refine dOk_B (ok_settled q_49 (r_55 - 1) i_51) (fun r_62 q_63 h_64 => ?_)
          replace h_64 : (TS q_63) ∧ (dFr [] [0, 32] q_49 q_63) ∧ (Int32.toInt r_62 = Int32.toInt (r_55 - 1)) := h_64
          obtain ⟨i_65, i_66, i_67⟩ := h_64
          have hFq_63 : dFr [1, 2] [0, 32] q q_63 := hFq_49.t i_66 (by decide) (by decide)
          exact dOk_some (show (TS q_63) ∧ (dFr [1, 2] [0, 32] q q_63) from ⟨i_65, hFq_63⟩)
      · refine dOk_B (ok_refuses q (-3) hT (show (-6) ≤ (-3 : Int) by omega) (show (-3 : Int) ≤ 0 by omega)) (fun r_68 q_69 h_70 => ?_)
        replace h_70 : (TS q_69) ∧ (dFr [1] [0] q q_69) ∧ (Int32.toInt r_68 = (-3 : Int)) := h_70
        obtain ⟨i_71, i_72, i_73⟩ := h_70
        have hFq_69 : dFr [1, 2] [0, 32] q q_69 := (dFr.rf (q := q)).t i_72 (by decide) (by decide)
        exact dOk_some (show (TS q_69) ∧ (dFr [1, 2] [0, 32] q q_69) from ⟨i_71, hFq_69⟩)

set_option maxHeartbeats 4000000 in
set_option maxRecDepth 100000 in
theorem ok_setsAsked (q : dS) (p1 : Int32) (p2 : Int32) (p3 : Int32) (hT : TS q) : dOk (zX10_setsAsked q p1 p2 p3) (fun (o : dS) => (TS o) ∧ (dFr [12] [] q o) ∧ (Int32.toInt (o.1 12 0) = Int32.toInt (q.1 12 0)) ∧ (Int32.toInt (o.1 12 1) = Int32.toInt (q.1 12 1)) ∧ (Int32.toInt (o.1 12 2) = Int32.toInt (q.1 12 2))) := by
  unfold zX10_setsAsked
  refine dOk_B (ok_size q hT) (fun r_1 q_2 h_3 => ?_)
  replace h_3 : (q_2 = q) ∧ (Int32.toInt r_1 = Int32.toInt (q.1 2 29)) ∧ (0 ≤ Int32.toInt r_1 ∧ Int32.toInt r_1 ≤ 6) := h_3
  obtain ⟨i_4, i_5, i_6⟩ := h_3
  subst q_2
  have f_7 : 0 ≤ Int32.toInt (q.1 2 29) ∧ Int32.toInt (q.1 2 29) ≤ 6 := hT.1 2 29
  refine dOk_L (fun q_8 eq_8 => ?_)
  have hTq_8 : TS q_8 := by rw [eq_8]; exact ts_any hT rfl
  have hFq_8 : dFr [12] [] q q_8 := by rw [eq_8]; exact (dFr.rf (q := q)).i (by decide) (by decide)
  refine dOk_L (fun q_9 eq_9 => ?_)
  have hTq_9 : TS q_9 := by rw [eq_9]; exact ts_any hTq_8 rfl
  have hFq_9 : dFr [12] [] q q_9 := by rw [eq_9]; exact hFq_8.i (by decide) (by decide)
  refine dOk_L (fun q_10 eq_10 => ?_)
  have hTq_10 : TS q_10 := by rw [eq_10]; exact ts_any hTq_9 rfl
  have hFq_10 : dFr [12] [] q q_10 := by rw [eq_10]; exact hFq_9.i (by decide) (by decide)
  refine dOk_L (fun q_11 eq_11 => ?_)
  have f_12 : 0 ≤ Int32.toInt (q_10.1 2 27) ∧ Int32.toInt (q_10.1 2 27) ≤ 9 := hTq_10.1 2 27
  have f_13 : 0 ≤ Int32.toInt (q_9.1 2 27) ∧ Int32.toInt (q_9.1 2 27) ≤ 9 := hTq_9.1 2 27
  have f_14 : 0 ≤ Int32.toInt (q_8.1 2 27) ∧ Int32.toInt (q_8.1 2 27) ≤ 9 := hTq_8.1 2 27
  have f_15 : 0 ≤ Int32.toInt (q.1 2 27) ∧ Int32.toInt (q.1 2 27) ≤ 9 := hT.1 2 27
  have w_16 : Int32.toInt (q_8.1 2 27) = Int32.toInt (q.1 2 27) := by rw [eq_8, dui_o (by decide)]
  have w_17 : Int32.toInt (q_9.1 2 27) = Int32.toInt (q_8.1 2 27) := by rw [eq_9, dui_o (by decide)]
  have w_18 : Int32.toInt (q_10.1 2 27) = Int32.toInt (q_9.1 2 27) := by rw [eq_10, dui_o (by decide)]
  have hTq_11 : TS q_11 := by rw [eq_11]; exact ts_any hTq_10 rfl
  have hFq_11 : dFr [12] [] q q_11 := by rw [eq_11]; exact hFq_10.i (by decide) (by decide)
  refine dOk_L (fun q_19 eq_19 => ?_)
  have hTq_19 : TS q_19 := by rw [eq_19]; exact ts_any hTq_11 rfl
  have hFq_19 : dFr [12] [] q q_19 := by rw [eq_19]; exact hFq_11.i (by decide) (by decide)
  refine dOk_L (fun q_20 eq_20 => ?_)
  have f_21 : 0 ≤ Int32.toInt (q_19.1 2 13) ∧ Int32.toInt (q_19.1 2 13) ≤ 999 := hTq_19.1 2 13
  have f_22 : 0 ≤ Int32.toInt (q_11.1 2 13) ∧ Int32.toInt (q_11.1 2 13) ≤ 999 := hTq_11.1 2 13
  have f_23 : 0 ≤ Int32.toInt (q_10.1 2 13) ∧ Int32.toInt (q_10.1 2 13) ≤ 999 := hTq_10.1 2 13
  have f_24 : 0 ≤ Int32.toInt (q_9.1 2 13) ∧ Int32.toInt (q_9.1 2 13) ≤ 999 := hTq_9.1 2 13
  have f_25 : 0 ≤ Int32.toInt (q_8.1 2 13) ∧ Int32.toInt (q_8.1 2 13) ≤ 999 := hTq_8.1 2 13
  have f_26 : 0 ≤ Int32.toInt (q.1 2 13) ∧ Int32.toInt (q.1 2 13) ≤ 999 := hT.1 2 13
  have w_27 : Int32.toInt (q_8.1 2 13) = Int32.toInt (q.1 2 13) := by rw [eq_8, dui_o (by decide)]
  have w_28 : Int32.toInt (q_9.1 2 13) = Int32.toInt (q_8.1 2 13) := by rw [eq_9, dui_o (by decide)]
  have w_29 : Int32.toInt (q_10.1 2 13) = Int32.toInt (q_9.1 2 13) := by rw [eq_10, dui_o (by decide)]
  have w_30 : Int32.toInt (q_11.1 2 13) = Int32.toInt (q_10.1 2 13) := by rw [eq_11, dui_o (by decide)]
  have w_31 : Int32.toInt (q_19.1 2 13) = Int32.toInt (q_11.1 2 13) := by rw [eq_19, dui_o (by decide)]
  have hTq_20 : TS q_20 := by rw [eq_20]; exact ts_any hTq_19 rfl
  have hFq_20 : dFr [12] [] q q_20 := by rw [eq_20]; exact hFq_19.i (by decide) (by decide)
  have w_32 : Int32.toInt (q_8.1 12 0) = Int32.toInt (q.1 12 0) := by rw [eq_8, dui_n (by decide)]
  have w_33 : Int32.toInt (q_9.1 12 0) = Int32.toInt (q_8.1 12 0) := by rw [eq_9, dui_n (by decide)]
  have w_34 : Int32.toInt (q_10.1 12 0) = Int32.toInt (q_9.1 12 0) := by rw [eq_10, dui_n (by decide)]
  have w_35 : Int32.toInt (q_11.1 12 0) = Int32.toInt (q_10.1 12 0) := by rw [eq_11, dui_n (by decide)]
  have w_36 : Int32.toInt (q_19.1 12 0) = Int32.toInt (q_11.1 12 0) := by rw [eq_19, dui_n (by decide)]
  have w_37 : Int32.toInt (q_20.1 12 0) = Int32.toInt (q_19.1 12 0) := by rw [eq_20, dui_n (by decide)]
  have w_38 : Int32.toInt (q_8.1 12 1) = Int32.toInt (q.1 12 1) := by rw [eq_8, dui_n (by decide)]
  have w_39 : Int32.toInt (q_9.1 12 1) = Int32.toInt (q_8.1 12 1) := by rw [eq_9, dui_n (by decide)]
  have w_40 : Int32.toInt (q_10.1 12 1) = Int32.toInt (q_9.1 12 1) := by rw [eq_10, dui_n (by decide)]
  have w_41 : Int32.toInt (q_11.1 12 1) = Int32.toInt (q_10.1 12 1) := by rw [eq_11, dui_n (by decide)]
  have w_42 : Int32.toInt (q_19.1 12 1) = Int32.toInt (q_11.1 12 1) := by rw [eq_19, dui_n (by decide)]
  have w_43 : Int32.toInt (q_20.1 12 1) = Int32.toInt (q_19.1 12 1) := by rw [eq_20, dui_n (by decide)]
  have w_44 : Int32.toInt (q_8.1 12 2) = Int32.toInt (q.1 12 2) := by rw [eq_8, dui_n (by decide)]
  have w_45 : Int32.toInt (q_9.1 12 2) = Int32.toInt (q_8.1 12 2) := by rw [eq_9, dui_n (by decide)]
  have w_46 : Int32.toInt (q_10.1 12 2) = Int32.toInt (q_9.1 12 2) := by rw [eq_10, dui_n (by decide)]
  have w_47 : Int32.toInt (q_11.1 12 2) = Int32.toInt (q_10.1 12 2) := by rw [eq_11, dui_n (by decide)]
  have w_48 : Int32.toInt (q_19.1 12 2) = Int32.toInt (q_11.1 12 2) := by rw [eq_19, dui_n (by decide)]
  have w_49 : Int32.toInt (q_20.1 12 2) = Int32.toInt (q_19.1 12 2) := by rw [eq_20, dui_n (by decide)]
  exact dOk_some (show (TS q_20) ∧ (dFr [12] [] q q_20) ∧ (Int32.toInt (q_20.1 12 0) = Int32.toInt (q.1 12 0)) ∧ (Int32.toInt (q_20.1 12 1) = Int32.toInt (q.1 12 1)) ∧ (Int32.toInt (q_20.1 12 2) = Int32.toInt (q.1 12 2)) from ⟨hTq_20, hFq_20, by omega, by omega, by omega⟩)

set_option maxHeartbeats 4000000 in
set_option maxRecDepth 100000 in
theorem ok_setsFloor (q : dS) (p1 : Int32) (hT : TS q) (hp0 : 0 ≤ Int32.toInt p1) (hp1 : Int32.toInt p1 < 6) : dOk (zX10_setsFloor q p1) (fun (o : dS) => (TS o) ∧ (dFr [12] [] q o)) := by
  unfold zX10_setsFloor
  refine dOk_L (fun q_1 eq_1 => ?_)
  have hTq_1 : TS q_1 := by rw [eq_1]; exact ts_any hT rfl
  have hFq_1 : dFr [12] [] q q_1 := by rw [eq_1]; exact (dFr.rf (q := q)).i (by decide) (by decide)
  refine dOk_L (fun q_2 eq_2 => ?_)
  have hTq_2 : TS q_2 := by rw [eq_2]; exact ts_any hTq_1 rfl
  have hFq_2 : dFr [12] [] q q_2 := by rw [eq_2]; exact hFq_1.i (by decide) (by decide)
  refine dOk_L (fun q_3 eq_3 => ?_)
  have hTq_3 : TS q_3 := by rw [eq_3]; exact ts_any hTq_2 rfl
  have hFq_3 : dFr [12] [] q q_3 := by rw [eq_3]; exact hFq_2.i (by decide) (by decide)
  try have t_4 : Int32.toInt (0 + p1) = 0 + Int32.toInt p1 := ti_add (by decide) rfl (by omega) (by omega)
  refine dOk_G (dg_ok (show 0 ≤ Int32.toInt (0 + p1) by omega) (show Int32.toInt (0 + p1) < ((5640 : Nat) : Int) by omega)) ?_
  have n_5 : ((Int32.toNatClampNeg (0 + p1) : Nat) : Int) = Int32.toInt (0 + p1) := cl_eq (by omega)
  refine dOk_L (fun v_6 ev_6 => ?_)
  try have g_7 : klo (Int32.toNatClampNeg (0 + p1)) ≤ Int32.toInt v_6 ∧ Int32.toInt v_6 ≤ khi (Int32.toNatClampNeg (0 + p1)) := by rw [ev_6]; exact te_k hTq_3 _
  try have f_8 : 0 ≤ Int32.toInt v_6 ∧ Int32.toInt v_6 ≤ 5 := by rw [ev_6]; exact te_2r hTq_3 (by omega) (by omega)
  try have f_9 : 0 ≤ Int32.toInt v_6 ∧ Int32.toInt v_6 ≤ 1 := by rw [ev_6]; exact te_2h hTq_3 (by omega) (by omega)
  try have f_10 : 0 ≤ Int32.toInt v_6 ∧ Int32.toInt v_6 ≤ 5 := by rw [ev_6]; exact te_2s hTq_3 (by omega) (by omega)
  try have f_11 : 0 ≤ Int32.toInt v_6 ∧ Int32.toInt v_6 ≤ 400 := by rw [ev_6]; exact te_2z hTq_3 (by omega) (by omega)
  try have t_12 : Int32.toInt (6 + p1) = 6 + Int32.toInt p1 := ti_add (by decide) rfl (by omega) (by omega)
  refine dOk_G (dg_ok (show 0 ≤ Int32.toInt (6 + p1) by omega) (show Int32.toInt (6 + p1) < ((5640 : Nat) : Int) by omega)) ?_
  have n_13 : ((Int32.toNatClampNeg (6 + p1) : Nat) : Int) = Int32.toInt (6 + p1) := cl_eq (by omega)
  refine dOk_L (fun v_14 ev_14 => ?_)
  try have g_15 : klo (Int32.toNatClampNeg (6 + p1)) ≤ Int32.toInt v_14 ∧ Int32.toInt v_14 ≤ khi (Int32.toNatClampNeg (6 + p1)) := by rw [ev_14]; exact te_k hTq_3 _
  try have f_16 : 0 ≤ Int32.toInt v_14 ∧ Int32.toInt v_14 ≤ 5 := by rw [ev_14]; exact te_2r hTq_3 (by omega) (by omega)
  try have f_17 : 0 ≤ Int32.toInt v_14 ∧ Int32.toInt v_14 ≤ 1 := by rw [ev_14]; exact te_2h hTq_3 (by omega) (by omega)
  try have f_18 : 0 ≤ Int32.toInt v_14 ∧ Int32.toInt v_14 ≤ 5 := by rw [ev_14]; exact te_2s hTq_3 (by omega) (by omega)
  try have f_19 : 0 ≤ Int32.toInt v_14 ∧ Int32.toInt v_14 ≤ 400 := by rw [ev_14]; exact te_2z hTq_3 (by omega) (by omega)
  refine dOk_V (ok_setsAsked q_3 v_6 p1 v_14 hTq_3) (fun q_20 h_21 => ?_)
  replace h_21 : (TS q_20) ∧ (dFr [12] [] q_3 q_20) ∧ (Int32.toInt (q_20.1 12 0) = Int32.toInt (q_3.1 12 0)) ∧ (Int32.toInt (q_20.1 12 1) = Int32.toInt (q_3.1 12 1)) ∧ (Int32.toInt (q_20.1 12 2) = Int32.toInt (q_3.1 12 2)) := h_21
  obtain ⟨i_22, i_23, i_24, i_25, i_26⟩ := h_21
  have hFq_20 : dFr [12] [] q q_20 := hFq_3.t i_23 (by decide) (by decide)
  have w_27 : Int32.toInt (q_1.1 12 0) = (-1 : Int) := by rw [eq_1, dui_e]; decide
  have w_28 : Int32.toInt (q_2.1 12 0) = Int32.toInt (q_1.1 12 0) := by rw [eq_2, dui_n (by decide)]
  have w_29 : Int32.toInt (q_3.1 12 0) = Int32.toInt (q_2.1 12 0) := by rw [eq_3, dui_n (by decide)]
  have w_30 : Int32.toInt (q_2.1 12 1) = (-1 : Int) := by rw [eq_2, dui_e]; decide
  have w_31 : Int32.toInt (q_3.1 12 1) = Int32.toInt (q_2.1 12 1) := by rw [eq_3, dui_n (by decide)]
  have w_32 : Int32.toInt (q_3.1 12 2) = (-1 : Int) := by rw [eq_3, dui_e]; decide
  exact dOk_some (show (TS q_20) ∧ (dFr [12] [] q q_20) from ⟨i_22, hFq_20⟩)

set_option maxHeartbeats 4000000 in
set_option maxRecDepth 100000 in
theorem ok_sign (p1 : Int32) (hp0 : 0 ≤ Int32.toInt p1 ∧ Int32.toInt p1 ≤ 255) : dOk (zX10_sign p1) (fun (o : Int32) => (Int32.toInt o = Int32.toInt p1 + 100)) := by
  unfold zX10_sign
  try have t_1 : Int32.toInt (100 + p1) = 100 + Int32.toInt p1 := ti_add (by decide) rfl (by omega) (by omega)
  exact dOk_some (show (Int32.toInt (100 + p1) = Int32.toInt p1 + 100) from (by omega))

set_option maxHeartbeats 4000000 in
set_option maxRecDepth 100000 in
theorem ok_lessThan (q : dS) (p1 : Int32) (hT : TS q) : dOk (zX10_lessThan q p1) (fun (o : Int32 × dS) => (o.2 = q) ∧ (0 ≤ Int32.toInt o.1 ∧ Int32.toInt o.1 ≤ 6)) := by
  unfold zX10_lessThan
  unfold zX10_lessThan_4
  refine dFix_ok (fun (a : dS × Int32 × Int32 × Int32) => (a.1 = q) ∧ (a.2.1 = p1) ∧ (0 ≤ Int32.toInt a.2.2.2) ∧ (Int32.toInt a.2.2.2 ≤ 6) ∧ (0 ≤ Int32.toInt a.2.2.1) ∧ (Int32.toInt a.2.2.1 ≤ Int32.toInt a.2.2.2)) (fun (a : dS × Int32 × Int32 × Int32) => (6 - Int32.toInt a.2.2.2).toNat) ?_ _ ?_ _ (dF_gt ?_)
  · intro a ha k_2 hk_1
    obtain ⟨q_3, x1_4, x2_5, x3_6⟩ := a
    replace ha : (q_3 = q) ∧ (x1_4 = p1) ∧ (0 ≤ Int32.toInt x3_6) ∧ (Int32.toInt x3_6 ≤ 6) ∧ (0 ≤ Int32.toInt x2_5) ∧ (Int32.toInt x2_5 ≤ Int32.toInt x3_6) := ha
    obtain ⟨a_7, a_8, a_9, a_10, a_11, a_12⟩ := ha
    show dOk (zX10_lessThan_4b  (fun q x1 x2 x3 => k_2 (q, x1, x2, x3)) q_3 x1_4 x2_5 x3_6) _
    unfold zX10_lessThan_4b
    subst q_3
    subst x1_4
    refine dOk_B (ok_size q hT) (fun r_13 q_14 h_15 => ?_)
    replace h_15 : (q_14 = q) ∧ (Int32.toInt r_13 = Int32.toInt (q.1 2 29)) ∧ (0 ≤ Int32.toInt r_13 ∧ Int32.toInt r_13 ≤ 6) := h_15
    obtain ⟨i_16, i_17, i_18⟩ := h_15
    subst q_14
    have f_19 : 0 ≤ Int32.toInt (q.1 2 29) ∧ Int32.toInt (q.1 2 29) ≤ 6 := hT.1 2 29
    refine dOk_le (A := Int32.toInt r_13) (B := Int32.toInt x3_6) rfl rfl (fun c_20 => ?_) (fun c_21 => ?_)
    · exact dOk_some (show (q = q) ∧ (0 ≤ Int32.toInt x2_5 ∧ Int32.toInt x2_5 ≤ 6) from ⟨rfl, by omega⟩)
    · try have t_22 : Int32.toInt (0 + x3_6) = 0 + Int32.toInt x3_6 := ti_add (by decide) rfl (by omega) (by omega)
      refine dOk_G (dg_ok (show 0 ≤ Int32.toInt (0 + x3_6) by omega) (show Int32.toInt (0 + x3_6) < ((5640 : Nat) : Int) by omega)) ?_
      have n_23 : ((Int32.toNatClampNeg (0 + x3_6) : Nat) : Int) = Int32.toInt (0 + x3_6) := cl_eq (by omega)
      refine dOk_L (fun v_24 ev_24 => ?_)
      try have g_25 : klo (Int32.toNatClampNeg (0 + x3_6)) ≤ Int32.toInt v_24 ∧ Int32.toInt v_24 ≤ khi (Int32.toNatClampNeg (0 + x3_6)) := by rw [ev_24]; exact te_k hT _
      try have f_26 : 0 ≤ Int32.toInt v_24 ∧ Int32.toInt v_24 ≤ 5 := by rw [ev_24]; exact te_2r hT (by omega) (by omega)
      try have f_27 : 0 ≤ Int32.toInt v_24 ∧ Int32.toInt v_24 ≤ 1 := by rw [ev_24]; exact te_2h hT (by omega) (by omega)
      try have f_28 : 0 ≤ Int32.toInt v_24 ∧ Int32.toInt v_24 ≤ 5 := by rw [ev_24]; exact te_2s hT (by omega) (by omega)
      try have f_29 : 0 ≤ Int32.toInt v_24 ∧ Int32.toInt v_24 ≤ 400 := by rw [ev_24]; exact te_2z hT (by omega) (by omega)
      refine dOk_le (A := Int32.toInt p1) (B := Int32.toInt v_24) rfl rfl (fun c_30 => ?_) (fun c_31 => ?_)
      · unfold zX10_lessThan_30
        try have t_32 : Int32.toInt (x2_5 + 0) = Int32.toInt x2_5 + 0 := ti_add rfl (by decide) (by omega) (by omega)
        try have t_33 : Int32.toInt (x3_6 + 1) = Int32.toInt x3_6 + 1 := ti_add rfl (by decide) (by omega) (by omega)
        exact hk_1 (q, p1, (x2_5 + 0), (x3_6 + 1)) (show (q = q) ∧ (p1 = p1) ∧ (0 ≤ Int32.toInt (x3_6 + 1)) ∧ (Int32.toInt (x3_6 + 1) ≤ 6) ∧ (0 ≤ Int32.toInt (x2_5 + 0)) ∧ (Int32.toInt (x2_5 + 0) ≤ Int32.toInt (x3_6 + 1)) from ⟨rfl, rfl, by omega, by omega, by omega, by omega⟩) (show (6 - Int32.toInt (x3_6 + 1)).toNat < (6 - Int32.toInt x3_6).toNat by omega)
      · unfold zX10_lessThan_30
        try have t_34 : Int32.toInt (x2_5 + 1) = Int32.toInt x2_5 + 1 := ti_add rfl (by decide) (by omega) (by omega)
        try have t_35 : Int32.toInt (x3_6 + 1) = Int32.toInt x3_6 + 1 := ti_add rfl (by decide) (by omega) (by omega)
        exact hk_1 (q, p1, (x2_5 + 1), (x3_6 + 1)) (show (q = q) ∧ (p1 = p1) ∧ (0 ≤ Int32.toInt (x3_6 + 1)) ∧ (Int32.toInt (x3_6 + 1) ≤ 6) ∧ (0 ≤ Int32.toInt (x2_5 + 1)) ∧ (Int32.toInt (x2_5 + 1) ≤ Int32.toInt (x3_6 + 1)) from ⟨rfl, rfl, by omega, by omega, by omega, by omega⟩) (show (6 - Int32.toInt (x3_6 + 1)).toNat < (6 - Int32.toInt x3_6).toNat by omega)
  · exact (show (q = q) ∧ (p1 = p1) ∧ (0 ≤ (0 : Int)) ∧ ((0 : Int) ≤ 6) ∧ (0 ≤ (0 : Int)) ∧ ((0 : Int) ≤ (0 : Int)) from ⟨rfl, rfl, by omega, by omega, by omega, by omega⟩)
  · show (6 - (0 : Int)).toNat < 1000000000000
    omega

set_option maxHeartbeats 4000000 in
set_option maxRecDepth 100000 in
theorem ok_gaps (q : dS) (hT : TS q) : dOk (zX10_gaps q) (fun (o : Int32 × dS) => (o.2 = q)) := by
  unfold zX10_gaps
  refine dOk_B (ok_size q hT) (fun r_1 q_2 h_3 => ?_)
  replace h_3 : (q_2 = q) ∧ (Int32.toInt r_1 = Int32.toInt (q.1 2 29)) ∧ (0 ≤ Int32.toInt r_1 ∧ Int32.toInt r_1 ≤ 6) := h_3
  obtain ⟨i_4, i_5, i_6⟩ := h_3
  subst q_2
  have f_7 : 0 ≤ Int32.toInt (q.1 2 29) ∧ Int32.toInt (q.1 2 29) ≤ 6 := hT.1 2 29
  refine dOk_le (A := Int32.toInt r_1) (B := 0) rfl (by decide) (fun c_8 => ?_) (fun c_9 => ?_)
  · unfold zX10_gaps_37
    unfold zX10_gaps_38
    unfold zX10_gaps_41
    refine dFix_ok (fun (a : dS × Int32 × Int32) => (a.1 = q) ∧ (0 ≤ Int32.toInt a.2.2) ∧ (Int32.toInt a.2.2 ≤ 6)) (fun (a : dS × Int32 × Int32) => (6 - Int32.toInt a.2.2).toNat) ?_ _ ?_ _ (dF_gt ?_)
    · intro a ha k_11 hk_10
      obtain ⟨q_12, x1_13, x2_14⟩ := a
      replace ha : (q_12 = q) ∧ (0 ≤ Int32.toInt x2_14) ∧ (Int32.toInt x2_14 ≤ 6) := ha
      obtain ⟨a_15, a_16, a_17⟩ := ha
      show dOk (zX10_gaps_41b  (fun q x1 x2 => k_11 (q, x1, x2)) q_12 x1_13 x2_14) _
      unfold zX10_gaps_41b
      subst q_12
      refine dOk_B (ok_size q hT) (fun r_18 q_19 h_20 => ?_)
      replace h_20 : (q_19 = q) ∧ (Int32.toInt r_18 = Int32.toInt (q.1 2 29)) ∧ (0 ≤ Int32.toInt r_18 ∧ Int32.toInt r_18 ≤ 6) := h_20
      obtain ⟨i_21, i_22, i_23⟩ := h_20
      subst q_19
      try have t_24 : Int32.toInt (x2_14 + 1) = Int32.toInt x2_14 + 1 := ti_add rfl (by decide) (by omega) (by omega)
      refine dOk_le (A := Int32.toInt r_18) (B := Int32.toInt (x2_14 + 1)) rfl rfl (fun c_25 => ?_) (fun c_26 => ?_)
      · exact dOk_some (show (q = q) from rfl)
      · try have t_27 : Int32.toInt (0 + x2_14) = 0 + Int32.toInt x2_14 := ti_add (by decide) rfl (by omega) (by omega)
        refine dOk_G (dg_ok (show 0 ≤ Int32.toInt (0 + x2_14) by omega) (show Int32.toInt (0 + x2_14) < ((5640 : Nat) : Int) by omega)) ?_
        have n_28 : ((Int32.toNatClampNeg (0 + x2_14) : Nat) : Int) = Int32.toInt (0 + x2_14) := cl_eq (by omega)
        refine dOk_L (fun v_29 ev_29 => ?_)
        try have g_30 : klo (Int32.toNatClampNeg (0 + x2_14)) ≤ Int32.toInt v_29 ∧ Int32.toInt v_29 ≤ khi (Int32.toNatClampNeg (0 + x2_14)) := by rw [ev_29]; exact te_k hT _
        try have f_31 : 0 ≤ Int32.toInt v_29 ∧ Int32.toInt v_29 ≤ 5 := by rw [ev_29]; exact te_2r hT (by omega) (by omega)
        try have f_32 : 0 ≤ Int32.toInt v_29 ∧ Int32.toInt v_29 ≤ 1 := by rw [ev_29]; exact te_2h hT (by omega) (by omega)
        try have f_33 : 0 ≤ Int32.toInt v_29 ∧ Int32.toInt v_29 ≤ 5 := by rw [ev_29]; exact te_2s hT (by omega) (by omega)
        try have f_34 : 0 ≤ Int32.toInt v_29 ∧ Int32.toInt v_29 ≤ 400 := by rw [ev_29]; exact te_2z hT (by omega) (by omega)
        refine dOk_B (ok_lessThan q v_29 hT) (fun r_35 q_36 h_37 => ?_)
        replace h_37 : (q_36 = q) ∧ (0 ≤ Int32.toInt r_35 ∧ Int32.toInt r_35 ≤ 6) := h_37
        obtain ⟨i_38, i_39⟩ := h_37
        subst q_36
        try have t_40 : Int32.toInt (0 + x2_14 + 1) = Int32.toInt (0 + x2_14) + 1 := ti_add rfl (by decide) (by omega) (by omega)
        refine dOk_G (dg_ok (show 0 ≤ Int32.toInt (0 + x2_14 + 1) by omega) (show Int32.toInt (0 + x2_14 + 1) < ((5640 : Nat) : Int) by omega)) ?_
        have n_41 : ((Int32.toNatClampNeg (0 + x2_14 + 1) : Nat) : Int) = Int32.toInt (0 + x2_14 + 1) := cl_eq (by omega)
        refine dOk_L (fun v_42 ev_42 => ?_)
        try have g_43 : klo (Int32.toNatClampNeg (0 + x2_14 + 1)) ≤ Int32.toInt v_42 ∧ Int32.toInt v_42 ≤ khi (Int32.toNatClampNeg (0 + x2_14 + 1)) := by rw [ev_42]; exact te_k hT _
        try have f_44 : 0 ≤ Int32.toInt v_42 ∧ Int32.toInt v_42 ≤ 5 := by rw [ev_42]; exact te_2r hT (by omega) (by omega)
        try have f_45 : 0 ≤ Int32.toInt v_42 ∧ Int32.toInt v_42 ≤ 1 := by rw [ev_42]; exact te_2h hT (by omega) (by omega)
        try have f_46 : 0 ≤ Int32.toInt v_42 ∧ Int32.toInt v_42 ≤ 5 := by rw [ev_42]; exact te_2s hT (by omega) (by omega)
        try have f_47 : 0 ≤ Int32.toInt v_42 ∧ Int32.toInt v_42 ≤ 400 := by rw [ev_42]; exact te_2z hT (by omega) (by omega)
        refine dOk_B (ok_lessThan q v_42 hT) (fun r_48 q_49 h_50 => ?_)
        replace h_50 : (q_49 = q) ∧ (0 ≤ Int32.toInt r_48 ∧ Int32.toInt r_48 ≤ 6) := h_50
        obtain ⟨i_51, i_52⟩ := h_50
        subst q_49
        try have t_53 : Int32.toInt (r_35 - r_48) = Int32.toInt r_35 - Int32.toInt r_48 := ti_sub rfl rfl (by omega) (by omega)
        refine dOk_eq (A := Int32.toInt (r_35 - r_48)) (B := 1) rfl (by decide) (fun c_54z c_54 => ?_) (fun c_55z c_55 => ?_)
        · unfold zX10_gaps_90
          unfold zX10_gaps_95
          try have t_57 : Int32.toInt (x1_13 + 0) = Int32.toInt x1_13 + 0 := ti_add rfl (by decide) (by omega) (by omega)
          exact hk_10 (q, (x1_13 + 0), (x2_14 + 1)) (show (q = q) ∧ (0 ≤ Int32.toInt (x2_14 + 1)) ∧ (Int32.toInt (x2_14 + 1) ≤ 6) from ⟨rfl, by omega, by omega⟩) (show (6 - Int32.toInt (x2_14 + 1)).toNat < (6 - Int32.toInt x2_14).toNat by omega)
        · refine dOk_eq (A := Int32.toInt (r_35 - r_48)) (B := (-1)) rfl (by decide) (fun c_58z c_58 => ?_) (fun c_59z c_59 => ?_)
          · unfold zX10_gaps_90
            unfold zX10_gaps_95
            try have t_61 : Int32.toInt (x1_13 + 0) = Int32.toInt x1_13 + 0 := ti_add rfl (by decide) (by omega) (by omega)
            exact hk_10 (q, (x1_13 + 0), (x2_14 + 1)) (show (q = q) ∧ (0 ≤ Int32.toInt (x2_14 + 1)) ∧ (Int32.toInt (x2_14 + 1) ≤ 6) from ⟨rfl, by omega, by omega⟩) (show (6 - Int32.toInt (x2_14 + 1)).toNat < (6 - Int32.toInt x2_14).toNat by omega)
          · unfold zX10_gaps_95
            try have t_62 : Int32.toInt (x1_13 + 1) = Int32.toInt x1_13 + 1 := ti_add rfl (by decide) (by omega) (by omega)
            exact hk_10 (q, (x1_13 + 1), (x2_14 + 1)) (show (q = q) ∧ (0 ≤ Int32.toInt (x2_14 + 1)) ∧ (Int32.toInt (x2_14 + 1) ≤ 6) from ⟨rfl, by omega, by omega⟩) (show (6 - Int32.toInt (x2_14 + 1)).toNat < (6 - Int32.toInt x2_14).toNat by omega)
    · exact (show (q = q) ∧ (0 ≤ (0 : Int)) ∧ ((0 : Int) ≤ 6) from ⟨rfl, by omega, by omega⟩)
    · show (6 - (0 : Int)).toNat < 1000000000000
      omega
  · refine dOk_B (ok_size q hT) (fun r_63 q_64 h_65 => ?_)
    replace h_65 : (q_64 = q) ∧ (Int32.toInt r_63 = Int32.toInt (q.1 2 29)) ∧ (0 ≤ Int32.toInt r_63 ∧ Int32.toInt r_63 ≤ 6) := h_65
    obtain ⟨i_66, i_67, i_68⟩ := h_65
    subst q_64
    try have t_69 : Int32.toInt (0 + r_63) = 0 + Int32.toInt r_63 := ti_add (by decide) rfl (by omega) (by omega)
    try have t_70 : Int32.toInt (0 + r_63 - 1) = Int32.toInt (0 + r_63) - 1 := ti_sub rfl (by decide) (by omega) (by omega)
    refine dOk_G (dg_ok (show 0 ≤ Int32.toInt (0 + r_63 - 1) by omega) (show Int32.toInt (0 + r_63 - 1) < ((5640 : Nat) : Int) by omega)) ?_
    have n_71 : ((Int32.toNatClampNeg (0 + r_63 - 1) : Nat) : Int) = Int32.toInt (0 + r_63 - 1) := cl_eq (by omega)
    refine dOk_L (fun v_72 ev_72 => ?_)
    try have g_73 : klo (Int32.toNatClampNeg (0 + r_63 - 1)) ≤ Int32.toInt v_72 ∧ Int32.toInt v_72 ≤ khi (Int32.toNatClampNeg (0 + r_63 - 1)) := by rw [ev_72]; exact te_k hT _
    try have f_74 : 0 ≤ Int32.toInt v_72 ∧ Int32.toInt v_72 ≤ 5 := by rw [ev_72]; exact te_2r hT (by omega) (by omega)
    try have f_75 : 0 ≤ Int32.toInt v_72 ∧ Int32.toInt v_72 ≤ 1 := by rw [ev_72]; exact te_2h hT (by omega) (by omega)
    try have f_76 : 0 ≤ Int32.toInt v_72 ∧ Int32.toInt v_72 ≤ 5 := by rw [ev_72]; exact te_2s hT (by omega) (by omega)
    try have f_77 : 0 ≤ Int32.toInt v_72 ∧ Int32.toInt v_72 ≤ 400 := by rw [ev_72]; exact te_2z hT (by omega) (by omega)
    refine dOk_B (ok_lessThan q v_72 hT) (fun r_78 q_79 h_80 => ?_)
    replace h_80 : (q_79 = q) ∧ (0 ≤ Int32.toInt r_78 ∧ Int32.toInt r_78 ≤ 6) := h_80
    obtain ⟨i_81, i_82⟩ := h_80
    subst q_79
    refine dOk_B (ok_size q hT) (fun r_83 q_84 h_85 => ?_)
    replace h_85 : (q_84 = q) ∧ (Int32.toInt r_83 = Int32.toInt (q.1 2 29)) ∧ (0 ≤ Int32.toInt r_83 ∧ Int32.toInt r_83 ≤ 6) := h_85
    obtain ⟨i_86, i_87, i_88⟩ := h_85
    subst q_84
    try have t_89 : Int32.toInt (r_83 - 1) = Int32.toInt r_83 - 1 := ti_sub rfl (by decide) (by omega) (by omega)
    refine dOk_le (A := Int32.toInt (r_83 - 1)) (B := Int32.toInt r_78) rfl rfl (fun c_90 => ?_) (fun c_91 => ?_)
    · unfold zX10_gaps_37
      unfold zX10_gaps_38
      unfold zX10_gaps_41
      refine dFix_ok (fun (a : dS × Int32 × Int32) => (a.1 = q) ∧ (0 ≤ Int32.toInt a.2.2) ∧ (Int32.toInt a.2.2 ≤ 6)) (fun (a : dS × Int32 × Int32) => (6 - Int32.toInt a.2.2).toNat) ?_ _ ?_ _ (dF_gt ?_)
      · intro a ha k_93 hk_92
        obtain ⟨q_94, x1_95, x2_96⟩ := a
        replace ha : (q_94 = q) ∧ (0 ≤ Int32.toInt x2_96) ∧ (Int32.toInt x2_96 ≤ 6) := ha
        obtain ⟨a_97, a_98, a_99⟩ := ha
        show dOk (zX10_gaps_41b  (fun q x1 x2 => k_93 (q, x1, x2)) q_94 x1_95 x2_96) _
        unfold zX10_gaps_41b
        subst q_94
        refine dOk_B (ok_size q hT) (fun r_100 q_101 h_102 => ?_)
        replace h_102 : (q_101 = q) ∧ (Int32.toInt r_100 = Int32.toInt (q.1 2 29)) ∧ (0 ≤ Int32.toInt r_100 ∧ Int32.toInt r_100 ≤ 6) := h_102
        obtain ⟨i_103, i_104, i_105⟩ := h_102
        subst q_101
        try have t_106 : Int32.toInt (x2_96 + 1) = Int32.toInt x2_96 + 1 := ti_add rfl (by decide) (by omega) (by omega)
        refine dOk_le (A := Int32.toInt r_100) (B := Int32.toInt (x2_96 + 1)) rfl rfl (fun c_107 => ?_) (fun c_108 => ?_)
        · exact dOk_some (show (q = q) from rfl)
        · try have t_109 : Int32.toInt (0 + x2_96) = 0 + Int32.toInt x2_96 := ti_add (by decide) rfl (by omega) (by omega)
          refine dOk_G (dg_ok (show 0 ≤ Int32.toInt (0 + x2_96) by omega) (show Int32.toInt (0 + x2_96) < ((5640 : Nat) : Int) by omega)) ?_
          have n_110 : ((Int32.toNatClampNeg (0 + x2_96) : Nat) : Int) = Int32.toInt (0 + x2_96) := cl_eq (by omega)
          refine dOk_L (fun v_111 ev_111 => ?_)
          try have g_112 : klo (Int32.toNatClampNeg (0 + x2_96)) ≤ Int32.toInt v_111 ∧ Int32.toInt v_111 ≤ khi (Int32.toNatClampNeg (0 + x2_96)) := by rw [ev_111]; exact te_k hT _
          try have f_113 : 0 ≤ Int32.toInt v_111 ∧ Int32.toInt v_111 ≤ 5 := by rw [ev_111]; exact te_2r hT (by omega) (by omega)
          try have f_114 : 0 ≤ Int32.toInt v_111 ∧ Int32.toInt v_111 ≤ 1 := by rw [ev_111]; exact te_2h hT (by omega) (by omega)
          try have f_115 : 0 ≤ Int32.toInt v_111 ∧ Int32.toInt v_111 ≤ 5 := by rw [ev_111]; exact te_2s hT (by omega) (by omega)
          try have f_116 : 0 ≤ Int32.toInt v_111 ∧ Int32.toInt v_111 ≤ 400 := by rw [ev_111]; exact te_2z hT (by omega) (by omega)
          refine dOk_B (ok_lessThan q v_111 hT) (fun r_117 q_118 h_119 => ?_)
          replace h_119 : (q_118 = q) ∧ (0 ≤ Int32.toInt r_117 ∧ Int32.toInt r_117 ≤ 6) := h_119
          obtain ⟨i_120, i_121⟩ := h_119
          subst q_118
          try have t_122 : Int32.toInt (0 + x2_96 + 1) = Int32.toInt (0 + x2_96) + 1 := ti_add rfl (by decide) (by omega) (by omega)
          refine dOk_G (dg_ok (show 0 ≤ Int32.toInt (0 + x2_96 + 1) by omega) (show Int32.toInt (0 + x2_96 + 1) < ((5640 : Nat) : Int) by omega)) ?_
          have n_123 : ((Int32.toNatClampNeg (0 + x2_96 + 1) : Nat) : Int) = Int32.toInt (0 + x2_96 + 1) := cl_eq (by omega)
          refine dOk_L (fun v_124 ev_124 => ?_)
          try have g_125 : klo (Int32.toNatClampNeg (0 + x2_96 + 1)) ≤ Int32.toInt v_124 ∧ Int32.toInt v_124 ≤ khi (Int32.toNatClampNeg (0 + x2_96 + 1)) := by rw [ev_124]; exact te_k hT _
          try have f_126 : 0 ≤ Int32.toInt v_124 ∧ Int32.toInt v_124 ≤ 5 := by rw [ev_124]; exact te_2r hT (by omega) (by omega)
          try have f_127 : 0 ≤ Int32.toInt v_124 ∧ Int32.toInt v_124 ≤ 1 := by rw [ev_124]; exact te_2h hT (by omega) (by omega)
          try have f_128 : 0 ≤ Int32.toInt v_124 ∧ Int32.toInt v_124 ≤ 5 := by rw [ev_124]; exact te_2s hT (by omega) (by omega)
          try have f_129 : 0 ≤ Int32.toInt v_124 ∧ Int32.toInt v_124 ≤ 400 := by rw [ev_124]; exact te_2z hT (by omega) (by omega)
          refine dOk_B (ok_lessThan q v_124 hT) (fun r_130 q_131 h_132 => ?_)
          replace h_132 : (q_131 = q) ∧ (0 ≤ Int32.toInt r_130 ∧ Int32.toInt r_130 ≤ 6) := h_132
          obtain ⟨i_133, i_134⟩ := h_132
          subst q_131
          try have t_135 : Int32.toInt (r_117 - r_130) = Int32.toInt r_117 - Int32.toInt r_130 := ti_sub rfl rfl (by omega) (by omega)
          refine dOk_eq (A := Int32.toInt (r_117 - r_130)) (B := 1) rfl (by decide) (fun c_136z c_136 => ?_) (fun c_137z c_137 => ?_)
          · unfold zX10_gaps_90
            unfold zX10_gaps_95
            try have t_139 : Int32.toInt (x1_95 + 0) = Int32.toInt x1_95 + 0 := ti_add rfl (by decide) (by omega) (by omega)
            exact hk_92 (q, (x1_95 + 0), (x2_96 + 1)) (show (q = q) ∧ (0 ≤ Int32.toInt (x2_96 + 1)) ∧ (Int32.toInt (x2_96 + 1) ≤ 6) from ⟨rfl, by omega, by omega⟩) (show (6 - Int32.toInt (x2_96 + 1)).toNat < (6 - Int32.toInt x2_96).toNat by omega)
          · refine dOk_eq (A := Int32.toInt (r_117 - r_130)) (B := (-1)) rfl (by decide) (fun c_140z c_140 => ?_) (fun c_141z c_141 => ?_)
            · unfold zX10_gaps_90
              unfold zX10_gaps_95
              try have t_143 : Int32.toInt (x1_95 + 0) = Int32.toInt x1_95 + 0 := ti_add rfl (by decide) (by omega) (by omega)
              exact hk_92 (q, (x1_95 + 0), (x2_96 + 1)) (show (q = q) ∧ (0 ≤ Int32.toInt (x2_96 + 1)) ∧ (Int32.toInt (x2_96 + 1) ≤ 6) from ⟨rfl, by omega, by omega⟩) (show (6 - Int32.toInt (x2_96 + 1)).toNat < (6 - Int32.toInt x2_96).toNat by omega)
            · unfold zX10_gaps_95
              try have t_144 : Int32.toInt (x1_95 + 1) = Int32.toInt x1_95 + 1 := ti_add rfl (by decide) (by omega) (by omega)
              exact hk_92 (q, (x1_95 + 1), (x2_96 + 1)) (show (q = q) ∧ (0 ≤ Int32.toInt (x2_96 + 1)) ∧ (Int32.toInt (x2_96 + 1) ≤ 6) from ⟨rfl, by omega, by omega⟩) (show (6 - Int32.toInt (x2_96 + 1)).toNat < (6 - Int32.toInt x2_96).toNat by omega)
      · exact (show (q = q) ∧ (0 ≤ (0 : Int)) ∧ ((0 : Int) ≤ 6) from ⟨rfl, by omega, by omega⟩)
      · show (6 - (0 : Int)).toNat < 1000000000000
        omega
    · unfold zX10_gaps_38
      unfold zX10_gaps_41
      refine dFix_ok (fun (a : dS × Int32 × Int32) => (a.1 = q) ∧ (0 ≤ Int32.toInt a.2.2) ∧ (Int32.toInt a.2.2 ≤ 6)) (fun (a : dS × Int32 × Int32) => (6 - Int32.toInt a.2.2).toNat) ?_ _ ?_ _ (dF_gt ?_)
      · intro a ha k_146 hk_145
        obtain ⟨q_147, x1_148, x2_149⟩ := a
        replace ha : (q_147 = q) ∧ (0 ≤ Int32.toInt x2_149) ∧ (Int32.toInt x2_149 ≤ 6) := ha
        obtain ⟨a_150, a_151, a_152⟩ := ha
        show dOk (zX10_gaps_41b  (fun q x1 x2 => k_146 (q, x1, x2)) q_147 x1_148 x2_149) _
        unfold zX10_gaps_41b
        subst q_147
        refine dOk_B (ok_size q hT) (fun r_153 q_154 h_155 => ?_)
        replace h_155 : (q_154 = q) ∧ (Int32.toInt r_153 = Int32.toInt (q.1 2 29)) ∧ (0 ≤ Int32.toInt r_153 ∧ Int32.toInt r_153 ≤ 6) := h_155
        obtain ⟨i_156, i_157, i_158⟩ := h_155
        subst q_154
        try have t_159 : Int32.toInt (x2_149 + 1) = Int32.toInt x2_149 + 1 := ti_add rfl (by decide) (by omega) (by omega)
        refine dOk_le (A := Int32.toInt r_153) (B := Int32.toInt (x2_149 + 1)) rfl rfl (fun c_160 => ?_) (fun c_161 => ?_)
        · exact dOk_some (show (q = q) from rfl)
        · try have t_162 : Int32.toInt (0 + x2_149) = 0 + Int32.toInt x2_149 := ti_add (by decide) rfl (by omega) (by omega)
          refine dOk_G (dg_ok (show 0 ≤ Int32.toInt (0 + x2_149) by omega) (show Int32.toInt (0 + x2_149) < ((5640 : Nat) : Int) by omega)) ?_
          have n_163 : ((Int32.toNatClampNeg (0 + x2_149) : Nat) : Int) = Int32.toInt (0 + x2_149) := cl_eq (by omega)
          refine dOk_L (fun v_164 ev_164 => ?_)
          try have g_165 : klo (Int32.toNatClampNeg (0 + x2_149)) ≤ Int32.toInt v_164 ∧ Int32.toInt v_164 ≤ khi (Int32.toNatClampNeg (0 + x2_149)) := by rw [ev_164]; exact te_k hT _
          try have f_166 : 0 ≤ Int32.toInt v_164 ∧ Int32.toInt v_164 ≤ 5 := by rw [ev_164]; exact te_2r hT (by omega) (by omega)
          try have f_167 : 0 ≤ Int32.toInt v_164 ∧ Int32.toInt v_164 ≤ 1 := by rw [ev_164]; exact te_2h hT (by omega) (by omega)
          try have f_168 : 0 ≤ Int32.toInt v_164 ∧ Int32.toInt v_164 ≤ 5 := by rw [ev_164]; exact te_2s hT (by omega) (by omega)
          try have f_169 : 0 ≤ Int32.toInt v_164 ∧ Int32.toInt v_164 ≤ 400 := by rw [ev_164]; exact te_2z hT (by omega) (by omega)
          refine dOk_B (ok_lessThan q v_164 hT) (fun r_170 q_171 h_172 => ?_)
          replace h_172 : (q_171 = q) ∧ (0 ≤ Int32.toInt r_170 ∧ Int32.toInt r_170 ≤ 6) := h_172
          obtain ⟨i_173, i_174⟩ := h_172
          subst q_171
          try have t_175 : Int32.toInt (0 + x2_149 + 1) = Int32.toInt (0 + x2_149) + 1 := ti_add rfl (by decide) (by omega) (by omega)
          refine dOk_G (dg_ok (show 0 ≤ Int32.toInt (0 + x2_149 + 1) by omega) (show Int32.toInt (0 + x2_149 + 1) < ((5640 : Nat) : Int) by omega)) ?_
          have n_176 : ((Int32.toNatClampNeg (0 + x2_149 + 1) : Nat) : Int) = Int32.toInt (0 + x2_149 + 1) := cl_eq (by omega)
          refine dOk_L (fun v_177 ev_177 => ?_)
          try have g_178 : klo (Int32.toNatClampNeg (0 + x2_149 + 1)) ≤ Int32.toInt v_177 ∧ Int32.toInt v_177 ≤ khi (Int32.toNatClampNeg (0 + x2_149 + 1)) := by rw [ev_177]; exact te_k hT _
          try have f_179 : 0 ≤ Int32.toInt v_177 ∧ Int32.toInt v_177 ≤ 5 := by rw [ev_177]; exact te_2r hT (by omega) (by omega)
          try have f_180 : 0 ≤ Int32.toInt v_177 ∧ Int32.toInt v_177 ≤ 1 := by rw [ev_177]; exact te_2h hT (by omega) (by omega)
          try have f_181 : 0 ≤ Int32.toInt v_177 ∧ Int32.toInt v_177 ≤ 5 := by rw [ev_177]; exact te_2s hT (by omega) (by omega)
          try have f_182 : 0 ≤ Int32.toInt v_177 ∧ Int32.toInt v_177 ≤ 400 := by rw [ev_177]; exact te_2z hT (by omega) (by omega)
          refine dOk_B (ok_lessThan q v_177 hT) (fun r_183 q_184 h_185 => ?_)
          replace h_185 : (q_184 = q) ∧ (0 ≤ Int32.toInt r_183 ∧ Int32.toInt r_183 ≤ 6) := h_185
          obtain ⟨i_186, i_187⟩ := h_185
          subst q_184
          try have t_188 : Int32.toInt (r_170 - r_183) = Int32.toInt r_170 - Int32.toInt r_183 := ti_sub rfl rfl (by omega) (by omega)
          refine dOk_eq (A := Int32.toInt (r_170 - r_183)) (B := 1) rfl (by decide) (fun c_189z c_189 => ?_) (fun c_190z c_190 => ?_)
          · unfold zX10_gaps_90
            unfold zX10_gaps_95
            try have t_192 : Int32.toInt (x1_148 + 0) = Int32.toInt x1_148 + 0 := ti_add rfl (by decide) (by omega) (by omega)
            exact hk_145 (q, (x1_148 + 0), (x2_149 + 1)) (show (q = q) ∧ (0 ≤ Int32.toInt (x2_149 + 1)) ∧ (Int32.toInt (x2_149 + 1) ≤ 6) from ⟨rfl, by omega, by omega⟩) (show (6 - Int32.toInt (x2_149 + 1)).toNat < (6 - Int32.toInt x2_149).toNat by omega)
          · refine dOk_eq (A := Int32.toInt (r_170 - r_183)) (B := (-1)) rfl (by decide) (fun c_193z c_193 => ?_) (fun c_194z c_194 => ?_)
            · unfold zX10_gaps_90
              unfold zX10_gaps_95
              try have t_196 : Int32.toInt (x1_148 + 0) = Int32.toInt x1_148 + 0 := ti_add rfl (by decide) (by omega) (by omega)
              exact hk_145 (q, (x1_148 + 0), (x2_149 + 1)) (show (q = q) ∧ (0 ≤ Int32.toInt (x2_149 + 1)) ∧ (Int32.toInt (x2_149 + 1) ≤ 6) from ⟨rfl, by omega, by omega⟩) (show (6 - Int32.toInt (x2_149 + 1)).toNat < (6 - Int32.toInt x2_149).toNat by omega)
            · unfold zX10_gaps_95
              try have t_197 : Int32.toInt (x1_148 + 1) = Int32.toInt x1_148 + 1 := ti_add rfl (by decide) (by omega) (by omega)
              exact hk_145 (q, (x1_148 + 1), (x2_149 + 1)) (show (q = q) ∧ (0 ≤ Int32.toInt (x2_149 + 1)) ∧ (Int32.toInt (x2_149 + 1) ≤ 6) from ⟨rfl, by omega, by omega⟩) (show (6 - Int32.toInt (x2_149 + 1)).toNat < (6 - Int32.toInt x2_149).toNat by omega)
      · exact (show (q = q) ∧ (0 ≤ (0 : Int)) ∧ ((0 : Int) ≤ 6) from ⟨rfl, by omega, by omega⟩)
      · show (6 - (0 : Int)).toNat < 1000000000000
        omega
