set_option maxHeartbeats 4000000 in
set_option maxRecDepth 100000 in
theorem ok_floor (q : dS) (p1 : Int32) (p2 : Int32) (hT : TS q) : dOk (zX10_floor q p1 p2) (fun (o : Int32 × dS) => (TS o.2) ∧ (dFr [1, 2] [0, 32] q o.2)) := by
  unfold zX10_floor
  refine dOk_V (ok_isRank p1) (fun r_1 h_2 => ?_)
  have h_2 : ((Int32.toInt r_1 = 1 ∧ 0 ≤ Int32.toInt p1 ∧ Int32.toInt p1 ≤ 5) ∨ (Int32.toInt r_1 = 0 ∧ (Int32.toInt p1 < 0 ∨ 5 < Int32.toInt p1))) := h_2
  have i_3 := h_2
  refine dOk_eq (A := Int32.toInt r_1) (B := 0) rfl (by decide) (fun c_4z c_4 => ?_) (fun c_5z c_5 => ?_)
  · unfold zX10_floor_14
    have l_7 : Int32.toInt (-1) = (-1) := by decide
    refine dOk_B (ok_refuses q (-1) hT (show (-6) ≤ Int32.toInt (-1) by omega) (show Int32.toInt (-1) ≤ 0 by omega)) (fun r_8 q_9 h_10 => ?_)
    have h_10 : (TS q_9) ∧ (dFr [1] [0] q q_9) ∧ (Int32.toInt r_8 = Int32.toInt (-1)) := h_10
    obtain ⟨i_11, i_12, i_13⟩ := h_10
    have hFq_9 : dFr [1, 2] [0, 32] q q_9 := (dFr.rf (q := q)).t i_12 (by decide) (by decide)
    exact dOk_some (show (TS q_9) ∧ (dFr [1, 2] [0, 32] q q_9) from ⟨i_11, hFq_9⟩)
  · refine dOk_V (ok_isBit p2) (fun r_14 h_15 => ?_)
    have h_15 : ((Int32.toInt r_14 = 1 ∧ 0 ≤ Int32.toInt p2 ∧ Int32.toInt p2 ≤ 1) ∨ (Int32.toInt r_14 = 0 ∧ (Int32.toInt p2 < 0 ∨ 1 < Int32.toInt p2))) := h_15
    have i_16 := h_15
    refine dOk_eq (A := Int32.toInt r_14) (B := 0) rfl (by decide) (fun c_17z c_17 => ?_) (fun c_18z c_18 => ?_)
    · unfold zX10_floor_14
      have l_20 : Int32.toInt (-1) = (-1) := by decide
      refine dOk_B (ok_refuses q (-1) hT (show (-6) ≤ Int32.toInt (-1) by omega) (show Int32.toInt (-1) ≤ 0 by omega)) (fun r_21 q_22 h_23 => ?_)
      have h_23 : (TS q_22) ∧ (dFr [1] [0] q q_22) ∧ (Int32.toInt r_21 = Int32.toInt (-1)) := h_23
      obtain ⟨i_24, i_25, i_26⟩ := h_23
      have hFq_22 : dFr [1, 2] [0, 32] q q_22 := (dFr.rf (q := q)).t i_25 (by decide) (by decide)
      exact dOk_some (show (TS q_22) ∧ (dFr [1, 2] [0, 32] q q_22) from ⟨i_24, hFq_22⟩)
    · refine dOk_B (ok_placeOf q p1 hT) (fun r_27 q_28 h_29 => ?_)
      have h_29 : (q_28 = q) ∧ (-1 ≤ Int32.toInt r_27 ∧ Int32.toInt r_27 ≤ 5) := h_29
      obtain ⟨i_30, i_31⟩ := h_29
      subst q_28
      refine dOk_eq (A := Int32.toInt r_27) (B := (-1)) rfl (by decide) (fun c_32z c_32 => ?_) (fun c_33z c_33 => ?_)
      · refine dOk_B (ok_size q hT) (fun r_35 q_36 h_37 => ?_)
        have h_37 : (q_36 = q) ∧ (Int32.toInt r_35 = Int32.toInt (q.1 2 29)) ∧ (0 ≤ Int32.toInt r_35 ∧ Int32.toInt r_35 ≤ 6) := h_37
        obtain ⟨i_38, i_39, i_40⟩ := h_37
        subst q_36
        have f_41 : 0 ≤ Int32.toInt (q.1 2 29) ∧ Int32.toInt (q.1 2 29) ≤ 6 := hT.1 2 29
        refine dOk_eq (A := Int32.toInt r_35) (B := 6) rfl (by decide) (fun c_42z c_42 => ?_) (fun c_43z c_43 => ?_)
        · have l_45 : Int32.toInt (-5) = (-5) := by decide
          refine dOk_B (ok_refuses q (-5) hT (show (-6) ≤ Int32.toInt (-5) by omega) (show Int32.toInt (-5) ≤ 0 by omega)) (fun r_46 q_47 h_48 => ?_)
          have h_48 : (TS q_47) ∧ (dFr [1] [0] q q_47) ∧ (Int32.toInt r_46 = Int32.toInt (-5)) := h_48
          obtain ⟨i_49, i_50, i_51⟩ := h_48
          have hFq_47 : dFr [1, 2] [0, 32] q q_47 := (dFr.rf (q := q)).t i_50 (by decide) (by decide)
          exact dOk_some (show (TS q_47) ∧ (dFr [1, 2] [0, 32] q q_47) from ⟨i_49, hFq_47⟩)
        · refine dOk_V (ok_adds q p1 p2 hT (show Int32.toInt (q.1 2 29) < 6 by omega) (show 0 ≤ Int32.toInt p1 ∧ Int32.toInt p1 ≤ 5 by omega) (show 0 ≤ Int32.toInt p2 ∧ Int32.toInt p2 ≤ 1 by omega)) (fun q_52 h_53 => ?_)
          have h_53 : (TS q_52) ∧ (dFr [2] [] q q_52) ∧ (Int32.toInt (q_52.1 2 29) = Int32.toInt (q.1 2 29) + 1) := h_53
          obtain ⟨i_54, i_55, i_56⟩ := h_53
          have hFq_52 : dFr [1, 2] [0, 32] q q_52 := (dFr.rf (q := q)).t i_55 (by decide) (by decide)
          have f_57 : 0 ≤ Int32.toInt (q_52.1 2 29) ∧ Int32.toInt (q_52.1 2 29) ≤ 6 := i_54.1 2 29
          refine dOk_B (ok_size q_52 i_54) (fun r_58 q_59 h_60 => ?_)
          have h_60 : (q_59 = q_52) ∧ (Int32.toInt r_58 = Int32.toInt (q_52.1 2 29)) ∧ (0 ≤ Int32.toInt r_58 ∧ Int32.toInt r_58 ≤ 6) := h_60
          obtain ⟨i_61, i_62, i_63⟩ := h_60
          subst q_59
          try have t_64 : Int32.toInt (r_58 - 1) = Int32.toInt r_58 - 1 := ti_sub rfl (by decide) (by omega) (by omega)
          refine dOk_B (ok_settled q_52 (r_58 - 1) i_54) (fun r_65 q_66 h_67 => ?_)
          have h_67 : (TS q_66) ∧ (dFr [] [0, 32] q_52 q_66) ∧ (Int32.toInt r_65 = Int32.toInt (r_58 - 1)) := h_67
          obtain ⟨i_68, i_69, i_70⟩ := h_67
          have hFq_66 : dFr [1, 2] [0, 32] q q_66 := hFq_52.t i_69 (by decide) (by decide)
          exact dOk_some (show (TS q_66) ∧ (dFr [1, 2] [0, 32] q q_66) from ⟨i_68, hFq_66⟩)
      · have l_71 : Int32.toInt (-3) = (-3) := by decide
        refine dOk_B (ok_refuses q (-3) hT (show (-6) ≤ Int32.toInt (-3) by omega) (show Int32.toInt (-3) ≤ 0 by omega)) (fun r_72 q_73 h_74 => ?_)
        have h_74 : (TS q_73) ∧ (dFr [1] [0] q q_73) ∧ (Int32.toInt r_72 = Int32.toInt (-3)) := h_74
        obtain ⟨i_75, i_76, i_77⟩ := h_74
        have hFq_73 : dFr [1, 2] [0, 32] q q_73 := (dFr.rf (q := q)).t i_76 (by decide) (by decide)
        exact dOk_some (show (TS q_73) ∧ (dFr [1, 2] [0, 32] q q_73) from ⟨i_75, hFq_73⟩)

set_option maxHeartbeats 4000000 in
set_option maxRecDepth 100000 in
theorem ok_setsAsked (q : dS) (p1 : Int32) (p2 : Int32) (p3 : Int32) (hT : TS q) : dOk (zX10_setsAsked q p1 p2 p3) (fun (o : dS) => (TS o) ∧ (dFr [12] [] q o) ∧ (Int32.toInt (o.1 12 0) = Int32.toInt (q.1 12 0)) ∧ (Int32.toInt (o.1 12 1) = Int32.toInt (q.1 12 1)) ∧ (Int32.toInt (o.1 12 2) = Int32.toInt (q.1 12 2))) := by
  unfold zX10_setsAsked
  refine dOk_B (ok_size q hT) (fun r_1 q_2 h_3 => ?_)
  have h_3 : (q_2 = q) ∧ (Int32.toInt r_1 = Int32.toInt (q.1 2 29)) ∧ (0 ≤ Int32.toInt r_1 ∧ Int32.toInt r_1 ≤ 6) := h_3
  obtain ⟨i_4, i_5, i_6⟩ := h_3
  subst q_2
  have f_7 : 0 ≤ Int32.toInt (q.1 2 29) ∧ Int32.toInt (q.1 2 29) ≤ 6 := hT.1 2 29
  refine dOk_L (fun q_8 eq_8 => ?_)
  have hTq_8 : TS q_8 := by rw [eq_8]; exact ts_any hT rfl
  have hFq_8 : dFr [12] [] q q_8 := by rw [eq_8]; exact (dFr.rf (q := q)).i (by decide) (by decide)
  refine dOk_L (fun q_9 eq_9 => ?_)
  have hTq_9 : TS q_9 := by rw [eq_9]; exact ts_any hTq_8 rfl
  have hFq_9 : dFr [12] [] q q_9 := by rw [eq_9]; exact hFq_8.i (by decide) (by decide)
  refine dOk_L (fun q_10 eq_10 => ?_)
  have hTq_10 : TS q_10 := by rw [eq_10]; exact ts_any hTq_9 rfl
  have hFq_10 : dFr [12] [] q q_10 := by rw [eq_10]; exact hFq_9.i (by decide) (by decide)
  refine dOk_L (fun q_11 eq_11 => ?_)
  have f_12 : 0 ≤ Int32.toInt (q_10.1 2 27) ∧ Int32.toInt (q_10.1 2 27) ≤ 9 := hTq_10.1 2 27
  have f_13 : 0 ≤ Int32.toInt (q_9.1 2 27) ∧ Int32.toInt (q_9.1 2 27) ≤ 9 := hTq_9.1 2 27
  have f_14 : 0 ≤ Int32.toInt (q_8.1 2 27) ∧ Int32.toInt (q_8.1 2 27) ≤ 9 := hTq_8.1 2 27
  have f_15 : 0 ≤ Int32.toInt (q.1 2 27) ∧ Int32.toInt (q.1 2 27) ≤ 9 := hT.1 2 27
  have w_16 : Int32.toInt (q_8.1 2 27) = Int32.toInt (q.1 2 27) := by rw [eq_8, dui_o (by decide)]
  have w_17 : Int32.toInt (q_9.1 2 27) = Int32.toInt (q_8.1 2 27) := by rw [eq_9, dui_o (by decide)]
  have w_18 : Int32.toInt (q_10.1 2 27) = Int32.toInt (q_9.1 2 27) := by rw [eq_10, dui_o (by decide)]
  have hTq_11 : TS q_11 := by rw [eq_11]; exact ts_any hTq_10 rfl
  have hFq_11 : dFr [12] [] q q_11 := by rw [eq_11]; exact hFq_10.i (by decide) (by decide)
  refine dOk_L (fun q_19 eq_19 => ?_)
  have hTq_19 : TS q_19 := by rw [eq_19]; exact ts_any hTq_11 rfl
  have hFq_19 : dFr [12] [] q q_19 := by rw [eq_19]; exact hFq_11.i (by decide) (by decide)
  refine dOk_L (fun q_20 eq_20 => ?_)
  have f_21 : 0 ≤ Int32.toInt (q_19.1 2 13) ∧ Int32.toInt (q_19.1 2 13) ≤ 999 := hTq_19.1 2 13
  have f_22 : 0 ≤ Int32.toInt (q_11.1 2 13) ∧ Int32.toInt (q_11.1 2 13) ≤ 999 := hTq_11.1 2 13
  have f_23 : 0 ≤ Int32.toInt (q_10.1 2 13) ∧ Int32.toInt (q_10.1 2 13) ≤ 999 := hTq_10.1 2 13
  have f_24 : 0 ≤ Int32.toInt (q_9.1 2 13) ∧ Int32.toInt (q_9.1 2 13) ≤ 999 := hTq_9.1 2 13
  have f_25 : 0 ≤ Int32.toInt (q_8.1 2 13) ∧ Int32.toInt (q_8.1 2 13) ≤ 999 := hTq_8.1 2 13
  have f_26 : 0 ≤ Int32.toInt (q.1 2 13) ∧ Int32.toInt (q.1 2 13) ≤ 999 := hT.1 2 13
  have w_27 : Int32.toInt (q_8.1 2 13) = Int32.toInt (q.1 2 13) := by rw [eq_8, dui_o (by decide)]
  have w_28 : Int32.toInt (q_9.1 2 13) = Int32.toInt (q_8.1 2 13) := by rw [eq_9, dui_o (by decide)]
  have w_29 : Int32.toInt (q_10.1 2 13) = Int32.toInt (q_9.1 2 13) := by rw [eq_10, dui_o (by decide)]
  have w_30 : Int32.toInt (q_11.1 2 13) = Int32.toInt (q_10.1 2 13) := by rw [eq_11, dui_o (by decide)]
  have w_31 : Int32.toInt (q_19.1 2 13) = Int32.toInt (q_11.1 2 13) := by rw [eq_19, dui_o (by decide)]
  have hTq_20 : TS q_20 := by rw [eq_20]; exact ts_any hTq_19 rfl
  have hFq_20 : dFr [12] [] q q_20 := by rw [eq_20]; exact hFq_19.i (by decide) (by decide)
  have w_32 : Int32.toInt (q_8.1 12 0) = Int32.toInt (q.1 12 0) := by rw [eq_8, dui_n (by decide)]
  have w_33 : Int32.toInt (q_9.1 12 0) = Int32.toInt (q_8.1 12 0) := by rw [eq_9, dui_n (by decide)]
  have w_34 : Int32.toInt (q_10.1 12 0) = Int32.toInt (q_9.1 12 0) := by rw [eq_10, dui_n (by decide)]
  have w_35 : Int32.toInt (q_11.1 12 0) = Int32.toInt (q_10.1 12 0) := by rw [eq_11, dui_n (by decide)]
  have w_36 : Int32.toInt (q_19.1 12 0) = Int32.toInt (q_11.1 12 0) := by rw [eq_19, dui_n (by decide)]
  have w_37 : Int32.toInt (q_20.1 12 0) = Int32.toInt (q_19.1 12 0) := by rw [eq_20, dui_n (by decide)]
  have w_38 : Int32.toInt (q_8.1 12 1) = Int32.toInt (q.1 12 1) := by rw [eq_8, dui_n (by decide)]
  have w_39 : Int32.toInt (q_9.1 12 1) = Int32.toInt (q_8.1 12 1) := by rw [eq_9, dui_n (by decide)]
  have w_40 : Int32.toInt (q_10.1 12 1) = Int32.toInt (q_9.1 12 1) := by rw [eq_10, dui_n (by decide)]
  have w_41 : Int32.toInt (q_11.1 12 1) = Int32.toInt (q_10.1 12 1) := by rw [eq_11, dui_n (by decide)]
  have w_42 : Int32.toInt (q_19.1 12 1) = Int32.toInt (q_11.1 12 1) := by rw [eq_19, dui_n (by decide)]
  have w_43 : Int32.toInt (q_20.1 12 1) = Int32.toInt (q_19.1 12 1) := by rw [eq_20, dui_n (by decide)]
  have w_44 : Int32.toInt (q_8.1 12 2) = Int32.toInt (q.1 12 2) := by rw [eq_8, dui_n (by decide)]
  have w_45 : Int32.toInt (q_9.1 12 2) = Int32.toInt (q_8.1 12 2) := by rw [eq_9, dui_n (by decide)]
  have w_46 : Int32.toInt (q_10.1 12 2) = Int32.toInt (q_9.1 12 2) := by rw [eq_10, dui_n (by decide)]
  have w_47 : Int32.toInt (q_11.1 12 2) = Int32.toInt (q_10.1 12 2) := by rw [eq_11, dui_n (by decide)]
  have w_48 : Int32.toInt (q_19.1 12 2) = Int32.toInt (q_11.1 12 2) := by rw [eq_19, dui_n (by decide)]
  have w_49 : Int32.toInt (q_20.1 12 2) = Int32.toInt (q_19.1 12 2) := by rw [eq_20, dui_n (by decide)]
  exact dOk_some (show (TS q_20) ∧ (dFr [12] [] q q_20) ∧ (Int32.toInt (q_20.1 12 0) = Int32.toInt (q.1 12 0)) ∧ (Int32.toInt (q_20.1 12 1) = Int32.toInt (q.1 12 1)) ∧ (Int32.toInt (q_20.1 12 2) = Int32.toInt (q.1 12 2)) from ⟨hTq_20, hFq_20, by omega, by omega, by omega⟩)

set_option maxHeartbeats 4000000 in
set_option maxRecDepth 100000 in
theorem ok_setsFloor (q : dS) (p1 : Int32) (hT : TS q) (hp0 : 0 ≤ Int32.toInt p1) (hp1 : Int32.toInt p1 < 6) : dOk (zX10_setsFloor q p1) (fun (o : dS) => (TS o) ∧ (dFr [12] [] q o)) := by
  unfold zX10_setsFloor
  refine dOk_L (fun q_1 eq_1 => ?_)
  have l_2 : Int32.toInt (-1) = (-1) := by decide
  have hTq_1 : TS q_1 := by rw [eq_1]; exact ts_any hT rfl
  have hFq_1 : dFr [12] [] q q_1 := by rw [eq_1]; exact (dFr.rf (q := q)).i (by decide) (by decide)
  refine dOk_L (fun q_3 eq_3 => ?_)
  have hTq_3 : TS q_3 := by rw [eq_3]; exact ts_any hTq_1 rfl
  have hFq_3 : dFr [12] [] q q_3 := by rw [eq_3]; exact hFq_1.i (by decide) (by decide)
  refine dOk_L (fun q_4 eq_4 => ?_)
  have hTq_4 : TS q_4 := by rw [eq_4]; exact ts_any hTq_3 rfl
  have hFq_4 : dFr [12] [] q q_4 := by rw [eq_4]; exact hFq_3.i (by decide) (by decide)
  try have t_5 : Int32.toInt (0 + p1) = 0 + Int32.toInt p1 := ti_add (by decide) rfl (by omega) (by omega)
  refine dOk_G (dg_ok (show 0 ≤ Int32.toInt (0 + p1) by omega) (show Int32.toInt (0 + p1) < ((5640 : Nat) : Int) by omega)) ?_
  have n_6 : ((Int32.toNatClampNeg (0 + p1) : Nat) : Int) = Int32.toInt (0 + p1) := cl_eq (by omega)
  refine dOk_L (fun v_7 ev_7 => ?_)
  try have g_8 : klo (Int32.toNatClampNeg (0 + p1)) ≤ Int32.toInt v_7 ∧ Int32.toInt v_7 ≤ khi (Int32.toNatClampNeg (0 + p1)) := by rw [ev_7]; exact te_k hTq_4 _
  try have f_9 : 0 ≤ Int32.toInt v_7 ∧ Int32.toInt v_7 ≤ 5 := by rw [ev_7]; exact te_2r hTq_4 (by omega) (by omega)
  try have f_10 : 0 ≤ Int32.toInt v_7 ∧ Int32.toInt v_7 ≤ 1 := by rw [ev_7]; exact te_2h hTq_4 (by omega) (by omega)
  try have f_11 : 0 ≤ Int32.toInt v_7 ∧ Int32.toInt v_7 ≤ 5 := by rw [ev_7]; exact te_2s hTq_4 (by omega) (by omega)
  try have f_12 : 0 ≤ Int32.toInt v_7 ∧ Int32.toInt v_7 ≤ 400 := by rw [ev_7]; exact te_2z hTq_4 (by omega) (by omega)
  try have t_13 : Int32.toInt (6 + p1) = 6 + Int32.toInt p1 := ti_add (by decide) rfl (by omega) (by omega)
  refine dOk_G (dg_ok (show 0 ≤ Int32.toInt (6 + p1) by omega) (show Int32.toInt (6 + p1) < ((5640 : Nat) : Int) by omega)) ?_
  have n_14 : ((Int32.toNatClampNeg (6 + p1) : Nat) : Int) = Int32.toInt (6 + p1) := cl_eq (by omega)
  refine dOk_L (fun v_15 ev_15 => ?_)
  try have g_16 : klo (Int32.toNatClampNeg (6 + p1)) ≤ Int32.toInt v_15 ∧ Int32.toInt v_15 ≤ khi (Int32.toNatClampNeg (6 + p1)) := by rw [ev_15]; exact te_k hTq_4 _
  try have f_17 : 0 ≤ Int32.toInt v_15 ∧ Int32.toInt v_15 ≤ 5 := by rw [ev_15]; exact te_2r hTq_4 (by omega) (by omega)
  try have f_18 : 0 ≤ Int32.toInt v_15 ∧ Int32.toInt v_15 ≤ 1 := by rw [ev_15]; exact te_2h hTq_4 (by omega) (by omega)
  try have f_19 : 0 ≤ Int32.toInt v_15 ∧ Int32.toInt v_15 ≤ 5 := by rw [ev_15]; exact te_2s hTq_4 (by omega) (by omega)
  try have f_20 : 0 ≤ Int32.toInt v_15 ∧ Int32.toInt v_15 ≤ 400 := by rw [ev_15]; exact te_2z hTq_4 (by omega) (by omega)
  refine dOk_V (ok_setsAsked q_4 v_7 p1 v_15 hTq_4) (fun q_21 h_22 => ?_)
  have h_22 : (TS q_21) ∧ (dFr [12] [] q_4 q_21) ∧ (Int32.toInt (q_21.1 12 0) = Int32.toInt (q_4.1 12 0)) ∧ (Int32.toInt (q_21.1 12 1) = Int32.toInt (q_4.1 12 1)) ∧ (Int32.toInt (q_21.1 12 2) = Int32.toInt (q_4.1 12 2)) := h_22
  obtain ⟨i_23, i_24, i_25, i_26, i_27⟩ := h_22
  have hFq_21 : dFr [12] [] q q_21 := hFq_4.t i_24 (by decide) (by decide)
  have w_28 : Int32.toInt (q_1.1 12 0) = Int32.toInt (-1) := by rw [eq_1, dui_e]
  have w_29 : Int32.toInt (-1) = (-1) := by decide
  have w_30 : Int32.toInt (q_3.1 12 0) = Int32.toInt (q_1.1 12 0) := by rw [eq_3, dui_n (by decide)]
  have w_31 : Int32.toInt (q_4.1 12 0) = Int32.toInt (q_3.1 12 0) := by rw [eq_4, dui_n (by decide)]
  have w_32 : Int32.toInt (q_3.1 12 1) = Int32.toInt (-1) := by rw [eq_3, dui_e]
  have w_33 : Int32.toInt (-1) = (-1) := by decide
  have w_34 : Int32.toInt (q_4.1 12 1) = Int32.toInt (q_3.1 12 1) := by rw [eq_4, dui_n (by decide)]
  have w_35 : Int32.toInt (q_4.1 12 2) = Int32.toInt (-1) := by rw [eq_4, dui_e]
  have w_36 : Int32.toInt (-1) = (-1) := by decide
  exact dOk_some (show (TS q_21) ∧ (dFr [12] [] q q_21) from ⟨i_23, hFq_21⟩)

set_option maxHeartbeats 4000000 in
set_option maxRecDepth 100000 in
theorem ok_sign (p1 : Int32) (hp0 : 0 ≤ Int32.toInt p1 ∧ Int32.toInt p1 ≤ 255) : dOk (zX10_sign p1) (fun (o : Int32) => (Int32.toInt o = Int32.toInt p1 + 100)) := by
  unfold zX10_sign
  try have t_1 : Int32.toInt (100 + p1) = 100 + Int32.toInt p1 := ti_add (by decide) rfl (by omega) (by omega)
  exact dOk_some (show (Int32.toInt (100 + p1) = Int32.toInt p1 + 100) from (by omega))

set_option maxHeartbeats 4000000 in
set_option maxRecDepth 100000 in
theorem ok_lessThan (q : dS) (p1 : Int32) (hT : TS q) : dOk (zX10_lessThan q p1) (fun (o : Int32 × dS) => (o.2 = q) ∧ (0 ≤ Int32.toInt o.1 ∧ Int32.toInt o.1 ≤ 6)) := by
  unfold zX10_lessThan
  unfold zX10_lessThan_4
  refine dFix_ok (fun (a : dS × Int32 × Int32 × Int32) => (a.1 = q) ∧ (a.2.1 = p1) ∧ (0 ≤ Int32.toInt a.2.2.2) ∧ (Int32.toInt a.2.2.2 ≤ 6) ∧ (0 ≤ Int32.toInt a.2.2.1) ∧ (Int32.toInt a.2.2.1 ≤ Int32.toInt a.2.2.2)) (fun (a : dS × Int32 × Int32 × Int32) => (6 - Int32.toInt a.2.2.2).toNat) ?_ _ ?_ _ (dF_gt ?_)
  · intro a ha k_2 hk_1
    obtain ⟨q_3, x1_4, x2_5, x3_6⟩ := a
    have ha : (q_3 = q) ∧ (x1_4 = p1) ∧ (0 ≤ Int32.toInt x3_6) ∧ (Int32.toInt x3_6 ≤ 6) ∧ (0 ≤ Int32.toInt x2_5) ∧ (Int32.toInt x2_5 ≤ Int32.toInt x3_6) := ha
    obtain ⟨a_7, a_8, a_9, a_10, a_11, a_12⟩ := ha
    show dOk (zX10_lessThan_4b  (fun q x1 x2 x3 => k_2 (q, x1, x2, x3)) q_3 x1_4 x2_5 x3_6) _
    unfold zX10_lessThan_4b
    subst q_3
    subst x1_4
    refine dOk_B (ok_size q hT) (fun r_13 q_14 h_15 => ?_)
    have h_15 : (q_14 = q) ∧ (Int32.toInt r_13 = Int32.toInt (q.1 2 29)) ∧ (0 ≤ Int32.toInt r_13 ∧ Int32.toInt r_13 ≤ 6) := h_15
    obtain ⟨i_16, i_17, i_18⟩ := h_15
    subst q_14
    have f_19 : 0 ≤ Int32.toInt (q.1 2 29) ∧ Int32.toInt (q.1 2 29) ≤ 6 := hT.1 2 29
    refine dOk_le (A := Int32.toInt r_13) (B := Int32.toInt x3_6) rfl rfl (fun c_20 => ?_) (fun c_21 => ?_)
    · exact dOk_some (show (q = q) ∧ (0 ≤ Int32.toInt x2_5 ∧ Int32.toInt x2_5 ≤ 6) from ⟨rfl, by omega⟩)
    · try have t_22 : Int32.toInt (0 + x3_6) = 0 + Int32.toInt x3_6 := ti_add (by decide) rfl (by omega) (by omega)
      refine dOk_G (dg_ok (show 0 ≤ Int32.toInt (0 + x3_6) by omega) (show Int32.toInt (0 + x3_6) < ((5640 : Nat) : Int) by omega)) ?_
      have n_23 : ((Int32.toNatClampNeg (0 + x3_6) : Nat) : Int) = Int32.toInt (0 + x3_6) := cl_eq (by omega)
      refine dOk_L (fun v_24 ev_24 => ?_)
      try have g_25 : klo (Int32.toNatClampNeg (0 + x3_6)) ≤ Int32.toInt v_24 ∧ Int32.toInt v_24 ≤ khi (Int32.toNatClampNeg (0 + x3_6)) := by rw [ev_24]; exact te_k hT _
      try have f_26 : 0 ≤ Int32.toInt v_24 ∧ Int32.toInt v_24 ≤ 5 := by rw [ev_24]; exact te_2r hT (by omega) (by omega)
      try have f_27 : 0 ≤ Int32.toInt v_24 ∧ Int32.toInt v_24 ≤ 1 := by rw [ev_24]; exact te_2h hT (by omega) (by omega)
      try have f_28 : 0 ≤ Int32.toInt v_24 ∧ Int32.toInt v_24 ≤ 5 := by rw [ev_24]; exact te_2s hT (by omega) (by omega)
      try have f_29 : 0 ≤ Int32.toInt v_24 ∧ Int32.toInt v_24 ≤ 400 := by rw [ev_24]; exact te_2z hT (by omega) (by omega)
      refine dOk_le (A := Int32.toInt p1) (B := Int32.toInt v_24) rfl rfl (fun c_30 => ?_) (fun c_31 => ?_)
      · unfold zX10_lessThan_30
        try have t_32 : Int32.toInt (x2_5 + 0) = Int32.toInt x2_5 + 0 := ti_add rfl (by decide) (by omega) (by omega)
        try have t_33 : Int32.toInt (x3_6 + 1) = Int32.toInt x3_6 + 1 := ti_add rfl (by decide) (by omega) (by omega)
        exact hk_1 (q, p1, (x2_5 + 0), (x3_6 + 1)) (show (q = q) ∧ (p1 = p1) ∧ (0 ≤ Int32.toInt (x3_6 + 1)) ∧ (Int32.toInt (x3_6 + 1) ≤ 6) ∧ (0 ≤ Int32.toInt (x2_5 + 0)) ∧ (Int32.toInt (x2_5 + 0) ≤ Int32.toInt (x3_6 + 1)) from ⟨rfl, rfl, by omega, by omega, by omega, by omega⟩) (show (6 - Int32.toInt (x3_6 + 1)).toNat < (6 - Int32.toInt x3_6).toNat by omega)
      · unfold zX10_lessThan_30
        try have t_34 : Int32.toInt (x2_5 + 1) = Int32.toInt x2_5 + 1 := ti_add rfl (by decide) (by omega) (by omega)
        try have t_35 : Int32.toInt (x3_6 + 1) = Int32.toInt x3_6 + 1 := ti_add rfl (by decide) (by omega) (by omega)
        exact hk_1 (q, p1, (x2_5 + 1), (x3_6 + 1)) (show (q = q) ∧ (p1 = p1) ∧ (0 ≤ Int32.toInt (x3_6 + 1)) ∧ (Int32.toInt (x3_6 + 1) ≤ 6) ∧ (0 ≤ Int32.toInt (x2_5 + 1)) ∧ (Int32.toInt (x2_5 + 1) ≤ Int32.toInt (x3_6 + 1)) from ⟨rfl, rfl, by omega, by omega, by omega, by omega⟩) (show (6 - Int32.toInt (x3_6 + 1)).toNat < (6 - Int32.toInt x3_6).toNat by omega)
  · have l_36 : Int32.toInt 0 = 0 := by decide
    exact (show (q = q) ∧ (p1 = p1) ∧ (0 ≤ Int32.toInt 0) ∧ (Int32.toInt 0 ≤ 6) ∧ (0 ≤ Int32.toInt 0) ∧ (Int32.toInt 0 ≤ Int32.toInt 0) from ⟨rfl, rfl, by omega, by omega, by omega, by omega⟩)
  · have l_37 : Int32.toInt 0 = 0 := by decide
    show (6 - Int32.toInt 0).toNat < 1000000000000
    omega
