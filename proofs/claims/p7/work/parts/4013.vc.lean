set_option maxHeartbeats 4000000 in
set_option maxRecDepth 100000 in
theorem ok_orderValue (q : dS) (p1 : Int32) (p2 : Int32) (hT : TS q) : dOk (zX10_orderValue q p1 p2) (fun (o : Int32 × dS) => (o.2 = q)) := by
  unfold zX10_orderValue
  refine dOk_eq (A := Int32.toInt p1) (B := 15) rfl (by decide) (fun c_1z c_1 => ?_) (fun c_2z c_2 => ?_)
  · refine dOk_B (ok_isPlace q p2 hT) (fun r_4 q_5 h_6 => ?_)
    replace h_6 : (q_5 = q) ∧ ((Int32.toInt r_4 = 1 ∧ 0 ≤ Int32.toInt p2 ∧ Int32.toInt p2 < Int32.toInt (q.1 2 29)) ∨ (Int32.toInt r_4 = 0 ∧ (Int32.toInt p2 < 0 ∨ Int32.toInt (q.1 2 29) ≤ Int32.toInt p2))) := h_6
    obtain ⟨i_7, i_8⟩ := h_6
    subst q_5
    have f_9 : 0 ≤ Int32.toInt (q.1 2 29) ∧ Int32.toInt (q.1 2 29) ≤ 6 := hT.1 2 29
    refine dOk_eq (A := Int32.toInt r_4) (B := 0) rfl (by decide) (fun c_10z c_10 => ?_) (fun c_11z c_11 => ?_)
    · unfold zX10_orderValue_65
      exact dOk_some (show (q = q) from rfl)
    · try have t_13 : Int32.toInt (6 + p2) = 6 + Int32.toInt p2 := ti_add (by decide) rfl (by omega) (by omega)
      refine dOk_G (dg_ok (show 0 ≤ Int32.toInt (6 + p2) by omega) (show Int32.toInt (6 + p2) < ((5640 : Nat) : Int) by omega)) ?_
      have n_14 : ((Int32.toNatClampNeg (6 + p2) : Nat) : Int) = Int32.toInt (6 + p2) := cl_eq (by omega)
      refine dOk_L (fun v_15 ev_15 => ?_)
      try have g_16 : klo (Int32.toNatClampNeg (6 + p2)) ≤ Int32.toInt v_15 ∧ Int32.toInt v_15 ≤ khi (Int32.toNatClampNeg (6 + p2)) := by rw [ev_15]; exact te_k hT _
      try have f_17 : 0 ≤ Int32.toInt v_15 ∧ Int32.toInt v_15 ≤ 5 := by rw [ev_15]; exact te_2r hT (by omega) (by omega)
      try have f_18 : 0 ≤ Int32.toInt v_15 ∧ Int32.toInt v_15 ≤ 1 := by rw [ev_15]; exact te_2h hT (by omega) (by omega)
      try have f_19 : 0 ≤ Int32.toInt v_15 ∧ Int32.toInt v_15 ≤ 5 := by rw [ev_15]; exact te_2s hT (by omega) (by omega)
      try have f_20 : 0 ≤ Int32.toInt v_15 ∧ Int32.toInt v_15 ≤ 400 := by rw [ev_15]; exact te_2z hT (by omega) (by omega)
      unfold zX10_orderValue_65
      exact dOk_some (show (q = q) from rfl)
  · refine dOk_eq (A := Int32.toInt p1) (B := 16) rfl (by decide) (fun c_21z c_21 => ?_) (fun c_22z c_22 => ?_)
    · have f_24 : 0 ≤ Int32.toInt (q.1 2 13) ∧ Int32.toInt (q.1 2 13) ≤ 999 := hT.1 2 13
      exact dOk_some (show (q = q) from rfl)
    · refine dOk_eq (A := Int32.toInt p1) (B := 17) rfl (by decide) (fun c_25z c_25 => ?_) (fun c_26z c_26 => ?_)
      · exact dOk_some (show (q = q) from rfl)
      · refine dOk_eq (A := Int32.toInt p1) (B := 18) rfl (by decide) (fun c_28z c_28 => ?_) (fun c_29z c_29 => ?_)
        · exact dOk_some (show (q = q) from rfl)
        · refine dOk_eq (A := Int32.toInt p1) (B := 19) rfl (by decide) (fun c_31z c_31 => ?_) (fun c_32z c_32 => ?_)
          · have f_34 : 0 ≤ Int32.toInt (q.1 2 12) ∧ Int32.toInt (q.1 2 12) ≤ 9999 := hT.1 2 12
            exact dOk_some (show (q = q) from rfl)
          · refine dOk_eq (A := Int32.toInt p1) (B := 20) rfl (by decide) (fun c_35z c_35 => ?_) (fun c_36z c_36 => ?_)
            · refine dOk_B (ok_gaps q hT) (fun r_38 q_39 h_40 => ?_)
              replace h_40 : (q_39 = q) := h_40
              have i_41 := h_40
              subst q_39
              exact dOk_some (show (q = q) from rfl)
            · refine dOk_eq (A := Int32.toInt p1) (B := 21) rfl (by decide) (fun c_42z c_42 => ?_) (fun c_43z c_43 => ?_)
              · refine dOk_B (ok_isPlace q p2 hT) (fun r_45 q_46 h_47 => ?_)
                replace h_47 : (q_46 = q) ∧ ((Int32.toInt r_45 = 1 ∧ 0 ≤ Int32.toInt p2 ∧ Int32.toInt p2 < Int32.toInt (q.1 2 29)) ∨ (Int32.toInt r_45 = 0 ∧ (Int32.toInt p2 < 0 ∨ Int32.toInt (q.1 2 29) ≤ Int32.toInt p2))) := h_47
                obtain ⟨i_48, i_49⟩ := h_47
                subst q_46
                have f_50 : 0 ≤ Int32.toInt (q.1 2 29) ∧ Int32.toInt (q.1 2 29) ≤ 6 := hT.1 2 29
                refine dOk_eq (A := Int32.toInt r_45) (B := 0) rfl (by decide) (fun c_51z c_51 => ?_) (fun c_52z c_52 => ?_)
                · unfold zX10_orderValue_86
                  exact dOk_some (show (q = q) from rfl)
                · try have t_54 : Int32.toInt (0 + p2) = 0 + Int32.toInt p2 := ti_add (by decide) rfl (by omega) (by omega)
                  refine dOk_G (dg_ok (show 0 ≤ Int32.toInt (0 + p2) by omega) (show Int32.toInt (0 + p2) < ((5640 : Nat) : Int) by omega)) ?_
                  have n_55 : ((Int32.toNatClampNeg (0 + p2) : Nat) : Int) = Int32.toInt (0 + p2) := cl_eq (by omega)
                  refine dOk_L (fun v_56 ev_56 => ?_)
                  try have g_57 : klo (Int32.toNatClampNeg (0 + p2)) ≤ Int32.toInt v_56 ∧ Int32.toInt v_56 ≤ khi (Int32.toNatClampNeg (0 + p2)) := by rw [ev_56]; exact te_k hT _
                  try have f_58 : 0 ≤ Int32.toInt v_56 ∧ Int32.toInt v_56 ≤ 5 := by rw [ev_56]; exact te_2r hT (by omega) (by omega)
                  try have f_59 : 0 ≤ Int32.toInt v_56 ∧ Int32.toInt v_56 ≤ 1 := by rw [ev_56]; exact te_2h hT (by omega) (by omega)
                  try have f_60 : 0 ≤ Int32.toInt v_56 ∧ Int32.toInt v_56 ≤ 5 := by rw [ev_56]; exact te_2s hT (by omega) (by omega)
                  try have f_61 : 0 ≤ Int32.toInt v_56 ∧ Int32.toInt v_56 ≤ 400 := by rw [ev_56]; exact te_2z hT (by omega) (by omega)
                  unfold zX10_orderValue_86
                  exact dOk_some (show (q = q) from rfl)
              · refine dOk_B (ok_gaps q hT) (fun r_62 q_63 h_64 => ?_)
                replace h_64 : (q_63 = q) := h_64
                have i_65 := h_64
                subst q_63
                exact dOk_some (show (q = q) from rfl)

set_option maxHeartbeats 4000000 in
set_option maxRecDepth 100000 in
theorem ok_isTerm (p1 : Int32) (p2 : Int32) : dOk (zX10_isTerm p1 p2) (fun (o : Int32) => ((Int32.toInt o = 1 ∧ ((Int32.toInt p1 = 0 ∧ 0 ≤ Int32.toInt p2 ∧ Int32.toInt p2 ≤ 999) ∨ (Int32.toInt p1 = 1 ∧ 0 ≤ Int32.toInt p2 ∧ Int32.toInt p2 ≤ 10) ∨ (Int32.toInt p1 = 2 ∧ 0 ≤ Int32.toInt p2 ∧ Int32.toInt p2 ≤ 9) ∨ (Int32.toInt p1 = 3 ∧ 0 ≤ Int32.toInt p2 ∧ Int32.toInt p2 ≤ 1))) ∨ Int32.toInt o = 0)) := by
  unfold zX10_isTerm
  refine dOk_eq (A := Int32.toInt p1) (B := 0) rfl (by decide) (fun c_1z c_1 => ?_) (fun c_2z c_2 => ?_)
  · refine dOk_V (ok_lies p2 0 999) (fun r_4 h_5 => ?_)
    replace h_5 : ((Int32.toInt r_4 = 1 ∧ (0 : Int) ≤ Int32.toInt p2 ∧ Int32.toInt p2 ≤ (999 : Int)) ∨ (Int32.toInt r_4 = 0 ∧ (Int32.toInt p2 < (0 : Int) ∨ (999 : Int) < Int32.toInt p2))) := h_5
    have i_6 := h_5
    refine dOk_G (dbl_ok (show Int32.toInt r_4 = 0 ∨ Int32.toInt r_4 = 1 by omega)) ?_
    exact dOk_some (show ((Int32.toInt r_4 = 1 ∧ ((Int32.toInt p1 = 0 ∧ 0 ≤ Int32.toInt p2 ∧ Int32.toInt p2 ≤ 999) ∨ (Int32.toInt p1 = 1 ∧ 0 ≤ Int32.toInt p2 ∧ Int32.toInt p2 ≤ 10) ∨ (Int32.toInt p1 = 2 ∧ 0 ≤ Int32.toInt p2 ∧ Int32.toInt p2 ≤ 9) ∨ (Int32.toInt p1 = 3 ∧ 0 ≤ Int32.toInt p2 ∧ Int32.toInt p2 ≤ 1))) ∨ Int32.toInt r_4 = 0) from (by omega))
  · refine dOk_eq (A := Int32.toInt p1) (B := 1) rfl (by decide) (fun c_7z c_7 => ?_) (fun c_8z c_8 => ?_)
    · refine dOk_V (ok_lies p2 0 10) (fun r_10 h_11 => ?_)
      replace h_11 : ((Int32.toInt r_10 = 1 ∧ (0 : Int) ≤ Int32.toInt p2 ∧ Int32.toInt p2 ≤ (10 : Int)) ∨ (Int32.toInt r_10 = 0 ∧ (Int32.toInt p2 < (0 : Int) ∨ (10 : Int) < Int32.toInt p2))) := h_11
      have i_12 := h_11
      refine dOk_G (dbl_ok (show Int32.toInt r_10 = 0 ∨ Int32.toInt r_10 = 1 by omega)) ?_
      exact dOk_some (show ((Int32.toInt r_10 = 1 ∧ ((Int32.toInt p1 = 0 ∧ 0 ≤ Int32.toInt p2 ∧ Int32.toInt p2 ≤ 999) ∨ (Int32.toInt p1 = 1 ∧ 0 ≤ Int32.toInt p2 ∧ Int32.toInt p2 ≤ 10) ∨ (Int32.toInt p1 = 2 ∧ 0 ≤ Int32.toInt p2 ∧ Int32.toInt p2 ≤ 9) ∨ (Int32.toInt p1 = 3 ∧ 0 ≤ Int32.toInt p2 ∧ Int32.toInt p2 ≤ 1))) ∨ Int32.toInt r_10 = 0) from (by omega))
    · refine dOk_eq (A := Int32.toInt p1) (B := 2) rfl (by decide) (fun c_13z c_13 => ?_) (fun c_14z c_14 => ?_)
      · refine dOk_V (ok_lies p2 0 9) (fun r_16 h_17 => ?_)
        replace h_17 : ((Int32.toInt r_16 = 1 ∧ (0 : Int) ≤ Int32.toInt p2 ∧ Int32.toInt p2 ≤ (9 : Int)) ∨ (Int32.toInt r_16 = 0 ∧ (Int32.toInt p2 < (0 : Int) ∨ (9 : Int) < Int32.toInt p2))) := h_17
        have i_18 := h_17
        refine dOk_G (dbl_ok (show Int32.toInt r_16 = 0 ∨ Int32.toInt r_16 = 1 by omega)) ?_
        exact dOk_some (show ((Int32.toInt r_16 = 1 ∧ ((Int32.toInt p1 = 0 ∧ 0 ≤ Int32.toInt p2 ∧ Int32.toInt p2 ≤ 999) ∨ (Int32.toInt p1 = 1 ∧ 0 ≤ Int32.toInt p2 ∧ Int32.toInt p2 ≤ 10) ∨ (Int32.toInt p1 = 2 ∧ 0 ≤ Int32.toInt p2 ∧ Int32.toInt p2 ≤ 9) ∨ (Int32.toInt p1 = 3 ∧ 0 ≤ Int32.toInt p2 ∧ Int32.toInt p2 ≤ 1))) ∨ Int32.toInt r_16 = 0) from (by omega))
      · refine dOk_eq (A := Int32.toInt p1) (B := 3) rfl (by decide) (fun c_19z c_19 => ?_) (fun c_20z c_20 => ?_)
        · refine dOk_V (ok_isBit p2) (fun r_22 h_23 => ?_)
          replace h_23 : ((Int32.toInt r_22 = 1 ∧ 0 ≤ Int32.toInt p2 ∧ Int32.toInt p2 ≤ 1) ∨ (Int32.toInt r_22 = 0 ∧ (Int32.toInt p2 < 0 ∨ 1 < Int32.toInt p2))) := h_23
          have i_24 := h_23
          refine dOk_G (dbl_ok (show Int32.toInt r_22 = 0 ∨ Int32.toInt r_22 = 1 by omega)) ?_
          exact dOk_some (show ((Int32.toInt r_22 = 1 ∧ ((Int32.toInt p1 = 0 ∧ 0 ≤ Int32.toInt p2 ∧ Int32.toInt p2 ≤ 999) ∨ (Int32.toInt p1 = 1 ∧ 0 ≤ Int32.toInt p2 ∧ Int32.toInt p2 ≤ 10) ∨ (Int32.toInt p1 = 2 ∧ 0 ≤ Int32.toInt p2 ∧ Int32.toInt p2 ≤ 9) ∨ (Int32.toInt p1 = 3 ∧ 0 ≤ Int32.toInt p2 ∧ Int32.toInt p2 ≤ 1))) ∨ Int32.toInt r_22 = 0) from (by omega))
        · exact dOk_some (show (((0 : Int) = 1 ∧ ((Int32.toInt p1 = 0 ∧ 0 ≤ Int32.toInt p2 ∧ Int32.toInt p2 ≤ 999) ∨ (Int32.toInt p1 = 1 ∧ 0 ≤ Int32.toInt p2 ∧ Int32.toInt p2 ≤ 10) ∨ (Int32.toInt p1 = 2 ∧ 0 ≤ Int32.toInt p2 ∧ Int32.toInt p2 ≤ 9) ∨ (Int32.toInt p1 = 3 ∧ 0 ≤ Int32.toInt p2 ∧ Int32.toInt p2 ≤ 1))) ∨ (0 : Int) = 0) from (by omega))

set_option maxHeartbeats 4000000 in
set_option maxRecDepth 100000 in
theorem ok_termAt (p1 : Int32) : dOk (zX10_termAt p1) (fun (o : Int32) => ((Int32.toInt p1 = 0 ∧ Int32.toInt o = 13) ∨ (Int32.toInt p1 = 1 ∧ Int32.toInt o = 26) ∨ (Int32.toInt p1 = 2 ∧ Int32.toInt o = 27) ∨ (¬ Int32.toInt p1 = 0 ∧ ¬ Int32.toInt p1 = 1 ∧ ¬ Int32.toInt p1 = 2 ∧ Int32.toInt o = 28))) := by
  unfold zX10_termAt
  refine dOk_eq (A := Int32.toInt p1) (B := 0) rfl (by decide) (fun c_1z c_1 => ?_) (fun c_2z c_2 => ?_)
  · unfold zX10_termAt_31
    exact dOk_some (show ((Int32.toInt p1 = 0 ∧ (13 : Int) = 13) ∨ (Int32.toInt p1 = 1 ∧ (13 : Int) = 26) ∨ (Int32.toInt p1 = 2 ∧ (13 : Int) = 27) ∨ (¬ Int32.toInt p1 = 0 ∧ ¬ Int32.toInt p1 = 1 ∧ ¬ Int32.toInt p1 = 2 ∧ (13 : Int) = 28)) from (by omega))
  · refine dOk_eq (A := Int32.toInt p1) (B := 1) rfl (by decide) (fun c_4z c_4 => ?_) (fun c_5z c_5 => ?_)
    · unfold zX10_termAt_31
      exact dOk_some (show ((Int32.toInt p1 = 0 ∧ (26 : Int) = 13) ∨ (Int32.toInt p1 = 1 ∧ (26 : Int) = 26) ∨ (Int32.toInt p1 = 2 ∧ (26 : Int) = 27) ∨ (¬ Int32.toInt p1 = 0 ∧ ¬ Int32.toInt p1 = 1 ∧ ¬ Int32.toInt p1 = 2 ∧ (26 : Int) = 28)) from (by omega))
    · refine dOk_eq (A := Int32.toInt p1) (B := 2) rfl (by decide) (fun c_7z c_7 => ?_) (fun c_8z c_8 => ?_)
      · unfold zX10_termAt_31
        exact dOk_some (show ((Int32.toInt p1 = 0 ∧ (27 : Int) = 13) ∨ (Int32.toInt p1 = 1 ∧ (27 : Int) = 26) ∨ (Int32.toInt p1 = 2 ∧ (27 : Int) = 27) ∨ (¬ Int32.toInt p1 = 0 ∧ ¬ Int32.toInt p1 = 1 ∧ ¬ Int32.toInt p1 = 2 ∧ (27 : Int) = 28)) from (by omega))
      · unfold zX10_termAt_31
        exact dOk_some (show ((Int32.toInt p1 = 0 ∧ (28 : Int) = 13) ∨ (Int32.toInt p1 = 1 ∧ (28 : Int) = 26) ∨ (Int32.toInt p1 = 2 ∧ (28 : Int) = 27) ∨ (¬ Int32.toInt p1 = 0 ∧ ¬ Int32.toInt p1 = 1 ∧ ¬ Int32.toInt p1 = 2 ∧ (28 : Int) = 28)) from (by omega))

set_option maxHeartbeats 4000000 in
set_option maxRecDepth 100000 in
theorem ok_terms (q : dS) (p1 : Int32) (p2 : Int32) (hT : TS q) : dOk (zX10_terms q p1 p2) (fun (o : Int32 × dS) => (TS o.2) ∧ (dFr [1, 2] [0, 32] q o.2)) := by
  unfold zX10_terms
  refine dOk_V (ok_isTerm p1 p2) (fun r_1 h_2 => ?_)
  replace h_2 : ((Int32.toInt r_1 = 1 ∧ ((Int32.toInt p1 = 0 ∧ 0 ≤ Int32.toInt p2 ∧ Int32.toInt p2 ≤ 999) ∨ (Int32.toInt p1 = 1 ∧ 0 ≤ Int32.toInt p2 ∧ Int32.toInt p2 ≤ 10) ∨ (Int32.toInt p1 = 2 ∧ 0 ≤ Int32.toInt p2 ∧ Int32.toInt p2 ≤ 9) ∨ (Int32.toInt p1 = 3 ∧ 0 ≤ Int32.toInt p2 ∧ Int32.toInt p2 ≤ 1))) ∨ Int32.toInt r_1 = 0) := h_2
  have i_3 := h_2
  refine dOk_eq (A := Int32.toInt r_1) (B := 0) rfl (by decide) (fun c_4z c_4 => ?_) (fun c_5z c_5 => ?_)
  · refine dOk_B (ok_refuses q (-1) hT (show (-6) ≤ (-1 : Int) by omega) (show (-1 : Int) ≤ 0 by omega)) (fun r_7 q_8 h_9 => ?_)
    replace h_9 : (TS q_8) ∧ (dFr [1] [0] q q_8) ∧ (Int32.toInt r_7 = (-1 : Int)) := h_9
    obtain ⟨i_10, i_11, i_12⟩ := h_9
    have hFq_8 : dFr [1, 2] [0, 32] q q_8 := (dFr.rf (q := q)).t i_11 (by decide) (by decide)
    exact dOk_some (show (TS q_8) ∧ (dFr [1, 2] [0, 32] q q_8) from ⟨i_10, hFq_8⟩)
  · refine dOk_V (ok_termAt p1) (fun r_13 h_14 => ?_)
    replace h_14 : ((Int32.toInt p1 = 0 ∧ Int32.toInt r_13 = 13) ∨ (Int32.toInt p1 = 1 ∧ Int32.toInt r_13 = 26) ∨ (Int32.toInt p1 = 2 ∧ Int32.toInt r_13 = 27) ∨ (¬ Int32.toInt p1 = 0 ∧ ¬ Int32.toInt p1 = 1 ∧ ¬ Int32.toInt p1 = 2 ∧ Int32.toInt r_13 = 28)) := h_14
    have i_15 := h_14
    refine dOk_G (dg_ok (show 0 ≤ Int32.toInt r_13 by omega) (show Int32.toInt r_13 < ((5640 : Nat) : Int) by omega)) ?_
    have n_16 : ((Int32.toNatClampNeg r_13 : Nat) : Int) = Int32.toInt r_13 := cl_eq (by omega)
    refine dOk_L (fun v_17 ev_17 => ?_)
    try have g_18 : klo (Int32.toNatClampNeg r_13) ≤ Int32.toInt v_17 ∧ Int32.toInt v_17 ≤ khi (Int32.toNatClampNeg r_13) := by rw [ev_17]; exact te_k hT _
    try have f_19 : 0 ≤ Int32.toInt v_17 ∧ Int32.toInt v_17 ≤ 5 := by rw [ev_17]; exact te_2r hT (by omega) (by omega)
    try have f_20 : 0 ≤ Int32.toInt v_17 ∧ Int32.toInt v_17 ≤ 1 := by rw [ev_17]; exact te_2h hT (by omega) (by omega)
    try have f_21 : 0 ≤ Int32.toInt v_17 ∧ Int32.toInt v_17 ≤ 5 := by rw [ev_17]; exact te_2s hT (by omega) (by omega)
    try have f_22 : 0 ≤ Int32.toInt v_17 ∧ Int32.toInt v_17 ≤ 400 := by rw [ev_17]; exact te_2z hT (by omega) (by omega)
    refine dOk_V (ok_termAt p1) (fun r_23 h_24 => ?_)
    replace h_24 : ((Int32.toInt p1 = 0 ∧ Int32.toInt r_23 = 13) ∨ (Int32.toInt p1 = 1 ∧ Int32.toInt r_23 = 26) ∨ (Int32.toInt p1 = 2 ∧ Int32.toInt r_23 = 27) ∨ (¬ Int32.toInt p1 = 0 ∧ ¬ Int32.toInt p1 = 1 ∧ ¬ Int32.toInt p1 = 2 ∧ Int32.toInt r_23 = 28)) := h_24
    have i_25 := h_24
    refine dOk_G (dg_ok (show 0 ≤ Int32.toInt r_23 by omega) (show Int32.toInt r_23 < ((5640 : Nat) : Int) by omega)) ?_
    have n_26 : ((Int32.toNatClampNeg r_23 : Nat) : Int) = Int32.toInt r_23 := cl_eq (by omega)
    refine dOk_L (fun q_27 eq_27 => ?_)
    have hTq_27 : TS q_27 := by rw [eq_27]; exact ts_set2 hT (by omega) (show klo (Int32.toNatClampNeg r_23) ≤ Int32.toInt p2 by unfold klo; omega) (show Int32.toInt p2 ≤ khi (Int32.toNatClampNeg r_23) by unfold khi; omega)
    have hFq_27 : dFr [1, 2] [0, 32] q q_27 := by rw [eq_27]; exact (dFr.rf (q := q)).i (by decide) (by decide)
    refine dOk_B (ok_settled q_27 v_17 hTq_27) (fun r_28 q_29 h_30 => ?_)
    replace h_30 : (TS q_29) ∧ (dFr [] [0, 32] q_27 q_29) ∧ (Int32.toInt r_28 = Int32.toInt v_17) := h_30
    obtain ⟨i_31, i_32, i_33⟩ := h_30
    have hFq_29 : dFr [1, 2] [0, 32] q q_29 := hFq_27.t i_32 (by decide) (by decide)
    exact dOk_some (show (TS q_29) ∧ (dFr [1, 2] [0, 32] q q_29) from ⟨i_31, hFq_29⟩)
