set_option maxHeartbeats 4000000 in
set_option maxRecDepth 100000 in
theorem ok_turnsKept (q : dS) (p1 : Int32) (hT : TS q) : dOk (zX10_turnsKept q p1) (fun (o : Int32 × dS) => (TS o.2) ∧ (dFk [2, 12, 14] [22, 23, 24, 25, 32] q o.2) ∧ (-3 ≤ Int32.toInt o.1 ∧ Int32.toInt o.1 ≤ 99)) := by
  unfold zX10_turnsKept
  refine dOk_V (ok_lies p1 1 6) (fun r_1 h_2 => ?_)
  replace h_2 : ((Int32.toInt r_1 = 1 ∧ (1 : Int) ≤ Int32.toInt p1 ∧ Int32.toInt p1 ≤ (6 : Int)) ∨ (Int32.toInt r_1 = 0 ∧ (Int32.toInt p1 < (1 : Int) ∨ (6 : Int) < Int32.toInt p1))) := h_2
  have i_3 := h_2
  refine dOk_eq (A := Int32.toInt r_1) (B := 0) rfl (by decide) (fun c_4z c_4 => ?_) (fun c_5z c_5 => ?_)
  · exact dOk_some (show (TS q) ∧ (dFk [2, 12, 14] [22, 23, 24, 25, 32] q q) ∧ (-3 ≤ (-1 : Int) ∧ (-1 : Int) ≤ 99) from ⟨hT, (dFk.rf (q := q)), by omega⟩)
  · refine dOk_B (ok_canTurn q p1 hT (show 1 ≤ Int32.toInt p1 by omega)) (fun r_7 q_8 h_9 => ?_)
    replace h_9 : (TS q_8) ∧ (dFr [12] [22, 23, 24, 25] q q_8) ∧ ((Int32.toInt r_7 = 1 ∧ Int32.toInt p1 ≤ Int32.toInt (q.1 2 29)) ∨ Int32.toInt r_7 = 0) := h_9
    obtain ⟨i_10, i_11, i_12⟩ := h_9
    have hFq_8 : dFk [2, 12, 14] [22, 23, 24, 25, 32] q q_8 := (dFk.rf (q := q)).tr i_11 (by decide) (by decide) (by decide)
    have f_13 : 0 ≤ Int32.toInt (q.1 2 29) ∧ Int32.toInt (q.1 2 29) ≤ 6 := hT.1 2 29
    refine dOk_eq (A := Int32.toInt r_7) (B := 0) rfl (by decide) (fun c_14z c_14 => ?_) (fun c_15z c_15 => ?_)
    · exact dOk_some (show (TS q_8) ∧ (dFk [2, 12, 14] [22, 23, 24, 25, 32] q q_8) ∧ (-3 ≤ (-3 : Int) ∧ (-3 : Int) ≤ 99) from ⟨i_10, hFq_8, by omega⟩)
    · refine dOk_V (ok_keeps q_8 0 i_10) (fun q_17 h_18 => ?_)
      replace h_18 : (TS q_17) ∧ (dFr [14] [32] q_8 q_17) := h_18
      obtain ⟨i_19, i_20⟩ := h_18
      have hFq_17 : dFk [2, 12, 14] [22, 23, 24, 25, 32] q q_17 := hFq_8.tr i_20 (by decide) (by decide) (by decide)
      have f_21 : 0 ≤ Int32.toInt (q_17.1 2 29) ∧ Int32.toInt (q_17.1 2 29) ≤ 6 := i_19.1 2 29
      have f_22 : 0 ≤ Int32.toInt (q_8.1 2 29) ∧ Int32.toInt (q_8.1 2 29) ≤ 6 := i_10.1 2 29
      have w_23 : Int32.toInt (q_8.1 2 29) = Int32.toInt (q.1 2 29) := by rw [i_11.1 2 (by decide) (by decide)]
      have w_24 : Int32.toInt (q_17.1 2 29) = Int32.toInt (q_8.1 2 29) := by rw [i_20.1 2 (by decide) (by decide)]
      refine dOk_B (ok_turns q_17 p1 i_19 (show 1 ≤ Int32.toInt p1 by omega) (show Int32.toInt p1 ≤ Int32.toInt (q_17.1 2 29) by omega)) (fun r_25 q_26 h_27 => ?_)
      replace h_27 : (TS q_26) ∧ (dFk [2, 12] [22, 23, 24, 25] q_17 q_26) ∧ (0 ≤ Int32.toInt r_25 ∧ Int32.toInt r_25 ≤ 99) ∧ (Int32.toInt (q_26.1 2 29) = Int32.toInt (q_17.1 2 29)) ∧ (Int32.toInt (q_26.1 2 13) = Int32.toInt (q_17.1 2 13)) := h_27
      obtain ⟨i_28, i_29, i_30, i_31, i_32⟩ := h_27
      have hFq_26 : dFk [2, 12, 14] [22, 23, 24, 25, 32] q q_26 := hFq_17.t i_29 (by decide) (by decide)
      have f_33 : 0 ≤ Int32.toInt (q_26.1 2 29) ∧ Int32.toInt (q_26.1 2 29) ≤ 6 := i_28.1 2 29
      have w_34 : Int32.toInt (q_26.1 2 29) = Int32.toInt (q_17.1 2 29) := by rw [i_29.2 29 (by decide)]
      have f_35 : 0 ≤ Int32.toInt (q_26.1 2 13) ∧ Int32.toInt (q_26.1 2 13) ≤ 999 := i_28.1 2 13
      have f_36 : 0 ≤ Int32.toInt (q_17.1 2 13) ∧ Int32.toInt (q_17.1 2 13) ≤ 999 := i_19.1 2 13
      have f_37 : 0 ≤ Int32.toInt (q_8.1 2 13) ∧ Int32.toInt (q_8.1 2 13) ≤ 999 := i_10.1 2 13
      have f_38 : 0 ≤ Int32.toInt (q.1 2 13) ∧ Int32.toInt (q.1 2 13) ≤ 999 := hT.1 2 13
      have w_39 : Int32.toInt (q_8.1 2 13) = Int32.toInt (q.1 2 13) := by rw [i_11.1 2 (by decide) (by decide)]
      have w_40 : Int32.toInt (q_17.1 2 13) = Int32.toInt (q_8.1 2 13) := by rw [i_20.1 2 (by decide) (by decide)]
      exact dOk_some (show (TS q_26) ∧ (dFk [2, 12, 14] [22, 23, 24, 25, 32] q q_26) ∧ (-3 ≤ Int32.toInt r_25 ∧ Int32.toInt r_25 ≤ 99) from ⟨i_28, hFq_26, by omega⟩)

set_option maxHeartbeats 4000000 in
set_option maxRecDepth 100000 in
theorem ok_passesKept (q : dS) (hT : TS q) : dOk (zX10_passesKept q) (fun (o : Int32 × dS) => (TS o.2) ∧ (dFk [2, 12, 13, 14] [22, 23, 24, 25, 32] q o.2) ∧ (-3 ≤ Int32.toInt o.1)) := by
  unfold zX10_passesKept
  have f_1 : 0 ≤ Int32.toInt (q.1 2 13) ∧ Int32.toInt (q.1 2 13) ≤ 999 := hT.1 2 13
  refine dOk_eq (A := Int32.toInt (q.1 2 13)) (B := 999) rfl (by decide) (fun c_2z c_2 => ?_) (fun c_3z c_3 => ?_)
  · exact dOk_some (show (TS q) ∧ (dFk [2, 12, 13, 14] [22, 23, 24, 25, 32] q q) ∧ (-3 ≤ (-3 : Int)) from ⟨hT, (dFk.rf (q := q)), by omega⟩)
  · refine dOk_V (ok_keeps q 3 hT) (fun q_5 h_6 => ?_)
    replace h_6 : (TS q_5) ∧ (dFr [14] [32] q q_5) := h_6
    obtain ⟨i_7, i_8⟩ := h_6
    have hFq_5 : dFk [2, 12, 13, 14] [22, 23, 24, 25, 32] q q_5 := (dFk.rf (q := q)).tr i_8 (by decide) (by decide) (by decide)
    have f_9 : 0 ≤ Int32.toInt (q_5.1 2 13) ∧ Int32.toInt (q_5.1 2 13) ≤ 999 := i_7.1 2 13
    have w_10 : Int32.toInt (q_5.1 2 13) = Int32.toInt (q.1 2 13) := by rw [i_8.1 2 (by decide) (by decide)]
    refine dOk_B (ok_yearPasses q_5 i_7 (show Int32.toInt (q_5.1 2 13) < 999 by omega)) (fun r_11 q_12 h_13 => ?_)
    replace h_13 : (TS q_12) ∧ (dFk [2, 12, 13] [22, 23, 24, 25] q_5 q_12) ∧ (0 ≤ Int32.toInt r_11) ∧ (Int32.toInt (q_12.1 2 29) = Int32.toInt (q_5.1 2 29)) := h_13
    obtain ⟨i_14, i_15, i_16, i_17⟩ := h_13
    have hFq_12 : dFk [2, 12, 13, 14] [22, 23, 24, 25, 32] q q_12 := hFq_5.t i_15 (by decide) (by decide)
    have f_18 : 0 ≤ Int32.toInt (q_12.1 2 29) ∧ Int32.toInt (q_12.1 2 29) ≤ 6 := i_14.1 2 29
    have f_19 : 0 ≤ Int32.toInt (q_5.1 2 29) ∧ Int32.toInt (q_5.1 2 29) ≤ 6 := i_7.1 2 29
    have f_20 : 0 ≤ Int32.toInt (q.1 2 29) ∧ Int32.toInt (q.1 2 29) ≤ 6 := hT.1 2 29
    have w_21 : Int32.toInt (q_5.1 2 29) = Int32.toInt (q.1 2 29) := by rw [i_8.1 2 (by decide) (by decide)]
    have w_22 : Int32.toInt (q_12.1 2 29) = Int32.toInt (q_5.1 2 29) := by rw [i_15.2 29 (by decide)]
    exact dOk_some (show (TS q_12) ∧ (dFk [2, 12, 13, 14] [22, 23, 24, 25, 32] q q_12) ∧ (-3 ≤ Int32.toInt r_11) from ⟨i_14, hFq_12, by omega⟩)

set_option maxHeartbeats 4000000 in
set_option maxRecDepth 100000 in
theorem ok_turn (q : dS) (p1 : Int32) (hT : TS q) : dOk (zX10_turn q p1) (fun (o : Int32 × dS) => (TS o.2) ∧ (dFk [1, 2, 12, 14] [0, 22, 23, 24, 25, 32] q o.2)) := by
  unfold zX10_turn
  refine dOk_B (ok_turnsKept q p1 hT) (fun r_1 q_2 h_3 => ?_)
  replace h_3 : (TS q_2) ∧ (dFk [2, 12, 14] [22, 23, 24, 25, 32] q q_2) ∧ (-3 ≤ Int32.toInt r_1 ∧ Int32.toInt r_1 ≤ 99) := h_3
  obtain ⟨i_4, i_5, i_6⟩ := h_3
  have hFq_2 : dFk [1, 2, 12, 14] [0, 22, 23, 24, 25, 32] q q_2 := (dFk.rf (q := q)).t i_5 (by decide) (by decide)
  refine dOk_B (ok_goodOr q_2 r_1 i_4 (show (-6) ≤ Int32.toInt r_1 by omega)) (fun r_7 q_8 h_9 => ?_)
  replace h_9 : (TS q_8) ∧ (dFr [1] [0] q_2 q_8) ∧ (Int32.toInt r_7 = Int32.toInt r_1) := h_9
  obtain ⟨i_10, i_11, i_12⟩ := h_9
  have hFq_8 : dFk [1, 2, 12, 14] [0, 22, 23, 24, 25, 32] q q_8 := hFq_2.tr i_11 (by decide) (by decide) (by decide)
  exact dOk_some (show (TS q_8) ∧ (dFk [1, 2, 12, 14] [0, 22, 23, 24, 25, 32] q q_8) from ⟨i_10, hFq_8⟩)

set_option maxHeartbeats 4000000 in
set_option maxRecDepth 100000 in
theorem ok_pass (q : dS) (hT : TS q) : dOk (zX10_pass q) (fun (o : Int32 × dS) => (TS o.2) ∧ (dFk [1, 2, 12, 13, 14] [0, 22, 23, 24, 25, 32] q o.2)) := by
  unfold zX10_pass
  refine dOk_B (ok_passesKept q hT) (fun r_1 q_2 h_3 => ?_)
  replace h_3 : (TS q_2) ∧ (dFk [2, 12, 13, 14] [22, 23, 24, 25, 32] q q_2) ∧ (-3 ≤ Int32.toInt r_1) := h_3
  obtain ⟨i_4, i_5, i_6⟩ := h_3
  have hFq_2 : dFk [1, 2, 12, 13, 14] [0, 22, 23, 24, 25, 32] q q_2 := (dFk.rf (q := q)).t i_5 (by decide) (by decide)
  refine dOk_B (ok_goodOr q_2 r_1 i_4 (show (-6) ≤ Int32.toInt r_1 by omega)) (fun r_7 q_8 h_9 => ?_)
  replace h_9 : (TS q_8) ∧ (dFr [1] [0] q_2 q_8) ∧ (Int32.toInt r_7 = Int32.toInt r_1) := h_9
  obtain ⟨i_10, i_11, i_12⟩ := h_9
  have hFq_8 : dFk [1, 2, 12, 13, 14] [0, 22, 23, 24, 25, 32] q q_8 := hFq_2.tr i_11 (by decide) (by decide) (by decide)
  exact dOk_some (show (TS q_8) ∧ (dFk [1, 2, 12, 13, 14] [0, 22, 23, 24, 25, 32] q q_8) from ⟨i_10, hFq_8⟩)

set_option maxHeartbeats 4000000 in
set_option maxRecDepth 100000 in
theorem ok_at (q : dS) (p1 : Int32) (p2 : Int32) (hT : TS q) : dOk (zX10_at q p1 p2) (fun (o : Int32 × dS) => (TS o.2) ∧ (dFr [12] [22, 23, 24, 25] q o.2)) := by
  unfold zX10_at
  refine dOk_B (ok_isPlace q p1 hT) (fun r_1 q_2 h_3 => ?_)
  replace h_3 : (q_2 = q) ∧ ((Int32.toInt r_1 = 1 ∧ 0 ≤ Int32.toInt p1 ∧ Int32.toInt p1 < Int32.toInt (q.1 2 29)) ∨ (Int32.toInt r_1 = 0 ∧ (Int32.toInt p1 < 0 ∨ Int32.toInt (q.1 2 29) ≤ Int32.toInt p1))) := h_3
  obtain ⟨i_4, i_5⟩ := h_3
  subst q_2
  have f_6 : 0 ≤ Int32.toInt (q.1 2 29) ∧ Int32.toInt (q.1 2 29) ≤ 6 := hT.1 2 29
  refine dOk_eq (A := Int32.toInt r_1) (B := 0) rfl (by decide) (fun c_7z c_7 => ?_) (fun c_8z c_8 => ?_)
  · exact dOk_some (show (TS q) ∧ (dFr [12] [22, 23, 24, 25] q q) from ⟨hT, (dFr.rf (q := q))⟩)
  · refine dOk_eq (A := Int32.toInt p2) (B := 0) rfl (by decide) (fun c_10z c_10 => ?_) (fun c_11z c_11 => ?_)
    · try have t_13 : Int32.toInt (0 + p1) = 0 + Int32.toInt p1 := ti_add (by decide) rfl (by omega) (by omega)
      refine dOk_G (dg_ok (show 0 ≤ Int32.toInt (0 + p1) by omega) (show Int32.toInt (0 + p1) < ((5640 : Nat) : Int) by omega)) ?_
      have n_14 : ((Int32.toNatClampNeg (0 + p1) : Nat) : Int) = Int32.toInt (0 + p1) := cl_eq (by omega)
      refine dOk_L (fun v_15 ev_15 => ?_)
      try have g_16 : klo (Int32.toNatClampNeg (0 + p1)) ≤ Int32.toInt v_15 ∧ Int32.toInt v_15 ≤ khi (Int32.toNatClampNeg (0 + p1)) := by rw [ev_15]; exact te_k hT _
      try have f_17 : 0 ≤ Int32.toInt v_15 ∧ Int32.toInt v_15 ≤ 5 := by rw [ev_15]; exact te_2r hT (by omega) (by omega)
      try have f_18 : 0 ≤ Int32.toInt v_15 ∧ Int32.toInt v_15 ≤ 1 := by rw [ev_15]; exact te_2h hT (by omega) (by omega)
      try have f_19 : 0 ≤ Int32.toInt v_15 ∧ Int32.toInt v_15 ≤ 5 := by rw [ev_15]; exact te_2s hT (by omega) (by omega)
      try have f_20 : 0 ≤ Int32.toInt v_15 ∧ Int32.toInt v_15 ≤ 400 := by rw [ev_15]; exact te_2z hT (by omega) (by omega)
      exact dOk_some (show (TS q) ∧ (dFr [12] [22, 23, 24, 25] q q) from ⟨hT, (dFr.rf (q := q))⟩)
    · refine dOk_eq (A := Int32.toInt p2) (B := 1) rfl (by decide) (fun c_21z c_21 => ?_) (fun c_22z c_22 => ?_)
      · try have t_24 : Int32.toInt (6 + p1) = 6 + Int32.toInt p1 := ti_add (by decide) rfl (by omega) (by omega)
        refine dOk_G (dg_ok (show 0 ≤ Int32.toInt (6 + p1) by omega) (show Int32.toInt (6 + p1) < ((5640 : Nat) : Int) by omega)) ?_
        have n_25 : ((Int32.toNatClampNeg (6 + p1) : Nat) : Int) = Int32.toInt (6 + p1) := cl_eq (by omega)
        refine dOk_L (fun v_26 ev_26 => ?_)
        try have g_27 : klo (Int32.toNatClampNeg (6 + p1)) ≤ Int32.toInt v_26 ∧ Int32.toInt v_26 ≤ khi (Int32.toNatClampNeg (6 + p1)) := by rw [ev_26]; exact te_k hT _
        try have f_28 : 0 ≤ Int32.toInt v_26 ∧ Int32.toInt v_26 ≤ 5 := by rw [ev_26]; exact te_2r hT (by omega) (by omega)
        try have f_29 : 0 ≤ Int32.toInt v_26 ∧ Int32.toInt v_26 ≤ 1 := by rw [ev_26]; exact te_2h hT (by omega) (by omega)
        try have f_30 : 0 ≤ Int32.toInt v_26 ∧ Int32.toInt v_26 ≤ 5 := by rw [ev_26]; exact te_2s hT (by omega) (by omega)
        try have f_31 : 0 ≤ Int32.toInt v_26 ∧ Int32.toInt v_26 ≤ 400 := by rw [ev_26]; exact te_2z hT (by omega) (by omega)
        exact dOk_some (show (TS q) ∧ (dFr [12] [22, 23, 24, 25] q q) from ⟨hT, (dFr.rf (q := q))⟩)
      · refine dOk_eq (A := Int32.toInt p2) (B := 2) rfl (by decide) (fun c_32z c_32 => ?_) (fun c_33z c_33 => ?_)
        · refine dOk_B (ok_tipsAt q p1 hT (show 0 ≤ Int32.toInt p1 by omega) (show Int32.toInt p1 < 6 by omega)) (fun r_35 q_36 h_37 => ?_)
          replace h_37 : (TS q_36) ∧ (dFr [12] [22, 23, 24, 25] q q_36) ∧ ((Int32.toInt r_35 = 0 ∨ Int32.toInt r_35 = 1)) := h_37
          obtain ⟨i_38, i_39, i_40⟩ := h_37
          have hFq_36 : dFr [12] [22, 23, 24, 25] q q_36 := (dFr.rf (q := q)).t i_39 (by decide) (by decide)
          refine dOk_eq (A := Int32.toInt r_35) (B := 0) rfl (by decide) (fun c_41z c_41 => ?_) (fun c_42z c_42 => ?_)
          · unfold zX10_at_68
            exact dOk_some (show (TS q_36) ∧ (dFr [12] [22, 23, 24, 25] q q_36) from ⟨i_38, hFq_36⟩)
          · unfold zX10_at_68
            exact dOk_some (show (TS q_36) ∧ (dFr [12] [22, 23, 24, 25] q q_36) from ⟨i_38, hFq_36⟩)
        · exact dOk_some (show (TS q) ∧ (dFr [12] [22, 23, 24, 25] q q) from ⟨hT, (dFr.rf (q := q))⟩)

set_option maxHeartbeats 4000000 in
set_option maxRecDepth 100000 in
theorem ok_asks (q : dS) (p1 : Int32) (p2 : Int32) (hT : TS q) : dOk (zX10_asks q p1 p2) (fun (o : Int32 × dS) => (TS o.2) ∧ (dFr [12] [22, 23, 24, 25] q o.2)) := by
  unfold zX10_asks
  refine dOk_B (ok_size q hT) (fun r_1 q_2 h_3 => ?_)
  replace h_3 : (q_2 = q) ∧ (Int32.toInt r_1 = Int32.toInt (q.1 2 29)) ∧ (0 ≤ Int32.toInt r_1 ∧ Int32.toInt r_1 ≤ 6) := h_3
  obtain ⟨i_4, i_5, i_6⟩ := h_3
  subst q_2
  have f_7 : 0 ≤ Int32.toInt (q.1 2 29) ∧ Int32.toInt (q.1 2 29) ≤ 6 := hT.1 2 29
  refine dOk_V (ok_lies p1 1 r_1) (fun r_8 h_9 => ?_)
  replace h_9 : ((Int32.toInt r_8 = 1 ∧ (1 : Int) ≤ Int32.toInt p1 ∧ Int32.toInt p1 ≤ Int32.toInt r_1) ∨ (Int32.toInt r_8 = 0 ∧ (Int32.toInt p1 < (1 : Int) ∨ Int32.toInt r_1 < Int32.toInt p1))) := h_9
  have i_10 := h_9
  refine dOk_eq (A := Int32.toInt r_8) (B := 0) rfl (by decide) (fun c_11z c_11 => ?_) (fun c_12z c_12 => ?_)
  · exact dOk_some (show (TS q) ∧ (dFr [12] [22, 23, 24, 25] q q) from ⟨hT, (dFr.rf (q := q))⟩)
  · refine dOk_B (ok_rankBelow q p1 hT (show 0 ≤ Int32.toInt p1 by omega)) (fun r_14 q_15 h_16 => ?_)
    replace h_16 : (q_15 = q) ∧ (-1 ≤ Int32.toInt r_14 ∧ Int32.toInt r_14 ≤ 5) := h_16
    obtain ⟨i_17, i_18⟩ := h_16
    subst q_15
    have f_19 : 0 ≤ Int32.toInt (q.1 2 0) ∧ Int32.toInt (q.1 2 0) ≤ 5 := hT.1 2 0
    have f_20 : 0 ≤ Int32.toInt (q.1 2 6) ∧ Int32.toInt (q.1 2 6) ≤ 1 := hT.1 2 6
    refine dOk_V (ok_setsTurn q p1 (q.1 2 0) r_14 (q.1 2 6) hT) (fun q_21 h_22 => ?_)
    replace h_22 : (TS q_21) ∧ (dFr [12] [] q q_21) ∧ (Int32.toInt (q_21.1 12 0) = Int32.toInt p1) := h_22
    obtain ⟨i_23, i_24, i_25⟩ := h_22
    have hFq_21 : dFr [12] [22, 23, 24, 25] q q_21 := (dFr.rf (q := q)).t i_24 (by decide) (by decide)
    refine dOk_eq (A := Int32.toInt p2) (B := 0) rfl (by decide) (fun c_26z c_26 => ?_) (fun c_27z c_27 => ?_)
    · refine dOk_B (ok_paysNow q_21 i_23) (fun r_29 q_30 h_31 => ?_)
      replace h_31 : (TS q_30) ∧ (dFr [] [22, 23, 24, 25] q_21 q_30) ∧ ((0 ≤ Int32.toInt (q_21.1 12 0) ∧ Int32.toInt (q_21.1 12 0) ≤ 99) → 0 ≤ Int32.toInt r_29 ∧ Int32.toInt r_29 ≤ 99) := h_31
      obtain ⟨i_32, i_33, i_34⟩ := h_31
      have hFq_30 : dFr [12] [22, 23, 24, 25] q q_30 := hFq_21.t i_33 (by decide) (by decide)
      exact dOk_some (show (TS q_30) ∧ (dFr [12] [22, 23, 24, 25] q q_30) from ⟨i_32, hFq_30⟩)
    · refine dOk_eq (A := Int32.toInt p2) (B := 1) rfl (by decide) (fun c_35z c_35 => ?_) (fun c_36z c_36 => ?_)
      · refine dOk_B (ok_isNow q_21 2 i_23) (fun r_38 q_39 h_40 => ?_)
        replace h_40 : (TS q_39) ∧ (dFr [] [22, 23, 24, 25] q_21 q_39) ∧ ((Int32.toInt r_38 = 0 ∨ Int32.toInt r_38 = 1)) := h_40
        obtain ⟨i_41, i_42, i_43⟩ := h_40
        have hFq_39 : dFr [12] [22, 23, 24, 25] q q_39 := hFq_21.t i_42 (by decide) (by decide)
        refine dOk_eq (A := Int32.toInt r_38) (B := 0) rfl (by decide) (fun c_44z c_44 => ?_) (fun c_45z c_45 => ?_)
        · unfold zX10_asks_82
          exact dOk_some (show (TS q_39) ∧ (dFr [12] [22, 23, 24, 25] q q_39) from ⟨i_41, hFq_39⟩)
        · unfold zX10_asks_82
          exact dOk_some (show (TS q_39) ∧ (dFr [12] [22, 23, 24, 25] q q_39) from ⟨i_41, hFq_39⟩)
      · exact dOk_some (show (TS q_21) ∧ (dFr [12] [22, 23, 24, 25] q q_21) from ⟨i_23, hFq_21⟩)

set_option maxHeartbeats 4000000 in
set_option maxRecDepth 100000 in
theorem ok_itWas (q : dS) (p1 : Int32) (hT : TS q) (hp0 : 1 ≤ Int32.toInt p1 ∧ Int32.toInt p1 ≤ Int32.toInt (q.1 2 29)) : dOk (zX10_itWas q p1) (fun (o : Int32 × dS) => (TS o.2) ∧ (dFr [12] [22, 23, 24, 25] q o.2) ∧ ((Int32.toInt o.1 = 0 ∨ Int32.toInt o.1 = 1))) := by
  unfold zX10_itWas
  refine dOk_B (ok_canTurn q p1 hT (show 1 ≤ Int32.toInt p1 by omega)) (fun r_1 q_2 h_3 => ?_)
  replace h_3 : (TS q_2) ∧ (dFr [12] [22, 23, 24, 25] q q_2) ∧ ((Int32.toInt r_1 = 1 ∧ Int32.toInt p1 ≤ Int32.toInt (q.1 2 29)) ∨ Int32.toInt r_1 = 0) := h_3
  obtain ⟨i_4, i_5, i_6⟩ := h_3
  have hFq_2 : dFr [12] [22, 23, 24, 25] q q_2 := (dFr.rf (q := q)).t i_5 (by decide) (by decide)
  have f_7 : 0 ≤ Int32.toInt (q.1 2 29) ∧ Int32.toInt (q.1 2 29) ≤ 6 := hT.1 2 29
  unfold zX10_itWas_8
  refine dFix_ok (fun (a : dS × Int32 × Int32 × Int32) => (a.1 = q_2) ∧ (a.2.1 = p1) ∧ (0 ≤ Int32.toInt a.2.2.2) ∧ (Int32.toInt a.2.2.2 ≤ 6) ∧ (Int32.toInt a.2.2.1 = 0 ∨ Int32.toInt a.2.2.1 = 1)) (fun (a : dS × Int32 × Int32 × Int32) => (6 - Int32.toInt a.2.2.2).toNat) ?_ _ ?_ _ (dF_gt ?_)
  · intro a ha k_9 hk_8
    obtain ⟨q_10, x1_11, x2_12, x3_13⟩ := a
    replace ha : (q_10 = q_2) ∧ (x1_11 = p1) ∧ (0 ≤ Int32.toInt x3_13) ∧ (Int32.toInt x3_13 ≤ 6) ∧ (Int32.toInt x2_12 = 0 ∨ Int32.toInt x2_12 = 1) := ha
    obtain ⟨a_14, a_15, a_16, a_17, a_18⟩ := ha
    show dOk (zX10_itWas_8b  (fun q x1 x2 x3 => k_9 (q, x1, x2, x3)) q_10 x1_11 x2_12 x3_13) _
    unfold zX10_itWas_8b
    subst q_10
    subst x1_11
    have f_19 : 0 ≤ Int32.toInt (q_2.1 2 30) ∧ Int32.toInt (q_2.1 2 30) ≤ 6 := i_4.1 2 30
    have f_20 : 0 ≤ Int32.toInt (q.1 2 30) ∧ Int32.toInt (q.1 2 30) ≤ 6 := hT.1 2 30
    have w_21 : Int32.toInt (q_2.1 2 30) = Int32.toInt (q.1 2 30) := by rw [i_5.1 2 (by decide) (by decide)]
    refine dOk_le (A := Int32.toInt (q_2.1 2 30)) (B := Int32.toInt x3_13) rfl rfl (fun c_22 => ?_) (fun c_23 => ?_)
    · unfold zX10_itWas_67
      refine dOk_G (dbl_ok (show Int32.toInt x2_12 = 0 ∨ Int32.toInt x2_12 = 1 by omega)) ?_
      exact dOk_some (show (TS q_2) ∧ (dFr [12] [22, 23, 24, 25] q q_2) ∧ ((Int32.toInt x2_12 = 0 ∨ Int32.toInt x2_12 = 1)) from ⟨i_4, hFq_2, by omega⟩)
    · refine dOk_eq (A := Int32.toInt x2_12) (B := 0) rfl (by decide) (fun c_24z c_24 => ?_) (fun c_25z c_25 => ?_)
      · unfold zX10_itWas_67
        refine dOk_G (dbl_ok (show Int32.toInt x2_12 = 0 ∨ Int32.toInt x2_12 = 1 by omega)) ?_
        exact dOk_some (show (TS q_2) ∧ (dFr [12] [22, 23, 24, 25] q q_2) ∧ ((Int32.toInt x2_12 = 0 ∨ Int32.toInt x2_12 = 1)) from ⟨i_4, hFq_2, by omega⟩)
      · try have t_27 : Int32.toInt (2 * x3_13) = 2 * Int32.toInt x3_13 := ti_mul (by decide) rfl (by omega) (by omega)
        try have t_28 : Int32.toInt (14 + 2 * x3_13) = 14 + Int32.toInt (2 * x3_13) := ti_add (by decide) rfl (by omega) (by omega)
        refine dOk_G (dg_ok (show 0 ≤ Int32.toInt (14 + 2 * x3_13) by omega) (show Int32.toInt (14 + 2 * x3_13) < ((5640 : Nat) : Int) by omega)) ?_
        have n_29 : ((Int32.toNatClampNeg (14 + 2 * x3_13) : Nat) : Int) = Int32.toInt (14 + 2 * x3_13) := cl_eq (by omega)
        refine dOk_L (fun v_30 ev_30 => ?_)
        try have g_31 : klo (Int32.toNatClampNeg (14 + 2 * x3_13)) ≤ Int32.toInt v_30 ∧ Int32.toInt v_30 ≤ khi (Int32.toNatClampNeg (14 + 2 * x3_13)) := by rw [ev_30]; exact te_k i_4 _
        try have f_32 : 0 ≤ Int32.toInt v_30 ∧ Int32.toInt v_30 ≤ 5 := by rw [ev_30]; exact te_2r i_4 (by omega) (by omega)
        try have f_33 : 0 ≤ Int32.toInt v_30 ∧ Int32.toInt v_30 ≤ 1 := by rw [ev_30]; exact te_2h i_4 (by omega) (by omega)
        try have f_34 : 0 ≤ Int32.toInt v_30 ∧ Int32.toInt v_30 ≤ 5 := by rw [ev_30]; exact te_2s i_4 (by omega) (by omega)
        try have f_35 : 0 ≤ Int32.toInt v_30 ∧ Int32.toInt v_30 ≤ 400 := by rw [ev_30]; exact te_2z i_4 (by omega) (by omega)
        have f_36 : 0 ≤ Int32.toInt (q_2.1 2 29) ∧ Int32.toInt (q_2.1 2 29) ≤ 6 := i_4.1 2 29
        have w_37 : Int32.toInt (q_2.1 2 29) = Int32.toInt (q.1 2 29) := by rw [i_5.1 2 (by decide) (by decide)]
        refine dOk_B (ok_rankBehind q_2 p1 v_30 i_4 (show 1 ≤ Int32.toInt p1 ∧ Int32.toInt p1 ≤ Int32.toInt (q_2.1 2 29) by omega)) (fun r_38 q_39 h_40 => ?_)
        replace h_40 : (q_39 = q_2) ∧ ((0 ≤ Int32.toInt v_30 ∧ Int32.toInt v_30 < Int32.toInt (q_2.1 2 29) ∧ 0 ≤ Int32.toInt r_38 ∧ Int32.toInt r_38 ≤ 5) ∨ ((Int32.toInt v_30 < 0 ∨ Int32.toInt (q_2.1 2 29) ≤ Int32.toInt v_30) ∧ Int32.toInt r_38 = -1)) := h_40
        obtain ⟨i_41, i_42⟩ := h_40
        subst q_39
        try have t_43 : Int32.toInt (14 + 2 * x3_13 + 1) = Int32.toInt (14 + 2 * x3_13) + 1 := ti_add rfl (by decide) (by omega) (by omega)
        refine dOk_G (dg_ok (show 0 ≤ Int32.toInt (14 + 2 * x3_13 + 1) by omega) (show Int32.toInt (14 + 2 * x3_13 + 1) < ((5640 : Nat) : Int) by omega)) ?_
        have n_44 : ((Int32.toNatClampNeg (14 + 2 * x3_13 + 1) : Nat) : Int) = Int32.toInt (14 + 2 * x3_13 + 1) := cl_eq (by omega)
        refine dOk_L (fun v_45 ev_45 => ?_)
        try have g_46 : klo (Int32.toNatClampNeg (14 + 2 * x3_13 + 1)) ≤ Int32.toInt v_45 ∧ Int32.toInt v_45 ≤ khi (Int32.toNatClampNeg (14 + 2 * x3_13 + 1)) := by rw [ev_45]; exact te_k i_4 _
        try have f_47 : 0 ≤ Int32.toInt v_45 ∧ Int32.toInt v_45 ≤ 5 := by rw [ev_45]; exact te_2r i_4 (by omega) (by omega)
        try have f_48 : 0 ≤ Int32.toInt v_45 ∧ Int32.toInt v_45 ≤ 1 := by rw [ev_45]; exact te_2h i_4 (by omega) (by omega)
        try have f_49 : 0 ≤ Int32.toInt v_45 ∧ Int32.toInt v_45 ≤ 5 := by rw [ev_45]; exact te_2s i_4 (by omega) (by omega)
        try have f_50 : 0 ≤ Int32.toInt v_45 ∧ Int32.toInt v_45 ≤ 400 := by rw [ev_45]; exact te_2z i_4 (by omega) (by omega)
        refine dOk_eq (A := Int32.toInt r_38) (B := Int32.toInt v_45) rfl rfl (fun c_51z c_51 => ?_) (fun c_52z c_52 => ?_)
        · unfold zX10_itWas_60
          try have t_54 : Int32.toInt (x3_13 + 1) = Int32.toInt x3_13 + 1 := ti_add rfl (by decide) (by omega) (by omega)
          exact hk_8 (q_2, p1, 1, (x3_13 + 1)) (show (q_2 = q_2) ∧ (p1 = p1) ∧ (0 ≤ Int32.toInt (x3_13 + 1)) ∧ (Int32.toInt (x3_13 + 1) ≤ 6) ∧ ((1 : Int) = 0 ∨ (1 : Int) = 1) from ⟨rfl, rfl, by omega, by omega, by omega⟩) (show (6 - Int32.toInt (x3_13 + 1)).toNat < (6 - Int32.toInt x3_13).toNat by omega)
        · unfold zX10_itWas_60
          try have t_55 : Int32.toInt (x3_13 + 1) = Int32.toInt x3_13 + 1 := ti_add rfl (by decide) (by omega) (by omega)
          exact hk_8 (q_2, p1, 0, (x3_13 + 1)) (show (q_2 = q_2) ∧ (p1 = p1) ∧ (0 ≤ Int32.toInt (x3_13 + 1)) ∧ (Int32.toInt (x3_13 + 1) ≤ 6) ∧ ((0 : Int) = 0 ∨ (0 : Int) = 1) from ⟨rfl, rfl, by omega, by omega, by omega⟩) (show (6 - Int32.toInt (x3_13 + 1)).toNat < (6 - Int32.toInt x3_13).toNat by omega)
  · exact (show (q_2 = q_2) ∧ (p1 = p1) ∧ (0 ≤ (0 : Int)) ∧ ((0 : Int) ≤ 6) ∧ (Int32.toInt r_1 = 0 ∨ Int32.toInt r_1 = 1) from ⟨rfl, rfl, by omega, by omega, by omega⟩)
  · show (6 - (0 : Int)).toNat < 1000000000000
    omega

set_option maxHeartbeats 4000000 in
set_option maxRecDepth 100000 in
theorem ok_was (q : dS) (hT : TS q) : dOk (zX10_was q) (fun (o : Int32 × dS) => (TS o.2) ∧ (dFr [12] [22, 23, 24, 25] q o.2)) := by
  unfold zX10_was
  unfold zX10_was_4
  refine dFix_ok (fun (a : dS × Int32 × Int32) => (TS a.1) ∧ (dFr [12] [22, 23, 24, 25] q a.1) ∧ (1 ≤ Int32.toInt a.2.2) ∧ (Int32.toInt a.2.2 ≤ 7)) (fun (a : dS × Int32 × Int32) => (7 - Int32.toInt a.2.2).toNat) ?_ _ ?_ _ (dF_gt ?_)
  · intro a ha k_2 hk_1
    obtain ⟨q_3, x1_4, x2_5⟩ := a
    replace ha : (TS q_3) ∧ (dFr [12] [22, 23, 24, 25] q q_3) ∧ (1 ≤ Int32.toInt x2_5) ∧ (Int32.toInt x2_5 ≤ 7) := ha
    obtain ⟨a_6, a_7, a_8, a_9⟩ := ha
    show dOk (zX10_was_4b  (fun q x1 x2 => k_2 (q, x1, x2)) q_3 x1_4 x2_5) _
    unfold zX10_was_4b
    have hFq_3 : dFr [12] [22, 23, 24, 25] q q_3 := (dFr.rf (q := q)).t a_7 (by decide) (by decide)
    refine dOk_B (ok_size q_3 a_6) (fun r_10 q_11 h_12 => ?_)
    replace h_12 : (q_11 = q_3) ∧ (Int32.toInt r_10 = Int32.toInt (q_3.1 2 29)) ∧ (0 ≤ Int32.toInt r_10 ∧ Int32.toInt r_10 ≤ 6) := h_12
    obtain ⟨i_13, i_14, i_15⟩ := h_12
    subst q_11
    have f_16 : 0 ≤ Int32.toInt (q_3.1 2 29) ∧ Int32.toInt (q_3.1 2 29) ≤ 6 := a_6.1 2 29
    have f_17 : 0 ≤ Int32.toInt (q.1 2 29) ∧ Int32.toInt (q.1 2 29) ≤ 6 := hT.1 2 29
    have w_18 : Int32.toInt (q_3.1 2 29) = Int32.toInt (q.1 2 29) := by rw [a_7.1 2 (by decide) (by decide)]
    refine dOk_lt (A := Int32.toInt r_10) (B := Int32.toInt x2_5) rfl rfl (fun c_19 => ?_) (fun c_20 => ?_)
    · exact dOk_some (show (TS q_3) ∧ (dFr [12] [22, 23, 24, 25] q q_3) from ⟨a_6, hFq_3⟩)
    · refine dOk_B (ok_itWas q_3 x2_5 a_6 (show 1 ≤ Int32.toInt x2_5 ∧ Int32.toInt x2_5 ≤ Int32.toInt (q_3.1 2 29) by omega)) (fun r_21 q_22 h_23 => ?_)
      replace h_23 : (TS q_22) ∧ (dFr [12] [22, 23, 24, 25] q_3 q_22) ∧ ((Int32.toInt r_21 = 0 ∨ Int32.toInt r_21 = 1)) := h_23
      obtain ⟨i_24, i_25, i_26⟩ := h_23
      have hFq_22 : dFr [12] [22, 23, 24, 25] q q_22 := hFq_3.t i_25 (by decide) (by decide)
      refine dOk_eq (A := Int32.toInt r_21) (B := 0) rfl (by decide) (fun c_27z c_27 => ?_) (fun c_28z c_28 => ?_)
      · unfold zX10_was_28
        try have t_30 := ti_or (x := x1_4) (y := 0) 6 (by decide) (by omega) (by omega) (by omega) (by omega)
        try have t_31 : Int32.toInt (x2_5 + 1) = Int32.toInt x2_5 + 1 := ti_add rfl (by decide) (by omega) (by omega)
        exact hk_1 (q_22, (x1_4 ||| 0), (x2_5 + 1)) (show (TS q_22) ∧ (dFr [12] [22, 23, 24, 25] q q_22) ∧ (1 ≤ Int32.toInt (x2_5 + 1)) ∧ (Int32.toInt (x2_5 + 1) ≤ 7) from ⟨i_24, ((((dFr.rf : dFr [12] [22, 23, 24, 25] q q).t a_7 (by decide) (by decide)) : dFr [12] [22, 23, 24, 25] q q_3).t i_25 (by decide) (by decide)), by omega, by omega⟩) (show (7 - Int32.toInt (x2_5 + 1)).toNat < (7 - Int32.toInt x2_5).toNat by omega)
      · unfold zX10_was_28
        try have t_32 := ti_shlP (s := x2_5) (by omega) (by omega)
        try have t_33 := ti_shl5 (x := 1) (s := x2_5) (by decide) (by decide) (by omega) (by omega)
        try have t_34 := ti_shl6 (x := 1) (s := x2_5) (by decide) (by decide) (by omega) (by omega)
        try have t_35 := ti_or (x := x1_4) (y := 1 <<< ((x2_5 : Int32) &&& 31)) 6 (by decide) (by omega) (by omega) (by omega) (by omega)
        try have t_36 : Int32.toInt (x2_5 + 1) = Int32.toInt x2_5 + 1 := ti_add rfl (by decide) (by omega) (by omega)
        exact hk_1 (q_22, (x1_4 ||| 1 <<< ((x2_5 : Int32) &&& 31)), (x2_5 + 1)) (show (TS q_22) ∧ (dFr [12] [22, 23, 24, 25] q q_22) ∧ (1 ≤ Int32.toInt (x2_5 + 1)) ∧ (Int32.toInt (x2_5 + 1) ≤ 7) from ⟨i_24, ((((dFr.rf : dFr [12] [22, 23, 24, 25] q q).t a_7 (by decide) (by decide)) : dFr [12] [22, 23, 24, 25] q q_3).t i_25 (by decide) (by decide)), by omega, by omega⟩) (show (7 - Int32.toInt (x2_5 + 1)).toNat < (7 - Int32.toInt x2_5).toNat by omega)
  · exact (show (TS q) ∧ (dFr [12] [22, 23, 24, 25] q q) ∧ (1 ≤ (1 : Int)) ∧ ((1 : Int) ≤ 7) from ⟨hT, dFr.rf, by omega, by omega⟩)
  · show (7 - (1 : Int)).toNat < 1000000000000
    omega
