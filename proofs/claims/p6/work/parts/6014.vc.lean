set_option maxHeartbeats 4000000 in
set_option maxRecDepth 100000 in
theorem ok_X7_beginClause_s25 (q : dK) (p1 : Int32) (hT : TC q) : dOk (zX7_beginClause_s25 q p1) (fun (o : dK) => (TC o) ∧ (cFr [26, 27, 28, 29, 30] [(25, 6)] q o)) := by
  unfold zX7_beginClause_s25
  have f_1 : 0 ≤ Int32.toInt (q.1 25 6) ∧ Int32.toInt (q.1 25 6) ≤ 12 := rg_25_6 hT
  refine dOk_le (A := 12) (B := Int32.toInt (q.1 25 6)) (by decide) rfl (fun c_2 => ?_) (fun c_3 => ?_)
  · unfold zX7_beginClause_s25_81
    exact dOk_some (show (TC q) ∧ (cFr [26, 27, 28, 29, 30] [(25, 6)] q q) from ⟨hT, (cFr.rf (q := q))⟩)
  · refine dOk_G (dg_ok (show 0 ≤ Int32.toInt (q.1 25 6) by omega) (show Int32.toInt (q.1 25 6) < ((12 : Nat) : Int) by omega)) ?_
    have n_4 : ((Int32.toNatClampNeg (q.1 25 6) : Nat) : Int) = Int32.toInt (q.1 25 6) := cl_eq (by omega)
    refine dOk_L (fun q_5 eq_5 => ?_)
    have hTq_5 : TC q_5 := by rw [eq_5]; exact sa_26 hT
    have hFq_5 : cFr [26, 27, 28, 29, 30] [(25, 6)] q q_5 := by rw [eq_5]; exact (cFr.rf (q := q)).i (by decide)
    have f_6 : 0 ≤ Int32.toInt (q_5.1 25 6) ∧ Int32.toInt (q_5.1 25 6) ≤ 12 := rg_25_6 hTq_5
    try have w_7 : Int32.toInt (q_5.1 25 6) = Int32.toInt (q.1 25 6) := by rw [eq_5, cui_o (by decide)]
    refine dOk_G (dg_ok (show 0 ≤ Int32.toInt (q_5.1 25 6) by omega) (show Int32.toInt (q_5.1 25 6) < ((12 : Nat) : Int) by omega)) ?_
    have n_8 : ((Int32.toNatClampNeg (q_5.1 25 6) : Nat) : Int) = Int32.toInt (q_5.1 25 6) := cl_eq (by omega)
    refine dOk_L (fun q_9 eq_9 => ?_)
    have hTq_9 : TC q_9 := by rw [eq_9]; exact sa_27 hTq_5
    have hFq_9 : cFr [26, 27, 28, 29, 30] [(25, 6)] q q_9 := by rw [eq_9]; exact hFq_5.i (by decide)
    have f_10 : 0 ≤ Int32.toInt (q_9.1 25 6) ∧ Int32.toInt (q_9.1 25 6) ≤ 12 := rg_25_6 hTq_9
    try have w_11 : Int32.toInt (q_9.1 25 6) = Int32.toInt (q_5.1 25 6) := by rw [eq_9, cui_o (by decide)]
    refine dOk_G (dg_ok (show 0 ≤ Int32.toInt (q_9.1 25 6) by omega) (show Int32.toInt (q_9.1 25 6) < ((12 : Nat) : Int) by omega)) ?_
    have n_12 : ((Int32.toNatClampNeg (q_9.1 25 6) : Nat) : Int) = Int32.toInt (q_9.1 25 6) := cl_eq (by omega)
    refine dOk_L (fun q_13 eq_13 => ?_)
    have f_14 : 0 ≤ Int32.toInt (q_9.1 25 7) ∧ Int32.toInt (q_9.1 25 7) ≤ 400 := rg_25_7 hTq_9
    have f_15 : 0 ≤ Int32.toInt (q_5.1 25 7) ∧ Int32.toInt (q_5.1 25 7) ≤ 400 := rg_25_7 hTq_5
    have f_16 : 0 ≤ Int32.toInt (q.1 25 7) ∧ Int32.toInt (q.1 25 7) ≤ 400 := rg_25_7 hT
    try have w_17 : Int32.toInt (q_5.1 25 7) = Int32.toInt (q.1 25 7) := by rw [eq_5, cui_o (by decide)]
    try have w_18 : Int32.toInt (q_9.1 25 7) = Int32.toInt (q_5.1 25 7) := by rw [eq_9, cui_o (by decide)]
    have hTq_13 : TC q_13 := by rw [eq_13]; exact st_28 hTq_9 (show (0 : Int) ≤ Int32.toInt (q_9.1 25 7) by omega) (show Int32.toInt (q_9.1 25 7) ≤ (400 : Int) by omega)
    have hFq_13 : cFr [26, 27, 28, 29, 30] [(25, 6)] q q_13 := by rw [eq_13]; exact hFq_9.i (by decide)
    have f_19 : 0 ≤ Int32.toInt (q_13.1 25 6) ∧ Int32.toInt (q_13.1 25 6) ≤ 12 := rg_25_6 hTq_13
    try have w_20 : Int32.toInt (q_13.1 25 6) = Int32.toInt (q_9.1 25 6) := by rw [eq_13, cui_o (by decide)]
    refine dOk_G (dg_ok (show 0 ≤ Int32.toInt (q_13.1 25 6) by omega) (show Int32.toInt (q_13.1 25 6) < ((12 : Nat) : Int) by omega)) ?_
    have n_21 : ((Int32.toNatClampNeg (q_13.1 25 6) : Nat) : Int) = Int32.toInt (q_13.1 25 6) := cl_eq (by omega)
    refine dOk_L (fun q_22 eq_22 => ?_)
    have f_23 : 0 ≤ Int32.toInt (q_13.1 25 7) ∧ Int32.toInt (q_13.1 25 7) ≤ 400 := rg_25_7 hTq_13
    try have w_24 : Int32.toInt (q_13.1 25 7) = Int32.toInt (q_9.1 25 7) := by rw [eq_13, cui_o (by decide)]
    have hTq_22 : TC q_22 := by rw [eq_22]; exact st_29 hTq_13 (show (0 : Int) ≤ Int32.toInt (q_13.1 25 7) by omega) (show Int32.toInt (q_13.1 25 7) ≤ (400 : Int) by omega)
    have hFq_22 : cFr [26, 27, 28, 29, 30] [(25, 6)] q q_22 := by rw [eq_22]; exact hFq_13.i (by decide)
    have f_25 : 0 ≤ Int32.toInt (q_22.1 25 6) ∧ Int32.toInt (q_22.1 25 6) ≤ 12 := rg_25_6 hTq_22
    try have w_26 : Int32.toInt (q_22.1 25 6) = Int32.toInt (q_13.1 25 6) := by rw [eq_22, cui_o (by decide)]
    refine dOk_G (dg_ok (show 0 ≤ Int32.toInt (q_22.1 25 6) by omega) (show Int32.toInt (q_22.1 25 6) < ((12 : Nat) : Int) by omega)) ?_
    have n_27 : ((Int32.toNatClampNeg (q_22.1 25 6) : Nat) : Int) = Int32.toInt (q_22.1 25 6) := cl_eq (by omega)
    refine dOk_L (fun q_28 eq_28 => ?_)
    have f_29 : 0 ≤ Int32.toInt (q_22.1 25 7) ∧ Int32.toInt (q_22.1 25 7) ≤ 400 := rg_25_7 hTq_22
    try have w_30 : Int32.toInt (q_22.1 25 7) = Int32.toInt (q_13.1 25 7) := by rw [eq_22, cui_o (by decide)]
    have hTq_28 : TC q_28 := by rw [eq_28]; exact st_30 hTq_22 (show (0 : Int) ≤ Int32.toInt (q_22.1 25 7) by omega) (show Int32.toInt (q_22.1 25 7) ≤ (400 : Int) by omega)
    have hFq_28 : cFr [26, 27, 28, 29, 30] [(25, 6)] q q_28 := by rw [eq_28]; exact hFq_22.i (by decide)
    refine dOk_L (fun q_31 eq_31 => ?_)
    have f_32 : 0 ≤ Int32.toInt (q_28.1 25 6) ∧ Int32.toInt (q_28.1 25 6) ≤ 12 := rg_25_6 hTq_28
    try have w_33 : Int32.toInt (q_28.1 25 6) = Int32.toInt (q_22.1 25 6) := by rw [eq_28, cui_o (by decide)]
    try have t_34 : Int32.toInt (q_28.1 25 6 + 1) = Int32.toInt (q_28.1 25 6) + 1 := ti_add rfl (by decide) (by omega) (by omega)
    have hTq_31 : TC q_31 := by rw [eq_31]; exact st_25_6 hTq_28 (show (0 : Int) ≤ Int32.toInt (q_28.1 25 6 + 1) by omega) (show Int32.toInt (q_28.1 25 6 + 1) ≤ (12 : Int) by omega)
    have hFq_31 : cFr [26, 27, 28, 29, 30] [(25, 6)] q q_31 := by rw [eq_31]; exact hFq_28.f (by decide)
    unfold zX7_beginClause_s25_81
    exact dOk_some (show (TC q_31) ∧ (cFr [26, 27, 28, 29, 30] [(25, 6)] q q_31) from ⟨hTq_31, hFq_31⟩)

set_option maxHeartbeats 4000000 in
set_option maxRecDepth 100000 in
theorem ok_X7_endSum_s25 (q : dK) (hT : TC q) : dOk (zX7_endSum_s25 q) (fun (o : dK) => (TC o) ∧ (cFr [29, 30] [] q o)) := by
  unfold zX7_endSum_s25
  have f_1 : 0 ≤ Int32.toInt (q.1 25 6) ∧ Int32.toInt (q.1 25 6) ≤ 12 := rg_25_6 hT
  refine dOk_le (A := Int32.toInt (q.1 25 6)) (B := 0) rfl (by decide) (fun c_2 => ?_) (fun c_3 => ?_)
  · unfold zX7_endSum_s25_37
    exact dOk_some (show (TC q) ∧ (cFr [29, 30] [] q q) from ⟨hT, (cFr.rf (q := q))⟩)
  · try have t_4 : Int32.toInt (q.1 25 6 - 1) = Int32.toInt (q.1 25 6) - 1 := ti_sub rfl (by decide) (by omega) (by omega)
    refine dOk_G (dg_ok (show 0 ≤ Int32.toInt (q.1 25 6 - 1) by omega) (show Int32.toInt (q.1 25 6 - 1) < ((12 : Nat) : Int) by omega)) ?_
    have n_5 : ((Int32.toNatClampNeg (q.1 25 6 - 1) : Nat) : Int) = Int32.toInt (q.1 25 6 - 1) := cl_eq (by omega)
    refine dOk_L (fun q_6 eq_6 => ?_)
    have f_7 : 0 ≤ Int32.toInt (q.1 25 7) ∧ Int32.toInt (q.1 25 7) ≤ 400 := rg_25_7 hT
    have hTq_6 : TC q_6 := by rw [eq_6]; exact st_29 hT (show (0 : Int) ≤ Int32.toInt (q.1 25 7) by omega) (show Int32.toInt (q.1 25 7) ≤ (400 : Int) by omega)
    have hFq_6 : cFr [29, 30] [] q q_6 := by rw [eq_6]; exact (cFr.rf (q := q)).i (by decide)
    have f_8 : 0 ≤ Int32.toInt (q_6.1 25 6) ∧ Int32.toInt (q_6.1 25 6) ≤ 12 := rg_25_6 hTq_6
    try have w_9 : Int32.toInt (q_6.1 25 6) = Int32.toInt (q.1 25 6) := by rw [eq_6, cui_o (by decide)]
    try have t_10 : Int32.toInt (q_6.1 25 6 - 1) = Int32.toInt (q_6.1 25 6) - 1 := ti_sub rfl (by decide) (by omega) (by omega)
    refine dOk_G (dg_ok (show 0 ≤ Int32.toInt (q_6.1 25 6 - 1) by omega) (show Int32.toInt (q_6.1 25 6 - 1) < ((12 : Nat) : Int) by omega)) ?_
    have n_11 : ((Int32.toNatClampNeg (q_6.1 25 6 - 1) : Nat) : Int) = Int32.toInt (q_6.1 25 6 - 1) := cl_eq (by omega)
    refine dOk_L (fun q_12 eq_12 => ?_)
    have f_13 : 0 ≤ Int32.toInt (q_6.1 25 7) ∧ Int32.toInt (q_6.1 25 7) ≤ 400 := rg_25_7 hTq_6
    try have w_14 : Int32.toInt (q_6.1 25 7) = Int32.toInt (q.1 25 7) := by rw [eq_6, cui_o (by decide)]
    have hTq_12 : TC q_12 := by rw [eq_12]; exact st_30 hTq_6 (show (0 : Int) ≤ Int32.toInt (q_6.1 25 7) by omega) (show Int32.toInt (q_6.1 25 7) ≤ (400 : Int) by omega)
    have hFq_12 : cFr [29, 30] [] q q_12 := by rw [eq_12]; exact hFq_6.i (by decide)
    unfold zX7_endSum_s25_37
    exact dOk_some (show (TC q_12) ∧ (cFr [29, 30] [] q q_12) from ⟨hTq_12, hFq_12⟩)

set_option maxHeartbeats 4000000 in
set_option maxRecDepth 100000 in
theorem ok_X7_endTest_s25 (q : dK) (hT : TC q) : dOk (zX7_endTest_s25 q) (fun (o : dK) => (TC o) ∧ (cFr [30] [] q o)) := by
  unfold zX7_endTest_s25
  have f_1 : 0 ≤ Int32.toInt (q.1 25 6) ∧ Int32.toInt (q.1 25 6) ≤ 12 := rg_25_6 hT
  refine dOk_le (A := Int32.toInt (q.1 25 6)) (B := 0) rfl (by decide) (fun c_2 => ?_) (fun c_3 => ?_)
  · unfold zX7_endTest_s25_22
    exact dOk_some (show (TC q) ∧ (cFr [30] [] q q) from ⟨hT, (cFr.rf (q := q))⟩)
  · try have t_4 : Int32.toInt (q.1 25 6 - 1) = Int32.toInt (q.1 25 6) - 1 := ti_sub rfl (by decide) (by omega) (by omega)
    refine dOk_G (dg_ok (show 0 ≤ Int32.toInt (q.1 25 6 - 1) by omega) (show Int32.toInt (q.1 25 6 - 1) < ((12 : Nat) : Int) by omega)) ?_
    have n_5 : ((Int32.toNatClampNeg (q.1 25 6 - 1) : Nat) : Int) = Int32.toInt (q.1 25 6 - 1) := cl_eq (by omega)
    refine dOk_L (fun q_6 eq_6 => ?_)
    have f_7 : 0 ≤ Int32.toInt (q.1 25 7) ∧ Int32.toInt (q.1 25 7) ≤ 400 := rg_25_7 hT
    have hTq_6 : TC q_6 := by rw [eq_6]; exact st_30 hT (show (0 : Int) ≤ Int32.toInt (q.1 25 7) by omega) (show Int32.toInt (q.1 25 7) ≤ (400 : Int) by omega)
    have hFq_6 : cFr [30] [] q q_6 := by rw [eq_6]; exact (cFr.rf (q := q)).i (by decide)
    unfold zX7_endTest_s25_22
    exact dOk_some (show (TC q_6) ∧ (cFr [30] [] q q_6) from ⟨hTq_6, hFq_6⟩)

set_option maxHeartbeats 4000000 in
set_option maxRecDepth 100000 in
theorem ok_X7_setTimes_s25 (q : dK) (p1 : Int32) (hT : TC q) : dOk (zX7_setTimes_s25 q p1) (fun (o : dK) => (TC o) ∧ (cFr [27] [] q o)) := by
  unfold zX7_setTimes_s25
  have f_1 : 0 ≤ Int32.toInt (q.1 25 6) ∧ Int32.toInt (q.1 25 6) ≤ 12 := rg_25_6 hT
  refine dOk_le (A := Int32.toInt (q.1 25 6)) (B := 0) rfl (by decide) (fun c_2 => ?_) (fun c_3 => ?_)
  · unfold zX7_setTimes_s25_19
    exact dOk_some (show (TC q) ∧ (cFr [27] [] q q) from ⟨hT, (cFr.rf (q := q))⟩)
  · try have t_4 : Int32.toInt (q.1 25 6 - 1) = Int32.toInt (q.1 25 6) - 1 := ti_sub rfl (by decide) (by omega) (by omega)
    refine dOk_G (dg_ok (show 0 ≤ Int32.toInt (q.1 25 6 - 1) by omega) (show Int32.toInt (q.1 25 6 - 1) < ((12 : Nat) : Int) by omega)) ?_
    have n_5 : ((Int32.toNatClampNeg (q.1 25 6 - 1) : Nat) : Int) = Int32.toInt (q.1 25 6 - 1) := cl_eq (by omega)
    refine dOk_L (fun q_6 eq_6 => ?_)
    have hTq_6 : TC q_6 := by rw [eq_6]; exact sa_27 hT
    have hFq_6 : cFr [27] [] q q_6 := by rw [eq_6]; exact (cFr.rf (q := q)).i (by decide)
    unfold zX7_setTimes_s25_19
    exact dOk_some (show (TC q_6) ∧ (cFr [27] [] q q_6) from ⟨hTq_6, hFq_6⟩)

set_option maxHeartbeats 4000000 in
set_option maxRecDepth 100000 in
theorem ok_X9_seen_s0 (q : dK) (p1 : Int32) (p2 : Int32) (hT : TC q) : dOk (zX9_seen_s0 q p1 p2) (fun (o : Int32 × dK) => (TC o.2) ∧ (cFr [5, 6, 48] [(0, 18), (1, 6)] q o.2) ∧ ((0 ≤ Int32.toInt p1 ∧ Int32.toInt p1 ≤ 5 ∧ 0 ≤ Int32.toInt p2 ∧ Int32.toInt p2 ≤ 5 ∧ Int32.toInt (q.1 1 6) < 6 ∧ Int32.toInt (o.2.1 1 6) = Int32.toInt (q.1 1 6) + 1 ∧ Int32.toInt o.1 = Int32.toInt (q.1 1 6) + 1) ∨ (0 ≤ Int32.toInt p1 ∧ Int32.toInt p1 ≤ 5 ∧ 0 ≤ Int32.toInt p2 ∧ Int32.toInt p2 ≤ 5 ∧ 6 ≤ Int32.toInt (q.1 1 6) ∧ Int32.toInt (o.2.1 1 6) = Int32.toInt (q.1 1 6) ∧ Int32.toInt o.1 = -5) ∨ ((Int32.toInt p1 < 0 ∨ 5 < Int32.toInt p1 ∨ Int32.toInt p2 < 0 ∨ 5 < Int32.toInt p2) ∧ Int32.toInt (o.2.1 1 6) = Int32.toInt (q.1 1 6) ∧ Int32.toInt o.1 = -1))) := by
  unfold zX9_seen_s0
  refine dOk_lt (A := Int32.toInt p1) (B := 0) rfl (by decide) (fun c_1 => ?_) (fun c_2 => ?_)
  · unfold zX9_seen_s0_17
    refine dOk_B (ok_X9_refuse_s0 q (-1) hT) (fun r_3 q_4 h_5 => ?_)
    replace h_5 : (TC q_4) ∧ (cFr [48] [(0, 18)] q q_4) ∧ (Int32.toInt r_3 = (-1 : Int)) := h_5
    obtain ⟨i_6, i_7, i_8⟩ := h_5
    have hFq_4 : cFr [5, 6, 48] [(0, 18), (1, 6)] q q_4 := (cFr.rf (q := q)).t i_7 (by decide) (by decide)
    have f_9 : 0 ≤ Int32.toInt (q.1 1 6) ∧ Int32.toInt (q.1 1 6) ≤ 6 := rg_1_6 hT
    have f_10 : 0 ≤ Int32.toInt (q_4.1 1 6) ∧ Int32.toInt (q_4.1 1 6) ≤ 6 := rg_1_6 i_6
    have w_11 : Int32.toInt (q_4.1 1 6) = Int32.toInt (q.1 1 6) := by rw [i_7.1 1 6 (by decide) (by decide)]
    exact dOk_some (show (TC q_4) ∧ (cFr [5, 6, 48] [(0, 18), (1, 6)] q q_4) ∧ ((0 ≤ Int32.toInt p1 ∧ Int32.toInt p1 ≤ 5 ∧ 0 ≤ Int32.toInt p2 ∧ Int32.toInt p2 ≤ 5 ∧ Int32.toInt (q.1 1 6) < 6 ∧ Int32.toInt (q_4.1 1 6) = Int32.toInt (q.1 1 6) + 1 ∧ Int32.toInt r_3 = Int32.toInt (q.1 1 6) + 1) ∨ (0 ≤ Int32.toInt p1 ∧ Int32.toInt p1 ≤ 5 ∧ 0 ≤ Int32.toInt p2 ∧ Int32.toInt p2 ≤ 5 ∧ 6 ≤ Int32.toInt (q.1 1 6) ∧ Int32.toInt (q_4.1 1 6) = Int32.toInt (q.1 1 6) ∧ Int32.toInt r_3 = -5) ∨ ((Int32.toInt p1 < 0 ∨ 5 < Int32.toInt p1 ∨ Int32.toInt p2 < 0 ∨ 5 < Int32.toInt p2) ∧ Int32.toInt (q_4.1 1 6) = Int32.toInt (q.1 1 6) ∧ Int32.toInt r_3 = -1)) from ⟨i_6, hFq_4, by omega⟩)
  · refine dOk_le (A := 6) (B := Int32.toInt p1) (by decide) rfl (fun c_12 => ?_) (fun c_13 => ?_)
    · unfold zX9_seen_s0_17
      refine dOk_B (ok_X9_refuse_s0 q (-1) hT) (fun r_14 q_15 h_16 => ?_)
      replace h_16 : (TC q_15) ∧ (cFr [48] [(0, 18)] q q_15) ∧ (Int32.toInt r_14 = (-1 : Int)) := h_16
      obtain ⟨i_17, i_18, i_19⟩ := h_16
      have hFq_15 : cFr [5, 6, 48] [(0, 18), (1, 6)] q q_15 := (cFr.rf (q := q)).t i_18 (by decide) (by decide)
      have f_20 : 0 ≤ Int32.toInt (q.1 1 6) ∧ Int32.toInt (q.1 1 6) ≤ 6 := rg_1_6 hT
      have f_21 : 0 ≤ Int32.toInt (q_15.1 1 6) ∧ Int32.toInt (q_15.1 1 6) ≤ 6 := rg_1_6 i_17
      have w_22 : Int32.toInt (q_15.1 1 6) = Int32.toInt (q.1 1 6) := by rw [i_18.1 1 6 (by decide) (by decide)]
      exact dOk_some (show (TC q_15) ∧ (cFr [5, 6, 48] [(0, 18), (1, 6)] q q_15) ∧ ((0 ≤ Int32.toInt p1 ∧ Int32.toInt p1 ≤ 5 ∧ 0 ≤ Int32.toInt p2 ∧ Int32.toInt p2 ≤ 5 ∧ Int32.toInt (q.1 1 6) < 6 ∧ Int32.toInt (q_15.1 1 6) = Int32.toInt (q.1 1 6) + 1 ∧ Int32.toInt r_14 = Int32.toInt (q.1 1 6) + 1) ∨ (0 ≤ Int32.toInt p1 ∧ Int32.toInt p1 ≤ 5 ∧ 0 ≤ Int32.toInt p2 ∧ Int32.toInt p2 ≤ 5 ∧ 6 ≤ Int32.toInt (q.1 1 6) ∧ Int32.toInt (q_15.1 1 6) = Int32.toInt (q.1 1 6) ∧ Int32.toInt r_14 = -5) ∨ ((Int32.toInt p1 < 0 ∨ 5 < Int32.toInt p1 ∨ Int32.toInt p2 < 0 ∨ 5 < Int32.toInt p2) ∧ Int32.toInt (q_15.1 1 6) = Int32.toInt (q.1 1 6) ∧ Int32.toInt r_14 = -1)) from ⟨i_17, hFq_15, by omega⟩)
    · refine dOk_V (ok_X9_isRank p2) (fun r_23 h_24 => ?_)
      replace h_24 : ((Int32.toInt r_23 = 1 ∧ 0 ≤ Int32.toInt p2 ∧ Int32.toInt p2 ≤ 5) ∨ (Int32.toInt r_23 = 0 ∧ (Int32.toInt p2 < 0 ∨ 5 < Int32.toInt p2))) := h_24
      have i_25 := h_24
      refine dOk_eq (A := Int32.toInt r_23) (B := 0) rfl (by decide) (fun c_26z c_26 => ?_) (fun c_27z c_27 => ?_)
      · unfold zX9_seen_s0_17
        refine dOk_B (ok_X9_refuse_s0 q (-1) hT) (fun r_29 q_30 h_31 => ?_)
        replace h_31 : (TC q_30) ∧ (cFr [48] [(0, 18)] q q_30) ∧ (Int32.toInt r_29 = (-1 : Int)) := h_31
        obtain ⟨i_32, i_33, i_34⟩ := h_31
        have hFq_30 : cFr [5, 6, 48] [(0, 18), (1, 6)] q q_30 := (cFr.rf (q := q)).t i_33 (by decide) (by decide)
        have f_35 : 0 ≤ Int32.toInt (q.1 1 6) ∧ Int32.toInt (q.1 1 6) ≤ 6 := rg_1_6 hT
        have f_36 : 0 ≤ Int32.toInt (q_30.1 1 6) ∧ Int32.toInt (q_30.1 1 6) ≤ 6 := rg_1_6 i_32
        have w_37 : Int32.toInt (q_30.1 1 6) = Int32.toInt (q.1 1 6) := by rw [i_33.1 1 6 (by decide) (by decide)]
        exact dOk_some (show (TC q_30) ∧ (cFr [5, 6, 48] [(0, 18), (1, 6)] q q_30) ∧ ((0 ≤ Int32.toInt p1 ∧ Int32.toInt p1 ≤ 5 ∧ 0 ≤ Int32.toInt p2 ∧ Int32.toInt p2 ≤ 5 ∧ Int32.toInt (q.1 1 6) < 6 ∧ Int32.toInt (q_30.1 1 6) = Int32.toInt (q.1 1 6) + 1 ∧ Int32.toInt r_29 = Int32.toInt (q.1 1 6) + 1) ∨ (0 ≤ Int32.toInt p1 ∧ Int32.toInt p1 ≤ 5 ∧ 0 ≤ Int32.toInt p2 ∧ Int32.toInt p2 ≤ 5 ∧ 6 ≤ Int32.toInt (q.1 1 6) ∧ Int32.toInt (q_30.1 1 6) = Int32.toInt (q.1 1 6) ∧ Int32.toInt r_29 = -5) ∨ ((Int32.toInt p1 < 0 ∨ 5 < Int32.toInt p1 ∨ Int32.toInt p2 < 0 ∨ 5 < Int32.toInt p2) ∧ Int32.toInt (q_30.1 1 6) = Int32.toInt (q.1 1 6) ∧ Int32.toInt r_29 = -1)) from ⟨i_32, hFq_30, by omega⟩)
      · have f_38 : 0 ≤ Int32.toInt (q.1 1 6) ∧ Int32.toInt (q.1 1 6) ≤ 6 := rg_1_6 hT
        refine dOk_lt (A := Int32.toInt (q.1 1 6)) (B := 6) rfl (by decide) (fun c_39 => ?_) (fun c_40 => ?_)
        · refine dOk_G (dg_ok (show 0 ≤ Int32.toInt (q.1 1 6) by omega) (show Int32.toInt (q.1 1 6) < ((6 : Nat) : Int) by omega)) ?_
          have n_41 : ((Int32.toNatClampNeg (q.1 1 6) : Nat) : Int) = Int32.toInt (q.1 1 6) := cl_eq (by omega)
          refine dOk_L (fun q_42 eq_42 => ?_)
          have hTq_42 : TC q_42 := by rw [eq_42]; exact sa_5 hT
          have hFq_42 : cFr [5, 6, 48] [(0, 18), (1, 6)] q q_42 := by rw [eq_42]; exact (cFr.rf (q := q)).i (by decide)
          have f_43 : 0 ≤ Int32.toInt (q_42.1 1 6) ∧ Int32.toInt (q_42.1 1 6) ≤ 6 := rg_1_6 hTq_42
          try have w_44 : Int32.toInt (q_42.1 1 6) = Int32.toInt (q.1 1 6) := by rw [eq_42, cui_o (by decide)]
          refine dOk_G (dg_ok (show 0 ≤ Int32.toInt (q_42.1 1 6) by omega) (show Int32.toInt (q_42.1 1 6) < ((6 : Nat) : Int) by omega)) ?_
          have n_45 : ((Int32.toNatClampNeg (q_42.1 1 6) : Nat) : Int) = Int32.toInt (q_42.1 1 6) := cl_eq (by omega)
          refine dOk_L (fun q_46 eq_46 => ?_)
          have hTq_46 : TC q_46 := by rw [eq_46]; exact sa_6 hTq_42
          have hFq_46 : cFr [5, 6, 48] [(0, 18), (1, 6)] q q_46 := by rw [eq_46]; exact hFq_42.i (by decide)
          refine dOk_L (fun q_47 eq_47 => ?_)
          have f_48 : 0 ≤ Int32.toInt (q_46.1 1 6) ∧ Int32.toInt (q_46.1 1 6) ≤ 6 := rg_1_6 hTq_46
          try have w_49 : Int32.toInt (q_46.1 1 6) = Int32.toInt (q_42.1 1 6) := by rw [eq_46, cui_o (by decide)]
          try have t_50 : Int32.toInt (q_46.1 1 6 + 1) = Int32.toInt (q_46.1 1 6) + 1 := ti_add rfl (by decide) (by omega) (by omega)
          have hTq_47 : TC q_47 := by rw [eq_47]; exact st_1_6 hTq_46 (show (0 : Int) ≤ Int32.toInt (q_46.1 1 6 + 1) by omega) (show Int32.toInt (q_46.1 1 6 + 1) ≤ (6 : Int) by omega)
          have hFq_47 : cFr [5, 6, 48] [(0, 18), (1, 6)] q q_47 := by rw [eq_47]; exact hFq_46.f (by decide)
          have f_51 : 0 ≤ Int32.toInt (q_47.1 1 6) ∧ Int32.toInt (q_47.1 1 6) ≤ 6 := rg_1_6 hTq_47
          have w_52 : Int32.toInt (q_47.1 1 6) = Int32.toInt (q_46.1 1 6 + 1) := by rw [eq_47, cui_e]
          refine dOk_B (ok_X9_accept_s0 q_47 (q_47.1 1 6) hTq_47) (fun r_53 q_54 h_55 => ?_)
          replace h_55 : (TC q_54) ∧ (cFr [] [(0, 18)] q_47 q_54) ∧ (Int32.toInt r_53 = Int32.toInt (q_47.1 1 6)) := h_55
          obtain ⟨i_56, i_57, i_58⟩ := h_55
          have hFq_54 : cFr [5, 6, 48] [(0, 18), (1, 6)] q q_54 := hFq_47.t i_57 (by decide) (by decide)
          have f_59 : 0 ≤ Int32.toInt (q_54.1 1 6) ∧ Int32.toInt (q_54.1 1 6) ≤ 6 := rg_1_6 i_56
          have w_60 : Int32.toInt (q_54.1 1 6) = Int32.toInt (q_47.1 1 6) := by rw [i_57.1 1 6 (by decide) (by decide)]
          exact dOk_some (show (TC q_54) ∧ (cFr [5, 6, 48] [(0, 18), (1, 6)] q q_54) ∧ ((0 ≤ Int32.toInt p1 ∧ Int32.toInt p1 ≤ 5 ∧ 0 ≤ Int32.toInt p2 ∧ Int32.toInt p2 ≤ 5 ∧ Int32.toInt (q.1 1 6) < 6 ∧ Int32.toInt (q_54.1 1 6) = Int32.toInt (q.1 1 6) + 1 ∧ Int32.toInt r_53 = Int32.toInt (q.1 1 6) + 1) ∨ (0 ≤ Int32.toInt p1 ∧ Int32.toInt p1 ≤ 5 ∧ 0 ≤ Int32.toInt p2 ∧ Int32.toInt p2 ≤ 5 ∧ 6 ≤ Int32.toInt (q.1 1 6) ∧ Int32.toInt (q_54.1 1 6) = Int32.toInt (q.1 1 6) ∧ Int32.toInt r_53 = -5) ∨ ((Int32.toInt p1 < 0 ∨ 5 < Int32.toInt p1 ∨ Int32.toInt p2 < 0 ∨ 5 < Int32.toInt p2) ∧ Int32.toInt (q_54.1 1 6) = Int32.toInt (q.1 1 6) ∧ Int32.toInt r_53 = -1)) from ⟨i_56, hFq_54, by omega⟩)
        · refine dOk_B (ok_X9_refuse_s0 q (-5) hT) (fun r_61 q_62 h_63 => ?_)
          replace h_63 : (TC q_62) ∧ (cFr [48] [(0, 18)] q q_62) ∧ (Int32.toInt r_61 = (-5 : Int)) := h_63
          obtain ⟨i_64, i_65, i_66⟩ := h_63
          have hFq_62 : cFr [5, 6, 48] [(0, 18), (1, 6)] q q_62 := (cFr.rf (q := q)).t i_65 (by decide) (by decide)
          have f_67 : 0 ≤ Int32.toInt (q_62.1 1 6) ∧ Int32.toInt (q_62.1 1 6) ≤ 6 := rg_1_6 i_64
          have w_68 : Int32.toInt (q_62.1 1 6) = Int32.toInt (q.1 1 6) := by rw [i_65.1 1 6 (by decide) (by decide)]
          exact dOk_some (show (TC q_62) ∧ (cFr [5, 6, 48] [(0, 18), (1, 6)] q q_62) ∧ ((0 ≤ Int32.toInt p1 ∧ Int32.toInt p1 ≤ 5 ∧ 0 ≤ Int32.toInt p2 ∧ Int32.toInt p2 ≤ 5 ∧ Int32.toInt (q.1 1 6) < 6 ∧ Int32.toInt (q_62.1 1 6) = Int32.toInt (q.1 1 6) + 1 ∧ Int32.toInt r_61 = Int32.toInt (q.1 1 6) + 1) ∨ (0 ≤ Int32.toInt p1 ∧ Int32.toInt p1 ≤ 5 ∧ 0 ≤ Int32.toInt p2 ∧ Int32.toInt p2 ≤ 5 ∧ 6 ≤ Int32.toInt (q.1 1 6) ∧ Int32.toInt (q_62.1 1 6) = Int32.toInt (q.1 1 6) ∧ Int32.toInt r_61 = -5) ∨ ((Int32.toInt p1 < 0 ∨ 5 < Int32.toInt p1 ∨ Int32.toInt p2 < 0 ∨ 5 < Int32.toInt p2) ∧ Int32.toInt (q_62.1 1 6) = Int32.toInt (q.1 1 6) ∧ Int32.toInt r_61 = -1)) from ⟨i_64, hFq_62, by omega⟩)

set_option maxHeartbeats 4000000 in
set_option maxRecDepth 100000 in
theorem ok_X0_keep_s10 (q : dK) (p1 : Int32) (p2 : Int64) (hT : TC q) (hp0 : 0 ≤ Int64.toInt p2) : dOk (zX0_keep_s10 q p1 p2) (fun (o : dK) => (TC o) ∧ (cFr [12] [(10, 2)] q o)) := by
  unfold zX0_keep_s10
  have f_1 : 0 ≤ Int32.toInt (q.1 10 2) ∧ Int32.toInt (q.1 10 2) ≤ 16 := rg_10_2 hT
  refine dOk_lt (A := Int32.toInt (q.1 10 2)) (B := 16) rfl (by decide) (fun c_2 => ?_) (fun c_3 => ?_)
  · unfold zX0_keep_s10_45
    refine dOk_G (dg_ok (show 0 ≤ Int32.toInt (q.1 10 2) by omega) (show Int32.toInt (q.1 10 2) < ((16 : Nat) : Int) by omega)) ?_
    have n_4 : ((Int32.toNatClampNeg (q.1 10 2) : Nat) : Int) = Int32.toInt (q.1 10 2) := cl_eq (by omega)
    refine dOk_L (fun q_5 eq_5 => ?_)
    have hTq_5 : TC q_5 := by rw [eq_5]; exact tc_l hT (fun _ => by omega)
    have hFq_5 : cFr [12] [(10, 2)] q q_5 := by rw [eq_5]; exact (cFr.rf (q := q)).l
    have f_6 : 0 ≤ Int32.toInt (q_5.1 10 2) ∧ Int32.toInt (q_5.1 10 2) ≤ 16 := rg_10_2 hTq_5
    have w_7 : Int32.toInt (q_5.1 10 2) = Int32.toInt (q.1 10 2) := by rw [eq_5, cul_1]
    refine dOk_G (dg_ok (show 0 ≤ Int32.toInt (q_5.1 10 2) by omega) (show Int32.toInt (q_5.1 10 2) < ((16 : Nat) : Int) by omega)) ?_
    have n_8 : ((Int32.toNatClampNeg (q_5.1 10 2) : Nat) : Int) = Int32.toInt (q_5.1 10 2) := cl_eq (by omega)
    refine dOk_L (fun q_9 eq_9 => ?_)
    have hTq_9 : TC q_9 := by rw [eq_9]; exact sa_12 hTq_5
    have hFq_9 : cFr [12] [(10, 2)] q q_9 := by rw [eq_9]; exact hFq_5.i (by decide)
    refine dOk_L (fun q_10 eq_10 => ?_)
    have f_11 : 0 ≤ Int32.toInt (q_9.1 10 2) ∧ Int32.toInt (q_9.1 10 2) ≤ 16 := rg_10_2 hTq_9
    try have w_12 : Int32.toInt (q_9.1 10 2) = Int32.toInt (q_5.1 10 2) := by rw [eq_9, cui_o (by decide)]
    try have t_13 : Int32.toInt (q_9.1 10 2 + 1) = Int32.toInt (q_9.1 10 2) + 1 := ti_add rfl (by decide) (by omega) (by omega)
    have hTq_10 : TC q_10 := by rw [eq_10]; exact st_10_2 hTq_9 (show (0 : Int) ≤ Int32.toInt (q_9.1 10 2 + 1) by omega) (show Int32.toInt (q_9.1 10 2 + 1) ≤ (16 : Int) by omega)
    have hFq_10 : cFr [12] [(10, 2)] q q_10 := by rw [eq_10]; exact hFq_9.f (by decide)
    exact dOk_some (show (TC q_10) ∧ (cFr [12] [(10, 2)] q q_10) from ⟨hTq_10, hFq_10⟩)
  · refine dOk_L (fun q_14 eq_14 => ?_)
    have hTq_14 : TC q_14 := by rw [eq_14]; exact tc_ccl hT (by decide)
    have hFq_14 : cFr [12] [(10, 2)] q q_14 := by rw [eq_14]; exact (cFr.rf (q := q)).h
    refine dOk_L (fun q_15 eq_15 => ?_)
    have hTq_15 : TC q_15 := by rw [eq_15]; exact tc_cci hTq_14 (by decide)
    have hFq_15 : cFr [12] [(10, 2)] q q_15 := by rw [eq_15]; exact hFq_14.c (by decide)
    refine dOk_L (fun q_16 eq_16 => ?_)
    have hTq_16 : TC q_16 := by rw [eq_16]; exact st_10_2 hTq_15 (show (0 : Int) ≤ (15 : Int) by omega) (show (15 : Int) ≤ (16 : Int) by omega)
    have hFq_16 : cFr [12] [(10, 2)] q q_16 := by rw [eq_16]; exact hFq_15.f (by decide)
    unfold zX0_keep_s10_45
    have f_17 : 0 ≤ Int32.toInt (q_16.1 10 2) ∧ Int32.toInt (q_16.1 10 2) ≤ 16 := rg_10_2 hTq_16
    have w_18 : Int32.toInt (q_16.1 10 2) = (15 : Int) := by rw [eq_16, cui_e]; decide
    refine dOk_G (dg_ok (show 0 ≤ Int32.toInt (q_16.1 10 2) by omega) (show Int32.toInt (q_16.1 10 2) < ((16 : Nat) : Int) by omega)) ?_
    have n_19 : ((Int32.toNatClampNeg (q_16.1 10 2) : Nat) : Int) = Int32.toInt (q_16.1 10 2) := cl_eq (by omega)
    refine dOk_L (fun q_20 eq_20 => ?_)
    have hTq_20 : TC q_20 := by rw [eq_20]; exact tc_l hTq_16 (fun _ => by omega)
    have hFq_20 : cFr [12] [(10, 2)] q q_20 := by rw [eq_20]; exact hFq_16.l
    have f_21 : 0 ≤ Int32.toInt (q_20.1 10 2) ∧ Int32.toInt (q_20.1 10 2) ≤ 16 := rg_10_2 hTq_20
    have w_22 : Int32.toInt (q_20.1 10 2) = Int32.toInt (q_16.1 10 2) := by rw [eq_20, cul_1]
    refine dOk_G (dg_ok (show 0 ≤ Int32.toInt (q_20.1 10 2) by omega) (show Int32.toInt (q_20.1 10 2) < ((16 : Nat) : Int) by omega)) ?_
    have n_23 : ((Int32.toNatClampNeg (q_20.1 10 2) : Nat) : Int) = Int32.toInt (q_20.1 10 2) := cl_eq (by omega)
    refine dOk_L (fun q_24 eq_24 => ?_)
    have hTq_24 : TC q_24 := by rw [eq_24]; exact sa_12 hTq_20
    have hFq_24 : cFr [12] [(10, 2)] q q_24 := by rw [eq_24]; exact hFq_20.i (by decide)
    refine dOk_L (fun q_25 eq_25 => ?_)
    have f_26 : 0 ≤ Int32.toInt (q_24.1 10 2) ∧ Int32.toInt (q_24.1 10 2) ≤ 16 := rg_10_2 hTq_24
    try have w_27 : Int32.toInt (q_24.1 10 2) = Int32.toInt (q_20.1 10 2) := by rw [eq_24, cui_o (by decide)]
    try have t_28 : Int32.toInt (q_24.1 10 2 + 1) = Int32.toInt (q_24.1 10 2) + 1 := ti_add rfl (by decide) (by omega) (by omega)
    have hTq_25 : TC q_25 := by rw [eq_25]; exact st_10_2 hTq_24 (show (0 : Int) ≤ Int32.toInt (q_24.1 10 2 + 1) by omega) (show Int32.toInt (q_24.1 10 2 + 1) ≤ (16 : Int) by omega)
    have hFq_25 : cFr [12] [(10, 2)] q q_25 := by rw [eq_25]; exact hFq_24.f (by decide)
    exact dOk_some (show (TC q_25) ∧ (cFr [12] [(10, 2)] q q_25) from ⟨hTq_25, hFq_25⟩)

set_option maxHeartbeats 4000000 in
set_option maxRecDepth 100000 in
theorem ok_X0_mark_s10 (q : dK) (hT : TC q) : dOk (zX0_mark_s10 q) (fun (o : dK) => (TC o) ∧ (cFr [14] [(10, 5)] q o)) := by
  unfold zX0_mark_s10
  refine dOk_L (fun q_1 eq_1 => ?_)
  have hTq_1 : TC q_1 := by rw [eq_1]; exact tc_ccl hT (by decide)
  have hFq_1 : cFr [14] [(10, 5)] q q_1 := by rw [eq_1]; exact (cFr.rf (q := q)).h
  refine dOk_L (fun q_2 eq_2 => ?_)
  have hTq_2 : TC q_2 := by rw [eq_2]; exact tc_cci hTq_1 (by decide)
  have hFq_2 : cFr [14] [(10, 5)] q q_2 := by rw [eq_2]; exact hFq_1.c (by decide)
  refine dOk_L (fun q_3 eq_3 => ?_)
  have f_4 : 0 ≤ Int32.toInt (q_2.1 10 2) ∧ Int32.toInt (q_2.1 10 2) ≤ 16 := rg_10_2 hTq_2
  have f_5 : 0 ≤ Int32.toInt (q_1.1 10 2) ∧ Int32.toInt (q_1.1 10 2) ≤ 16 := rg_10_2 hTq_1
  have f_6 : 0 ≤ Int32.toInt (q.1 10 2) ∧ Int32.toInt (q.1 10 2) ≤ 16 := rg_10_2 hT
  have w_7 : Int32.toInt (q_1.1 10 2) = Int32.toInt (q.1 10 2) := by rw [eq_1]; rfl
  have w_8 : Int32.toInt (q_2.1 10 2) = Int32.toInt (q_1.1 10 2) := by rw [eq_2]; rfl
  have hTq_3 : TC q_3 := by rw [eq_3]; exact st_10_5 hTq_2 (show (0 : Int) ≤ Int32.toInt (q_2.1 10 2) by omega) (show Int32.toInt (q_2.1 10 2) ≤ (16 : Int) by omega)
  have hFq_3 : cFr [14] [(10, 5)] q q_3 := by rw [eq_3]; exact hFq_2.f (by decide)
  exact dOk_some (show (TC q_3) ∧ (cFr [14] [(10, 5)] q q_3) from ⟨hTq_3, hFq_3⟩)

set_option maxHeartbeats 4000000 in
set_option maxRecDepth 100000 in
theorem ok_X0_backToMark_s10 (q : dK) (hT : TC q) : dOk (zX0_backToMark_s10 q) (fun (o : dK) => (TC o) ∧ (cFr [12] [(10, 2)] q o)) := by
  unfold zX0_backToMark_s10
  refine dOk_L (fun q_1 eq_1 => ?_)
  have hTq_1 : TC q_1 := by rw [eq_1]; exact tc_ccl hT (by decide)
  have hFq_1 : cFr [12] [(10, 2)] q q_1 := by rw [eq_1]; exact (cFr.rf (q := q)).h
  refine dOk_L (fun q_2 eq_2 => ?_)
  have hTq_2 : TC q_2 := by rw [eq_2]; exact tc_cci hTq_1 (by decide)
  have hFq_2 : cFr [12] [(10, 2)] q q_2 := by rw [eq_2]; exact hFq_1.c (by decide)
  refine dOk_L (fun q_3 eq_3 => ?_)
  have f_4 : 0 ≤ Int32.toInt (q_2.1 10 5) ∧ Int32.toInt (q_2.1 10 5) ≤ 16 := rg_10_5 hTq_2
  have f_5 : 0 ≤ Int32.toInt (q_1.1 10 5) ∧ Int32.toInt (q_1.1 10 5) ≤ 16 := rg_10_5 hTq_1
  have f_6 : 0 ≤ Int32.toInt (q.1 10 5) ∧ Int32.toInt (q.1 10 5) ≤ 16 := rg_10_5 hT
  have w_7 : Int32.toInt (q_1.1 10 5) = Int32.toInt (q.1 10 5) := by rw [eq_1]; rfl
  have w_8 : Int32.toInt (q_2.1 10 5) = Int32.toInt (q_1.1 10 5) := by rw [eq_2]; rfl
  have hTq_3 : TC q_3 := by rw [eq_3]; exact st_10_2 hTq_2 (show (0 : Int) ≤ Int32.toInt (q_2.1 10 5) by omega) (show Int32.toInt (q_2.1 10 5) ≤ (16 : Int) by omega)
  have hFq_3 : cFr [12] [(10, 2)] q q_3 := by rw [eq_3]; exact hFq_2.f (by decide)
  exact dOk_some (show (TC q_3) ∧ (cFr [12] [(10, 2)] q q_3) from ⟨hTq_3, hFq_3⟩)

set_option maxHeartbeats 4000000 in
set_option maxRecDepth 100000 in
theorem ok_X8_anyBetween_s2 (q : dK) (p1 : Int32) (p2 : Int32) (hT : TC q) : dOk (zX8_anyBetween_s2 q p1 p2) (fun (o : Int32 × dK) => (o.2 = q) ∧ ((Int32.toInt o.1 = 0 ∨ Int32.toInt o.1 = 1))) := by
  unfold zX8_anyBetween_s2
  unfold zX8_anyBetween_s2_2
  refine dFix_ok (fun (a : dK × Int32 × Int32 × Int32) => (a.1 = q) ∧ (a.2.1 = p1) ∧ (a.2.2.1 = p2) ∧ (0 ≤ Int32.toInt a.2.2.2) ∧ (Int32.toInt a.2.2.2 ≤ 6)) (fun (a : dK × Int32 × Int32 × Int32) => (6 - Int32.toInt a.2.2.2).toNat) ?_ _ ?_ _ (dF_gt ?_)
  · intro a ha k_2 hk_1
    obtain ⟨q_3, x1_4, x2_5, x3_6⟩ := a
    replace ha : (q_3 = q) ∧ (x1_4 = p1) ∧ (x2_5 = p2) ∧ (0 ≤ Int32.toInt x3_6) ∧ (Int32.toInt x3_6 ≤ 6) := ha
    obtain ⟨a_7, a_8, a_9, a_10, a_11⟩ := ha
    show dOk (zX8_anyBetween_s2_2b  (fun q x1 x2 x3 => k_2 (q, x1, x2, x3)) q_3 x1_4 x2_5 x3_6) _
    unfold zX8_anyBetween_s2_2b
    subst q_3
    subst x1_4
    subst x2_5
    have f_12 : 0 ≤ Int32.toInt (q.1 2 2) ∧ Int32.toInt (q.1 2 2) ≤ 6 := rg_2_2 hT
    refine dOk_le (A := Int32.toInt (q.1 2 2)) (B := Int32.toInt x3_6) rfl rfl (fun c_13 => ?_) (fun c_14 => ?_)
    · exact dOk_some (show (q = q) ∧ (((0 : Int) = 0 ∨ (0 : Int) = 1)) from ⟨rfl, by omega⟩)
    · refine dOk_G (dg_ok (show 0 ≤ Int32.toInt x3_6 by omega) (show Int32.toInt x3_6 < ((6 : Nat) : Int) by omega)) ?_
      have n_15 : ((Int32.toNatClampNeg x3_6 : Nat) : Int) = Int32.toInt x3_6 := cl_eq (by omega)
      refine dOk_L (fun v_16 ev_16 => ?_)
      have f_17 : 0 ≤ Int32.toInt v_16 ∧ Int32.toInt v_16 ≤ 7 := by rw [ev_16]; exact rg_3 hT _
      refine dOk_le (A := Int32.toInt v_16) (B := Int32.toInt p1) rfl rfl (fun c_18 => ?_) (fun c_19 => ?_)
      · unfold zX8_anyBetween_s2_32
        try have t_20 : Int32.toInt (x3_6 + 1) = Int32.toInt x3_6 + 1 := ti_add rfl (by decide) (by omega) (by omega)
        exact hk_1 (q, p1, p2, (x3_6 + 1)) (show (q = q) ∧ (p1 = p1) ∧ (p2 = p2) ∧ (0 ≤ Int32.toInt (x3_6 + 1)) ∧ (Int32.toInt (x3_6 + 1) ≤ 6) from ⟨rfl, rfl, rfl, by omega, by omega⟩) (show (6 - Int32.toInt (x3_6 + 1)).toNat < (6 - Int32.toInt x3_6).toNat by omega)
      · refine dOk_G (dg_ok (show 0 ≤ Int32.toInt x3_6 by omega) (show Int32.toInt x3_6 < ((6 : Nat) : Int) by omega)) ?_
        refine dOk_L (fun v_21 ev_21 => ?_)
        have w_22 : Int32.toInt v_21 = Int32.toInt v_16 := by rw [ev_21, ev_16]
        have f_23 : 0 ≤ Int32.toInt v_21 ∧ Int32.toInt v_21 ≤ 7 := by rw [ev_21]; exact rg_3 hT _
        refine dOk_le (A := Int32.toInt p2) (B := Int32.toInt v_21) rfl rfl (fun c_24 => ?_) (fun c_25 => ?_)
        · unfold zX8_anyBetween_s2_32
          try have t_26 : Int32.toInt (x3_6 + 1) = Int32.toInt x3_6 + 1 := ti_add rfl (by decide) (by omega) (by omega)
          exact hk_1 (q, p1, p2, (x3_6 + 1)) (show (q = q) ∧ (p1 = p1) ∧ (p2 = p2) ∧ (0 ≤ Int32.toInt (x3_6 + 1)) ∧ (Int32.toInt (x3_6 + 1) ≤ 6) from ⟨rfl, rfl, rfl, by omega, by omega⟩) (show (6 - Int32.toInt (x3_6 + 1)).toNat < (6 - Int32.toInt x3_6).toNat by omega)
        · exact dOk_some (show (q = q) ∧ (((1 : Int) = 0 ∨ (1 : Int) = 1)) from ⟨rfl, by omega⟩)
  · exact (show (q = q) ∧ (p1 = p1) ∧ (p2 = p2) ∧ (0 ≤ (0 : Int)) ∧ ((0 : Int) ≤ 6) from ⟨rfl, rfl, rfl, by omega, by omega⟩)
  · show (6 - (0 : Int)).toNat < 1000000000000
    omega

set_option maxHeartbeats 4000000 in
set_option maxRecDepth 100000 in
theorem ok_X8_gapCount_s2 (q : dK) (hT : TC q) : dOk (zX8_gapCount_s2 q) (fun (o : Int32 × dK) => (o.2 = q)) := by
  unfold zX8_gapCount_s2
  unfold zX8_gapCount_s2_4
  refine dFix_ok (fun (a : dK × Int32 × Int32) => (a.1 = q) ∧ (0 ≤ Int32.toInt a.2.2) ∧ (Int32.toInt a.2.2 ≤ 6)) (fun (a : dK × Int32 × Int32) => (6 - Int32.toInt a.2.2).toNat) ?_ _ ?_ _ (dF_gt ?_)
  · intro a ha k_2 hk_1
    obtain ⟨q_3, x1_4, x2_5⟩ := a
    replace ha : (q_3 = q) ∧ (0 ≤ Int32.toInt x2_5) ∧ (Int32.toInt x2_5 ≤ 6) := ha
    obtain ⟨a_6, a_7, a_8⟩ := ha
    show dOk (zX8_gapCount_s2_4b  (fun q x1 x2 => k_2 (q, x1, x2)) q_3 x1_4 x2_5) _
    unfold zX8_gapCount_s2_4b
    subst q_3
    have f_9 : 0 ≤ Int32.toInt (q.1 2 2) ∧ Int32.toInt (q.1 2 2) ≤ 6 := rg_2_2 hT
    try have t_10 : Int32.toInt (x2_5 + 1) = Int32.toInt x2_5 + 1 := ti_add rfl (by decide) (by omega) (by omega)
    refine dOk_le (A := Int32.toInt (q.1 2 2)) (B := Int32.toInt (x2_5 + 1)) rfl rfl (fun c_11 => ?_) (fun c_12 => ?_)
    · refine dOk_eq (A := Int32.toInt (q.1 2 2)) (B := 0) rfl (by decide) (fun c_13z c_13 => ?_) (fun c_14z c_14 => ?_)
      · unfold zX8_gapCount_s2_97
        exact dOk_some (show (q = q) from rfl)
      · try have t_16 : Int32.toInt (q.1 2 2 - 1) = Int32.toInt (q.1 2 2) - 1 := ti_sub rfl (by decide) (by omega) (by omega)
        refine dOk_G (dg_ok (show 0 ≤ Int32.toInt (q.1 2 2 - 1) by omega) (show Int32.toInt (q.1 2 2 - 1) < ((6 : Nat) : Int) by omega)) ?_
        have n_17 : ((Int32.toNatClampNeg (q.1 2 2 - 1) : Nat) : Int) = Int32.toInt (q.1 2 2 - 1) := cl_eq (by omega)
        refine dOk_L (fun v_18 ev_18 => ?_)
        have f_19 : 0 ≤ Int32.toInt v_18 ∧ Int32.toInt v_18 ≤ 7 := by rw [ev_18]; exact rg_3 hT _
        refine dOk_B (ok_X8_anyBetween_s2 q v_18 6 hT) (fun r_20 q_21 h_22 => ?_)
        replace h_22 : (q_21 = q) ∧ ((Int32.toInt r_20 = 0 ∨ Int32.toInt r_20 = 1)) := h_22
        obtain ⟨i_23, i_24⟩ := h_22
        subst q_21
        refine dOk_V (ok_X9_bit r_20) (fun r_25 h_26 => ?_)
        replace h_26 : ((Int32.toInt r_25 = 0 ∨ Int32.toInt r_25 = 1)) := h_26
        have i_27 := h_26
        unfold zX8_gapCount_s2_97
        try have t_28 : Int32.toInt (x1_4 + r_25) = Int32.toInt x1_4 + Int32.toInt r_25 := ti_add rfl rfl (by omega) (by omega)
        exact dOk_some (show (q = q) from rfl)
    · refine dOk_G (dg_ok (show 0 ≤ Int32.toInt x2_5 by omega) (show Int32.toInt x2_5 < ((6 : Nat) : Int) by omega)) ?_
      have n_29 : ((Int32.toNatClampNeg x2_5 : Nat) : Int) = Int32.toInt x2_5 := cl_eq (by omega)
      refine dOk_L (fun v_30 ev_30 => ?_)
      have f_31 : 0 ≤ Int32.toInt v_30 ∧ Int32.toInt v_30 ≤ 7 := by rw [ev_30]; exact rg_3 hT _
      refine dOk_G (dg_ok (show 0 ≤ Int32.toInt (x2_5 + 1) by omega) (show Int32.toInt (x2_5 + 1) < ((6 : Nat) : Int) by omega)) ?_
      have n_32 : ((Int32.toNatClampNeg (x2_5 + 1) : Nat) : Int) = Int32.toInt (x2_5 + 1) := cl_eq (by omega)
      refine dOk_L (fun v_33 ev_33 => ?_)
      have f_34 : 0 ≤ Int32.toInt v_33 ∧ Int32.toInt v_33 ≤ 7 := by rw [ev_33]; exact rg_3 hT _
      refine dOk_G (dg_ok (show 0 ≤ Int32.toInt x2_5 by omega) (show Int32.toInt x2_5 < ((6 : Nat) : Int) by omega)) ?_
      refine dOk_L (fun v_35 ev_35 => ?_)
      have w_36 : Int32.toInt v_35 = Int32.toInt v_30 := by rw [ev_35, ev_30]
      have f_37 : 0 ≤ Int32.toInt v_35 ∧ Int32.toInt v_35 ≤ 7 := by rw [ev_35]; exact rg_3 hT _
      refine dOk_G (dg_ok (show 0 ≤ Int32.toInt (x2_5 + 1) by omega) (show Int32.toInt (x2_5 + 1) < ((6 : Nat) : Int) by omega)) ?_
      refine dOk_L (fun v_38 ev_38 => ?_)
      have w_39 : Int32.toInt v_38 = Int32.toInt v_33 := by rw [ev_38, ev_33]
      have f_40 : 0 ≤ Int32.toInt v_38 ∧ Int32.toInt v_38 ≤ 7 := by rw [ev_38]; exact rg_3 hT _
      have t_41 : Int32.toInt (mnI v_30 v_33) ≤ Int32.toInt v_30 ∧ Int32.toInt (mnI v_30 v_33) ≤ Int32.toInt v_33 ∧ (Int32.toInt (mnI v_30 v_33) = Int32.toInt v_30 ∨ Int32.toInt (mnI v_30 v_33) = Int32.toInt v_33) := mn_le
      have t_42 : Int32.toInt v_35 ≤ Int32.toInt (mxI v_35 v_38) ∧ Int32.toInt v_38 ≤ Int32.toInt (mxI v_35 v_38) ∧ (Int32.toInt (mxI v_35 v_38) = Int32.toInt v_35 ∨ Int32.toInt (mxI v_35 v_38) = Int32.toInt v_38) := mx_le
      refine dOk_B (ok_X8_anyBetween_s2 q (mnI v_30 v_33) (mxI v_35 v_38) hT) (fun r_43 q_44 h_45 => ?_)
      replace h_45 : (q_44 = q) ∧ ((Int32.toInt r_43 = 0 ∨ Int32.toInt r_43 = 1)) := h_45
      obtain ⟨i_46, i_47⟩ := h_45
      subst q_44
      refine dOk_V (ok_X9_bit r_43) (fun r_48 h_49 => ?_)
      replace h_49 : ((Int32.toInt r_48 = 0 ∨ Int32.toInt r_48 = 1)) := h_49
      have i_50 := h_49
      try have t_51 : Int32.toInt (x1_4 + r_48) = Int32.toInt x1_4 + Int32.toInt r_48 := ti_add rfl rfl (by omega) (by omega)
      exact hk_1 (q, (x1_4 + r_48), (x2_5 + 1)) (show (q = q) ∧ (0 ≤ Int32.toInt (x2_5 + 1)) ∧ (Int32.toInt (x2_5 + 1) ≤ 6) from ⟨rfl, by omega, by omega⟩) (show (6 - Int32.toInt (x2_5 + 1)).toNat < (6 - Int32.toInt x2_5).toNat by omega)
  · exact (show (q = q) ∧ (0 ≤ (0 : Int)) ∧ ((0 : Int) ≤ 6) from ⟨rfl, by omega, by omega⟩)
  · show (6 - (0 : Int)).toNat < 1000000000000
    omega

set_option maxHeartbeats 4000000 in
set_option maxRecDepth 100000 in
theorem ok_X9_gaps_s0 (q : dK) (hT : TC q) : dOk (zX9_gaps_s0 q) (fun (o : Int32 × dK) => (o.2 = q)) := by
  unfold zX9_gaps_s0
  refine dOk_B (ok_X8_gapCount_s2 q hT) (fun r_1 q_2 h_3 => ?_)
  replace h_3 : (q_2 = q) := h_3
  have i_4 := h_3
  subst q_2
  exact dOk_some (show (q = q) from rfl)
