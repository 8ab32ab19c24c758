set_option maxHeartbeats 4000000 in
set_option maxRecDepth 100000 in
theorem ok_X9_refuse_s0 (q : dK) (p1 : Int32) (hT : TC q) : dOk (zX9_refuse_s0 q p1) (fun (o : Int32 × dK) => (TC o.2) ∧ (cFr [48] [(0, 18)] q o.2) ∧ (Int32.toInt o.1 = Int32.toInt p1)) := by
  unfold zX9_refuse_s0
  refine dOk_L (fun q_1 eq_1 => ?_)
  have hTq_1 : TC q_1 := by rw [eq_1]; exact sa_0_18 hT
  have hFq_1 : cFr [48] [(0, 18)] q q_1 := by rw [eq_1]; exact (cFr.rf (q := q)).f (by decide)
  refine dOk_le (A := 0) (B := Int32.toInt p1) (by decide) rfl (fun c_2 => ?_) (fun c_3 => ?_)
  · unfold zX9_refuse_s0_26
    exact dOk_some (show (TC q_1) ∧ (cFr [48] [(0, 18)] q q_1) ∧ (Int32.toInt p1 = Int32.toInt p1) from ⟨hTq_1, hFq_1, by omega⟩)
  · refine dOk_lt (A := Int32.toInt p1) (B := (-6)) rfl (by decide) (fun c_4 => ?_) (fun c_5 => ?_)
    · unfold zX9_refuse_s0_26
      exact dOk_some (show (TC q_1) ∧ (cFr [48] [(0, 18)] q q_1) ∧ (Int32.toInt p1 = Int32.toInt p1) from ⟨hTq_1, hFq_1, by omega⟩)
    · try have t_6 : Int32.toInt ((-p1)) = -Int32.toInt p1 := ti_neg rfl (by omega) (by omega)
      refine dOk_G (dg_ok (show 0 ≤ Int32.toInt (-p1) by omega) (show Int32.toInt (-p1) < ((7 : Nat) : Int) by omega)) ?_
      have n_7 : ((Int32.toNatClampNeg (-p1) : Nat) : Int) = Int32.toInt (-p1) := cl_eq (by omega)
      refine dOk_L (fun v_8 ev_8 => ?_)
      refine dOk_G (dg_ok (show 0 ≤ Int32.toInt (-p1) by omega) (show Int32.toInt (-p1) < ((7 : Nat) : Int) by omega)) ?_
      refine dOk_L (fun q_9 eq_9 => ?_)
      have hTq_9 : TC q_9 := by rw [eq_9]; exact sa_48 hTq_1
      have hFq_9 : cFr [48] [(0, 18)] q q_9 := by rw [eq_9]; exact hFq_1.i (by decide)
      unfold zX9_refuse_s0_26
      exact dOk_some (show (TC q_9) ∧ (cFr [48] [(0, 18)] q q_9) ∧ (Int32.toInt p1 = Int32.toInt p1) from ⟨hTq_9, hFq_9, by omega⟩)

set_option maxHeartbeats 4000000 in
set_option maxRecDepth 100000 in
theorem ok_X8_isFloor_s2 (q : dK) (p1 : Int32) (hT : TC q) : dOk (zX8_isFloor_s2 q p1) (fun (o : Int32 × dK) => (o.2 = q) ∧ ((Int32.toInt o.1 = 1 ∧ 0 ≤ Int32.toInt p1 ∧ Int32.toInt p1 < Int32.toInt (q.1 2 2)) ∨ (Int32.toInt o.1 = 0 ∧ (Int32.toInt p1 < 0 ∨ Int32.toInt (q.1 2 2) ≤ Int32.toInt p1)))) := by
  unfold zX8_isFloor_s2
  refine dOk_lt (A := Int32.toInt p1) (B := 0) rfl (by decide) (fun c_1 => ?_) (fun c_2 => ?_)
  · unfold zX8_isFloor_s2_16
    unfold zX8_isFloor_s2_17
    refine dOk_G (dbl_ok (show (0 : Int) = 0 ∨ (0 : Int) = 1 by omega)) ?_
    have f_3 : 0 ≤ Int32.toInt (q.1 2 2) ∧ Int32.toInt (q.1 2 2) ≤ 6 := rg_2_2 hT
    exact dOk_some (show (q = q) ∧ (((0 : Int) = 1 ∧ 0 ≤ Int32.toInt p1 ∧ Int32.toInt p1 < Int32.toInt (q.1 2 2)) ∨ ((0 : Int) = 0 ∧ (Int32.toInt p1 < 0 ∨ Int32.toInt (q.1 2 2) ≤ Int32.toInt p1))) from ⟨rfl, by omega⟩)
  · have f_4 : 0 ≤ Int32.toInt (q.1 2 2) ∧ Int32.toInt (q.1 2 2) ≤ 6 := rg_2_2 hT
    refine dOk_le (A := Int32.toInt (q.1 2 2)) (B := Int32.toInt p1) rfl rfl (fun c_5 => ?_) (fun c_6 => ?_)
    · unfold zX8_isFloor_s2_16
      unfold zX8_isFloor_s2_17
      refine dOk_G (dbl_ok (show (0 : Int) = 0 ∨ (0 : Int) = 1 by omega)) ?_
      exact dOk_some (show (q = q) ∧ (((0 : Int) = 1 ∧ 0 ≤ Int32.toInt p1 ∧ Int32.toInt p1 < Int32.toInt (q.1 2 2)) ∨ ((0 : Int) = 0 ∧ (Int32.toInt p1 < 0 ∨ Int32.toInt (q.1 2 2) ≤ Int32.toInt p1))) from ⟨rfl, by omega⟩)
    · unfold zX8_isFloor_s2_17
      refine dOk_G (dbl_ok (show (1 : Int) = 0 ∨ (1 : Int) = 1 by omega)) ?_
      exact dOk_some (show (q = q) ∧ (((1 : Int) = 1 ∧ 0 ≤ Int32.toInt p1 ∧ Int32.toInt p1 < Int32.toInt (q.1 2 2)) ∨ ((1 : Int) = 0 ∧ (Int32.toInt p1 < 0 ∨ Int32.toInt (q.1 2 2) ≤ Int32.toInt p1))) from ⟨rfl, by omega⟩)

set_option maxHeartbeats 4000000 in
set_option maxRecDepth 100000 in
theorem ok_X8_tell_s2 (q : dK) (p1 : Int32) (p2 : Int32) (hT : TC q) : dOk (zX8_tell_s2 q p1 p2) (fun (o : Int32 × dK) => (o.2 = q) ∧ (-1 ≤ Int32.toInt o.1 ∧ Int32.toInt o.1 ≤ 7)) := by
  unfold zX8_tell_s2
  refine dOk_B (ok_X8_isFloor_s2 q p1 hT) (fun r_1 q_2 h_3 => ?_)
  replace h_3 : (q_2 = q) ∧ ((Int32.toInt r_1 = 1 ∧ 0 ≤ Int32.toInt p1 ∧ Int32.toInt p1 < Int32.toInt (q.1 2 2)) ∨ (Int32.toInt r_1 = 0 ∧ (Int32.toInt p1 < 0 ∨ Int32.toInt (q.1 2 2) ≤ Int32.toInt p1))) := h_3
  obtain ⟨i_4, i_5⟩ := h_3
  subst q_2
  have f_6 : 0 ≤ Int32.toInt (q.1 2 2) ∧ Int32.toInt (q.1 2 2) ≤ 6 := rg_2_2 hT
  refine dOk_eq (A := Int32.toInt r_1) (B := 0) rfl (by decide) (fun c_7z c_7 => ?_) (fun c_8z c_8 => ?_)
  · unfold zX8_tell_s2_15
    exact dOk_some (show (q = q) ∧ (-1 ≤ (-1 : Int) ∧ (-1 : Int) ≤ 7) from ⟨rfl, by omega⟩)
  · refine dOk_V (ok_X9_isBit p2) (fun r_10 h_11 => ?_)
    replace h_11 : ((Int32.toInt r_10 = 1 ∧ 0 ≤ Int32.toInt p2 ∧ Int32.toInt p2 ≤ 1) ∨ (Int32.toInt r_10 = 0 ∧ (Int32.toInt p2 < 0 ∨ 1 < Int32.toInt p2))) := h_11
    have i_12 := h_11
    refine dOk_eq (A := Int32.toInt r_10) (B := 0) rfl (by decide) (fun c_13z c_13 => ?_) (fun c_14z c_14 => ?_)
    · unfold zX8_tell_s2_15
      exact dOk_some (show (q = q) ∧ (-1 ≤ (-1 : Int) ∧ (-1 : Int) ≤ 7) from ⟨rfl, by omega⟩)
    · refine dOk_eq (A := Int32.toInt p2) (B := 0) rfl (by decide) (fun c_16z c_16 => ?_) (fun c_17z c_17 => ?_)
      · refine dOk_G (dg_ok (show 0 ≤ Int32.toInt p1 by omega) (show Int32.toInt p1 < ((6 : Nat) : Int) by omega)) ?_
        have n_19 : ((Int32.toNatClampNeg p1 : Nat) : Int) = Int32.toInt p1 := cl_eq (by omega)
        refine dOk_L (fun v_20 ev_20 => ?_)
        have f_21 : 0 ≤ Int32.toInt v_20 ∧ Int32.toInt v_20 ≤ 7 := by rw [ev_20]; exact rg_3 hT _
        unfold zX8_tell_s2_36
        exact dOk_some (show (q = q) ∧ (-1 ≤ Int32.toInt v_20 ∧ Int32.toInt v_20 ≤ 7) from ⟨rfl, by omega⟩)
      · refine dOk_G (dg_ok (show 0 ≤ Int32.toInt p1 by omega) (show Int32.toInt p1 < ((6 : Nat) : Int) by omega)) ?_
        have n_22 : ((Int32.toNatClampNeg p1 : Nat) : Int) = Int32.toInt p1 := cl_eq (by omega)
        refine dOk_L (fun v_23 ev_23 => ?_)
        have f_24 : 0 ≤ Int32.toInt v_23 ∧ Int32.toInt v_23 ≤ 1 := by rw [ev_23]; exact rg_4 hT _
        unfold zX8_tell_s2_36
        exact dOk_some (show (q = q) ∧ (-1 ≤ Int32.toInt v_23 ∧ Int32.toInt v_23 ≤ 7) from ⟨rfl, by omega⟩)

set_option maxHeartbeats 4000000 in
set_option maxRecDepth 100000 in
theorem ok_X8_exchange_s2 (q : dK) (p1 : Int32) (p2 : Int32) (hT : TC q) (hp0 : 0 ≤ Int32.toInt p1 ∧ Int32.toInt p1 ≤ 5) (hp1 : 0 ≤ Int32.toInt p2 ∧ Int32.toInt p2 ≤ 5) : dOk (zX8_exchange_s2 q p1 p2) (fun (o : dK) => (TC o) ∧ (cFr [3, 4] [] q o)) := by
  unfold zX8_exchange_s2
  refine dOk_G (dg_ok (show 0 ≤ Int32.toInt p1 by omega) (show Int32.toInt p1 < ((6 : Nat) : Int) by omega)) ?_
  have n_1 : ((Int32.toNatClampNeg p1 : Nat) : Int) = Int32.toInt p1 := cl_eq (by omega)
  refine dOk_L (fun v_2 ev_2 => ?_)
  have f_3 : 0 ≤ Int32.toInt v_2 ∧ Int32.toInt v_2 ≤ 7 := by rw [ev_2]; exact rg_3 hT _
  refine dOk_G (dg_ok (show 0 ≤ Int32.toInt p1 by omega) (show Int32.toInt p1 < ((6 : Nat) : Int) by omega)) ?_
  refine dOk_L (fun v_4 ev_4 => ?_)
  have f_5 : 0 ≤ Int32.toInt v_4 ∧ Int32.toInt v_4 ≤ 1 := by rw [ev_4]; exact rg_4 hT _
  refine dOk_G (dg_ok (show 0 ≤ Int32.toInt p2 by omega) (show Int32.toInt p2 < ((6 : Nat) : Int) by omega)) ?_
  have n_6 : ((Int32.toNatClampNeg p2 : Nat) : Int) = Int32.toInt p2 := cl_eq (by omega)
  refine dOk_L (fun v_7 ev_7 => ?_)
  have f_8 : 0 ≤ Int32.toInt v_7 ∧ Int32.toInt v_7 ≤ 7 := by rw [ev_7]; exact rg_3 hT _
  refine dOk_G (dg_ok (show 0 ≤ Int32.toInt p1 by omega) (show Int32.toInt p1 < ((6 : Nat) : Int) by omega)) ?_
  refine dOk_L (fun q_9 eq_9 => ?_)
  have hTq_9 : TC q_9 := by rw [eq_9]; exact st_3 hT (show (0 : Int) ≤ Int32.toInt v_7 by omega) (show Int32.toInt v_7 ≤ (7 : Int) by omega)
  have hFq_9 : cFr [3, 4] [] q q_9 := by rw [eq_9]; exact (cFr.rf (q := q)).i (by decide)
  refine dOk_G (dg_ok (show 0 ≤ Int32.toInt p2 by omega) (show Int32.toInt p2 < ((6 : Nat) : Int) by omega)) ?_
  refine dOk_L (fun v_10 ev_10 => ?_)
  have f_11 : 0 ≤ Int32.toInt v_10 ∧ Int32.toInt v_10 ≤ 1 := by rw [ev_10]; exact rg_4 hTq_9 _
  refine dOk_G (dg_ok (show 0 ≤ Int32.toInt p1 by omega) (show Int32.toInt p1 < ((6 : Nat) : Int) by omega)) ?_
  refine dOk_L (fun q_12 eq_12 => ?_)
  have hTq_12 : TC q_12 := by rw [eq_12]; exact st_4 hTq_9 (show (0 : Int) ≤ Int32.toInt v_10 by omega) (show Int32.toInt v_10 ≤ (1 : Int) by omega)
  have hFq_12 : cFr [3, 4] [] q q_12 := by rw [eq_12]; exact hFq_9.i (by decide)
  refine dOk_G (dg_ok (show 0 ≤ Int32.toInt p2 by omega) (show Int32.toInt p2 < ((6 : Nat) : Int) by omega)) ?_
  refine dOk_L (fun q_13 eq_13 => ?_)
  have hTq_13 : TC q_13 := by rw [eq_13]; exact st_3 hTq_12 (show (0 : Int) ≤ Int32.toInt v_2 by omega) (show Int32.toInt v_2 ≤ (7 : Int) by omega)
  have hFq_13 : cFr [3, 4] [] q q_13 := by rw [eq_13]; exact hFq_12.i (by decide)
  refine dOk_G (dg_ok (show 0 ≤ Int32.toInt p2 by omega) (show Int32.toInt p2 < ((6 : Nat) : Int) by omega)) ?_
  refine dOk_L (fun q_14 eq_14 => ?_)
  have hTq_14 : TC q_14 := by rw [eq_14]; exact st_4 hTq_13 (show (0 : Int) ≤ Int32.toInt v_4 by omega) (show Int32.toInt v_4 ≤ (1 : Int) by omega)
  have hFq_14 : cFr [3, 4] [] q q_14 := by rw [eq_14]; exact hFq_13.i (by decide)
  exact dOk_some (show (TC q_14) ∧ (cFr [3, 4] [] q q_14) from ⟨hTq_14, hFq_14⟩)

set_option maxHeartbeats 4000000 in
set_option maxRecDepth 100000 in
theorem ok_X8_rightAt_s2 (q : dK) (p1 : Int32) (hT : TC q) : dOk (zX8_rightAt_s2 q p1) (fun (o : Int32 × dK) => (TC o.2) ∧ (cFr [4] [] q o.2) ∧ (-3 ≤ Int32.toInt o.1 ∧ Int32.toInt o.1 ≤ 1)) := by
  unfold zX8_rightAt_s2
  refine dOk_lt (A := Int32.toInt p1) (B := 0) rfl (by decide) (fun c_1 => ?_) (fun c_2 => ?_)
  · unfold zX8_rightAt_s2_10
    exact dOk_some (show (TC q) ∧ (cFr [4] [] q q) ∧ (-3 ≤ (-1 : Int) ∧ (-1 : Int) ≤ 1) from ⟨hT, (cFr.rf (q := q)), by omega⟩)
  · refine dOk_lt (A := Int32.toInt p1) (B := 6) rfl (by decide) (fun c_3 => ?_) (fun c_4 => ?_)
    · refine dOk_B (ok_X8_isFloor_s2 q p1 hT) (fun r_5 q_6 h_7 => ?_)
      replace h_7 : (q_6 = q) ∧ ((Int32.toInt r_5 = 1 ∧ 0 ≤ Int32.toInt p1 ∧ Int32.toInt p1 < Int32.toInt (q.1 2 2)) ∨ (Int32.toInt r_5 = 0 ∧ (Int32.toInt p1 < 0 ∨ Int32.toInt (q.1 2 2) ≤ Int32.toInt p1))) := h_7
      obtain ⟨i_8, i_9⟩ := h_7
      subst q_6
      have f_10 : 0 ≤ Int32.toInt (q.1 2 2) ∧ Int32.toInt (q.1 2 2) ≤ 6 := rg_2_2 hT
      refine dOk_eq (A := Int32.toInt r_5) (B := 0) rfl (by decide) (fun c_11z c_11 => ?_) (fun c_12z c_12 => ?_)
      · exact dOk_some (show (TC q) ∧ (cFr [4] [] q q) ∧ (-3 ≤ (-3 : Int) ∧ (-3 : Int) ≤ 1) from ⟨hT, (cFr.rf (q := q)), by omega⟩)
      · refine dOk_G (dg_ok (show 0 ≤ Int32.toInt p1 by omega) (show Int32.toInt p1 < ((6 : Nat) : Int) by omega)) ?_
        have n_14 : ((Int32.toNatClampNeg p1 : Nat) : Int) = Int32.toInt p1 := cl_eq (by omega)
        refine dOk_L (fun v_15 ev_15 => ?_)
        have f_16 : 0 ≤ Int32.toInt v_15 ∧ Int32.toInt v_15 ≤ 1 := by rw [ev_15]; exact rg_4 hT _
        refine dOk_G (dg_ok (show 0 ≤ Int32.toInt p1 by omega) (show Int32.toInt p1 < ((6 : Nat) : Int) by omega)) ?_
        refine dOk_L (fun q_17 eq_17 => ?_)
        try have t_18 : Int32.toInt (1 - v_15) = 1 - Int32.toInt v_15 := ti_sub (by decide) rfl (by omega) (by omega)
        have hTq_17 : TC q_17 := by rw [eq_17]; exact st_4 hT (show (0 : Int) ≤ Int32.toInt (1 - v_15) by omega) (show Int32.toInt (1 - v_15) ≤ (1 : Int) by omega)
        have hFq_17 : cFr [4] [] q q_17 := by rw [eq_17]; exact (cFr.rf (q := q)).i (by decide)
        refine dOk_G (dg_ok (show 0 ≤ Int32.toInt p1 by omega) (show Int32.toInt p1 < ((6 : Nat) : Int) by omega)) ?_
        refine dOk_L (fun v_19 ev_19 => ?_)
        have f_20 : 0 ≤ Int32.toInt v_19 ∧ Int32.toInt v_19 ≤ 1 := by rw [ev_19]; exact rg_4 hTq_17 _
        exact dOk_some (show (TC q_17) ∧ (cFr [4] [] q q_17) ∧ (-3 ≤ Int32.toInt v_19 ∧ Int32.toInt v_19 ≤ 1) from ⟨hTq_17, hFq_17, by omega⟩)
    · unfold zX8_rightAt_s2_10
      exact dOk_some (show (TC q) ∧ (cFr [4] [] q q) ∧ (-3 ≤ (-1 : Int) ∧ (-1 : Int) ≤ 1) from ⟨hT, (cFr.rf (q := q)), by omega⟩)

set_option maxHeartbeats 4000000 in
set_option maxRecDepth 100000 in
theorem ok_X8_swapAt_s2 (q : dK) (p1 : Int32) (hT : TC q) : dOk (zX8_swapAt_s2 q p1) (fun (o : Int32 × dK) => (TC o.2) ∧ (cFr [3, 4] [] q o.2) ∧ (-3 ≤ Int32.toInt o.1 ∧ Int32.toInt o.1 ≤ 7)) := by
  unfold zX8_swapAt_s2
  refine dOk_lt (A := Int32.toInt p1) (B := 0) rfl (by decide) (fun c_1 => ?_) (fun c_2 => ?_)
  · unfold zX8_swapAt_s2_9
    exact dOk_some (show (TC q) ∧ (cFr [3, 4] [] q q) ∧ (-3 ≤ (-1 : Int) ∧ (-1 : Int) ≤ 7) from ⟨hT, (cFr.rf (q := q)), by omega⟩)
  · refine dOk_lt (A := Int32.toInt p1) (B := 5) rfl (by decide) (fun c_3 => ?_) (fun c_4 => ?_)
    · try have t_5 : Int32.toInt (p1 + 1) = Int32.toInt p1 + 1 := ti_add rfl (by decide) (by omega) (by omega)
      refine dOk_B (ok_X8_isFloor_s2 q (p1 + 1) hT) (fun r_6 q_7 h_8 => ?_)
      replace h_8 : (q_7 = q) ∧ ((Int32.toInt r_6 = 1 ∧ 0 ≤ Int32.toInt (p1 + 1) ∧ Int32.toInt (p1 + 1) < Int32.toInt (q.1 2 2)) ∨ (Int32.toInt r_6 = 0 ∧ (Int32.toInt (p1 + 1) < 0 ∨ Int32.toInt (q.1 2 2) ≤ Int32.toInt (p1 + 1)))) := h_8
      obtain ⟨i_9, i_10⟩ := h_8
      subst q_7
      have f_11 : 0 ≤ Int32.toInt (q.1 2 2) ∧ Int32.toInt (q.1 2 2) ≤ 6 := rg_2_2 hT
      refine dOk_eq (A := Int32.toInt r_6) (B := 0) rfl (by decide) (fun c_12z c_12 => ?_) (fun c_13z c_13 => ?_)
      · exact dOk_some (show (TC q) ∧ (cFr [3, 4] [] q q) ∧ (-3 ≤ (-3 : Int) ∧ (-3 : Int) ≤ 7) from ⟨hT, (cFr.rf (q := q)), by omega⟩)
      · refine dOk_V (ok_X8_exchange_s2 q p1 (p1 + 1) hT (show 0 ≤ Int32.toInt p1 ∧ Int32.toInt p1 ≤ 5 by omega) (show 0 ≤ Int32.toInt (p1 + 1) ∧ Int32.toInt (p1 + 1) ≤ 5 by omega)) (fun q_15 h_16 => ?_)
        replace h_16 : (TC q_15) ∧ (cFr [3, 4] [] q q_15) := h_16
        obtain ⟨i_17, i_18⟩ := h_16
        have hFq_15 : cFr [3, 4] [] q q_15 := (cFr.rf (q := q)).t i_18 (by decide) (by decide)
        refine dOk_G (dg_ok (show 0 ≤ Int32.toInt p1 by omega) (show Int32.toInt p1 < ((6 : Nat) : Int) by omega)) ?_
        have n_19 : ((Int32.toNatClampNeg p1 : Nat) : Int) = Int32.toInt p1 := cl_eq (by omega)
        refine dOk_L (fun v_20 ev_20 => ?_)
        have f_21 : 0 ≤ Int32.toInt v_20 ∧ Int32.toInt v_20 ≤ 7 := by rw [ev_20]; exact rg_3 i_17 _
        exact dOk_some (show (TC q_15) ∧ (cFr [3, 4] [] q q_15) ∧ (-3 ≤ Int32.toInt v_20 ∧ Int32.toInt v_20 ≤ 7) from ⟨i_17, hFq_15, by omega⟩)
    · unfold zX8_swapAt_s2_9
      exact dOk_some (show (TC q) ∧ (cFr [3, 4] [] q q) ∧ (-3 ≤ (-1 : Int) ∧ (-1 : Int) ≤ 7) from ⟨hT, (cFr.rf (q := q)), by omega⟩)

set_option maxHeartbeats 4000000 in
set_option maxRecDepth 100000 in
theorem ok_X8_isFloor_s15 (q : dK) (p1 : Int32) (hT : TC q) : dOk (zX8_isFloor_s15 q p1) (fun (o : Int32 × dK) => (o.2 = q) ∧ ((Int32.toInt o.1 = 1 ∧ 0 ≤ Int32.toInt p1 ∧ Int32.toInt p1 < Int32.toInt (q.1 15 2)) ∨ (Int32.toInt o.1 = 0 ∧ (Int32.toInt p1 < 0 ∨ Int32.toInt (q.1 15 2) ≤ Int32.toInt p1)))) := by
  unfold zX8_isFloor_s15
  refine dOk_lt (A := Int32.toInt p1) (B := 0) rfl (by decide) (fun c_1 => ?_) (fun c_2 => ?_)
  · unfold zX8_isFloor_s15_16
    unfold zX8_isFloor_s15_17
    refine dOk_G (dbl_ok (show (0 : Int) = 0 ∨ (0 : Int) = 1 by omega)) ?_
    have f_3 : 0 ≤ Int32.toInt (q.1 15 2) ∧ Int32.toInt (q.1 15 2) ≤ 6 := rg_15_2 hT
    exact dOk_some (show (q = q) ∧ (((0 : Int) = 1 ∧ 0 ≤ Int32.toInt p1 ∧ Int32.toInt p1 < Int32.toInt (q.1 15 2)) ∨ ((0 : Int) = 0 ∧ (Int32.toInt p1 < 0 ∨ Int32.toInt (q.1 15 2) ≤ Int32.toInt p1))) from ⟨rfl, by omega⟩)
  · have f_4 : 0 ≤ Int32.toInt (q.1 15 2) ∧ Int32.toInt (q.1 15 2) ≤ 6 := rg_15_2 hT
    refine dOk_le (A := Int32.toInt (q.1 15 2)) (B := Int32.toInt p1) rfl rfl (fun c_5 => ?_) (fun c_6 => ?_)
    · unfold zX8_isFloor_s15_16
      unfold zX8_isFloor_s15_17
      refine dOk_G (dbl_ok (show (0 : Int) = 0 ∨ (0 : Int) = 1 by omega)) ?_
      exact dOk_some (show (q = q) ∧ (((0 : Int) = 1 ∧ 0 ≤ Int32.toInt p1 ∧ Int32.toInt p1 < Int32.toInt (q.1 15 2)) ∨ ((0 : Int) = 0 ∧ (Int32.toInt p1 < 0 ∨ Int32.toInt (q.1 15 2) ≤ Int32.toInt p1))) from ⟨rfl, by omega⟩)
    · unfold zX8_isFloor_s15_17
      refine dOk_G (dbl_ok (show (1 : Int) = 0 ∨ (1 : Int) = 1 by omega)) ?_
      exact dOk_some (show (q = q) ∧ (((1 : Int) = 1 ∧ 0 ≤ Int32.toInt p1 ∧ Int32.toInt p1 < Int32.toInt (q.1 15 2)) ∨ ((1 : Int) = 0 ∧ (Int32.toInt p1 < 0 ∨ Int32.toInt (q.1 15 2) ≤ Int32.toInt p1))) from ⟨rfl, by omega⟩)

set_option maxHeartbeats 4000000 in
set_option maxRecDepth 100000 in
theorem ok_X8_tell_s15 (q : dK) (p1 : Int32) (p2 : Int32) (hT : TC q) : dOk (zX8_tell_s15 q p1 p2) (fun (o : Int32 × dK) => (o.2 = q) ∧ (-1 ≤ Int32.toInt o.1 ∧ Int32.toInt o.1 ≤ 7)) := by
  unfold zX8_tell_s15
  refine dOk_B (ok_X8_isFloor_s15 q p1 hT) (fun r_1 q_2 h_3 => ?_)
  replace h_3 : (q_2 = q) ∧ ((Int32.toInt r_1 = 1 ∧ 0 ≤ Int32.toInt p1 ∧ Int32.toInt p1 < Int32.toInt (q.1 15 2)) ∨ (Int32.toInt r_1 = 0 ∧ (Int32.toInt p1 < 0 ∨ Int32.toInt (q.1 15 2) ≤ Int32.toInt p1))) := h_3
  obtain ⟨i_4, i_5⟩ := h_3
  subst q_2
  have f_6 : 0 ≤ Int32.toInt (q.1 15 2) ∧ Int32.toInt (q.1 15 2) ≤ 6 := rg_15_2 hT
  refine dOk_eq (A := Int32.toInt r_1) (B := 0) rfl (by decide) (fun c_7z c_7 => ?_) (fun c_8z c_8 => ?_)
  · unfold zX8_tell_s15_15
    exact dOk_some (show (q = q) ∧ (-1 ≤ (-1 : Int) ∧ (-1 : Int) ≤ 7) from ⟨rfl, by omega⟩)
  · refine dOk_V (ok_X9_isBit p2) (fun r_10 h_11 => ?_)
    replace h_11 : ((Int32.toInt r_10 = 1 ∧ 0 ≤ Int32.toInt p2 ∧ Int32.toInt p2 ≤ 1) ∨ (Int32.toInt r_10 = 0 ∧ (Int32.toInt p2 < 0 ∨ 1 < Int32.toInt p2))) := h_11
    have i_12 := h_11
    refine dOk_eq (A := Int32.toInt r_10) (B := 0) rfl (by decide) (fun c_13z c_13 => ?_) (fun c_14z c_14 => ?_)
    · unfold zX8_tell_s15_15
      exact dOk_some (show (q = q) ∧ (-1 ≤ (-1 : Int) ∧ (-1 : Int) ≤ 7) from ⟨rfl, by omega⟩)
    · refine dOk_eq (A := Int32.toInt p2) (B := 0) rfl (by decide) (fun c_16z c_16 => ?_) (fun c_17z c_17 => ?_)
      · refine dOk_G (dg_ok (show 0 ≤ Int32.toInt p1 by omega) (show Int32.toInt p1 < ((6 : Nat) : Int) by omega)) ?_
        have n_19 : ((Int32.toNatClampNeg p1 : Nat) : Int) = Int32.toInt p1 := cl_eq (by omega)
        refine dOk_L (fun v_20 ev_20 => ?_)
        have f_21 : 0 ≤ Int32.toInt v_20 ∧ Int32.toInt v_20 ≤ 7 := by rw [ev_20]; exact rg_16 hT _
        unfold zX8_tell_s15_36
        exact dOk_some (show (q = q) ∧ (-1 ≤ Int32.toInt v_20 ∧ Int32.toInt v_20 ≤ 7) from ⟨rfl, by omega⟩)
      · refine dOk_G (dg_ok (show 0 ≤ Int32.toInt p1 by omega) (show Int32.toInt p1 < ((6 : Nat) : Int) by omega)) ?_
        have n_22 : ((Int32.toNatClampNeg p1 : Nat) : Int) = Int32.toInt p1 := cl_eq (by omega)
        refine dOk_L (fun v_23 ev_23 => ?_)
        have f_24 : 0 ≤ Int32.toInt v_23 ∧ Int32.toInt v_23 ≤ 1 := by rw [ev_23]; exact rg_17 hT _
        unfold zX8_tell_s15_36
        exact dOk_some (show (q = q) ∧ (-1 ≤ Int32.toInt v_23 ∧ Int32.toInt v_23 ≤ 7) from ⟨rfl, by omega⟩)

set_option maxHeartbeats 4000000 in
set_option maxRecDepth 100000 in
theorem ok_X8_exchange_s15 (q : dK) (p1 : Int32) (p2 : Int32) (hT : TC q) (hp0 : 0 ≤ Int32.toInt p1 ∧ Int32.toInt p1 ≤ 5) (hp1 : 0 ≤ Int32.toInt p2 ∧ Int32.toInt p2 ≤ 5) : dOk (zX8_exchange_s15 q p1 p2) (fun (o : dK) => (TC o) ∧ (cFr [16, 17] [] q o)) := by
  unfold zX8_exchange_s15
  refine dOk_G (dg_ok (show 0 ≤ Int32.toInt p1 by omega) (show Int32.toInt p1 < ((6 : Nat) : Int) by omega)) ?_
  have n_1 : ((Int32.toNatClampNeg p1 : Nat) : Int) = Int32.toInt p1 := cl_eq (by omega)
  refine dOk_L (fun v_2 ev_2 => ?_)
  have f_3 : 0 ≤ Int32.toInt v_2 ∧ Int32.toInt v_2 ≤ 7 := by rw [ev_2]; exact rg_16 hT _
  refine dOk_G (dg_ok (show 0 ≤ Int32.toInt p1 by omega) (show Int32.toInt p1 < ((6 : Nat) : Int) by omega)) ?_
  refine dOk_L (fun v_4 ev_4 => ?_)
  have f_5 : 0 ≤ Int32.toInt v_4 ∧ Int32.toInt v_4 ≤ 1 := by rw [ev_4]; exact rg_17 hT _
  refine dOk_G (dg_ok (show 0 ≤ Int32.toInt p2 by omega) (show Int32.toInt p2 < ((6 : Nat) : Int) by omega)) ?_
  have n_6 : ((Int32.toNatClampNeg p2 : Nat) : Int) = Int32.toInt p2 := cl_eq (by omega)
  refine dOk_L (fun v_7 ev_7 => ?_)
  have f_8 : 0 ≤ Int32.toInt v_7 ∧ Int32.toInt v_7 ≤ 7 := by rw [ev_7]; exact rg_16 hT _
  refine dOk_G (dg_ok (show 0 ≤ Int32.toInt p1 by omega) (show Int32.toInt p1 < ((6 : Nat) : Int) by omega)) ?_
  refine dOk_L (fun q_9 eq_9 => ?_)
  have hTq_9 : TC q_9 := by rw [eq_9]; exact st_16 hT (show (0 : Int) ≤ Int32.toInt v_7 by omega) (show Int32.toInt v_7 ≤ (7 : Int) by omega)
  have hFq_9 : cFr [16, 17] [] q q_9 := by rw [eq_9]; exact (cFr.rf (q := q)).i (by decide)
  refine dOk_G (dg_ok (show 0 ≤ Int32.toInt p2 by omega) (show Int32.toInt p2 < ((6 : Nat) : Int) by omega)) ?_
  refine dOk_L (fun v_10 ev_10 => ?_)
  have f_11 : 0 ≤ Int32.toInt v_10 ∧ Int32.toInt v_10 ≤ 1 := by rw [ev_10]; exact rg_17 hTq_9 _
  refine dOk_G (dg_ok (show 0 ≤ Int32.toInt p1 by omega) (show Int32.toInt p1 < ((6 : Nat) : Int) by omega)) ?_
  refine dOk_L (fun q_12 eq_12 => ?_)
  have hTq_12 : TC q_12 := by rw [eq_12]; exact st_17 hTq_9 (show (0 : Int) ≤ Int32.toInt v_10 by omega) (show Int32.toInt v_10 ≤ (1 : Int) by omega)
  have hFq_12 : cFr [16, 17] [] q q_12 := by rw [eq_12]; exact hFq_9.i (by decide)
  refine dOk_G (dg_ok (show 0 ≤ Int32.toInt p2 by omega) (show Int32.toInt p2 < ((6 : Nat) : Int) by omega)) ?_
  refine dOk_L (fun q_13 eq_13 => ?_)
  have hTq_13 : TC q_13 := by rw [eq_13]; exact st_16 hTq_12 (show (0 : Int) ≤ Int32.toInt v_2 by omega) (show Int32.toInt v_2 ≤ (7 : Int) by omega)
  have hFq_13 : cFr [16, 17] [] q q_13 := by rw [eq_13]; exact hFq_12.i (by decide)
  refine dOk_G (dg_ok (show 0 ≤ Int32.toInt p2 by omega) (show Int32.toInt p2 < ((6 : Nat) : Int) by omega)) ?_
  refine dOk_L (fun q_14 eq_14 => ?_)
  have hTq_14 : TC q_14 := by rw [eq_14]; exact st_17 hTq_13 (show (0 : Int) ≤ Int32.toInt v_4 by omega) (show Int32.toInt v_4 ≤ (1 : Int) by omega)
  have hFq_14 : cFr [16, 17] [] q q_14 := by rw [eq_14]; exact hFq_13.i (by decide)
  exact dOk_some (show (TC q_14) ∧ (cFr [16, 17] [] q q_14) from ⟨hTq_14, hFq_14⟩)

set_option maxHeartbeats 4000000 in
set_option maxRecDepth 100000 in
theorem ok_X8_rightAt_s15 (q : dK) (p1 : Int32) (hT : TC q) : dOk (zX8_rightAt_s15 q p1) (fun (o : Int32 × dK) => (TC o.2) ∧ (cFr [17] [] q o.2) ∧ (-3 ≤ Int32.toInt o.1 ∧ Int32.toInt o.1 ≤ 1)) := by
  unfold zX8_rightAt_s15
  refine dOk_lt (A := Int32.toInt p1) (B := 0) rfl (by decide) (fun c_1 => ?_) (fun c_2 => ?_)
  · unfold zX8_rightAt_s15_10
    exact dOk_some (show (TC q) ∧ (cFr [17] [] q q) ∧ (-3 ≤ (-1 : Int) ∧ (-1 : Int) ≤ 1) from ⟨hT, (cFr.rf (q := q)), by omega⟩)
  · refine dOk_lt (A := Int32.toInt p1) (B := 6) rfl (by decide) (fun c_3 => ?_) (fun c_4 => ?_)
    · refine dOk_B (ok_X8_isFloor_s15 q p1 hT) (fun r_5 q_6 h_7 => ?_)
      replace h_7 : (q_6 = q) ∧ ((Int32.toInt r_5 = 1 ∧ 0 ≤ Int32.toInt p1 ∧ Int32.toInt p1 < Int32.toInt (q.1 15 2)) ∨ (Int32.toInt r_5 = 0 ∧ (Int32.toInt p1 < 0 ∨ Int32.toInt (q.1 15 2) ≤ Int32.toInt p1))) := h_7
      obtain ⟨i_8, i_9⟩ := h_7
      subst q_6
      have f_10 : 0 ≤ Int32.toInt (q.1 15 2) ∧ Int32.toInt (q.1 15 2) ≤ 6 := rg_15_2 hT
      refine dOk_eq (A := Int32.toInt r_5) (B := 0) rfl (by decide) (fun c_11z c_11 => ?_) (fun c_12z c_12 => ?_)
      · exact dOk_some (show (TC q) ∧ (cFr [17] [] q q) ∧ (-3 ≤ (-3 : Int) ∧ (-3 : Int) ≤ 1) from ⟨hT, (cFr.rf (q := q)), by omega⟩)
      · refine dOk_G (dg_ok (show 0 ≤ Int32.toInt p1 by omega) (show Int32.toInt p1 < ((6 : Nat) : Int) by omega)) ?_
        have n_14 : ((Int32.toNatClampNeg p1 : Nat) : Int) = Int32.toInt p1 := cl_eq (by omega)
        refine dOk_L (fun v_15 ev_15 => ?_)
        have f_16 : 0 ≤ Int32.toInt v_15 ∧ Int32.toInt v_15 ≤ 1 := by rw [ev_15]; exact rg_17 hT _
        refine dOk_G (dg_ok (show 0 ≤ Int32.toInt p1 by omega) (show Int32.toInt p1 < ((6 : Nat) : Int) by omega)) ?_
        refine dOk_L (fun q_17 eq_17 => ?_)
        try have t_18 : Int32.toInt (1 - v_15) = 1 - Int32.toInt v_15 := ti_sub (by decide) rfl (by omega) (by omega)
        have hTq_17 : TC q_17 := by rw [eq_17]; exact st_17 hT (show (0 : Int) ≤ Int32.toInt (1 - v_15) by omega) (show Int32.toInt (1 - v_15) ≤ (1 : Int) by omega)
        have hFq_17 : cFr [17] [] q q_17 := by rw [eq_17]; exact (cFr.rf (q := q)).i (by decide)
        refine dOk_G (dg_ok (show 0 ≤ Int32.toInt p1 by omega) (show Int32.toInt p1 < ((6 : Nat) : Int) by omega)) ?_
        refine dOk_L (fun v_19 ev_19 => ?_)
        have f_20 : 0 ≤ Int32.toInt v_19 ∧ Int32.toInt v_19 ≤ 1 := by rw [ev_19]; exact rg_17 hTq_17 _
        exact dOk_some (show (TC q_17) ∧ (cFr [17] [] q q_17) ∧ (-3 ≤ Int32.toInt v_19 ∧ Int32.toInt v_19 ≤ 1) from ⟨hTq_17, hFq_17, by omega⟩)
    · unfold zX8_rightAt_s15_10
      exact dOk_some (show (TC q) ∧ (cFr [17] [] q q) ∧ (-3 ≤ (-1 : Int) ∧ (-1 : Int) ≤ 1) from ⟨hT, (cFr.rf (q := q)), by omega⟩)

set_option maxHeartbeats 4000000 in
set_option maxRecDepth 100000 in
theorem ok_X8_swapAt_s15 (q : dK) (p1 : Int32) (hT : TC q) : dOk (zX8_swapAt_s15 q p1) (fun (o : Int32 × dK) => (TC o.2) ∧ (cFr [16, 17] [] q o.2) ∧ (-3 ≤ Int32.toInt o.1 ∧ Int32.toInt o.1 ≤ 7)) := by
  unfold zX8_swapAt_s15
  refine dOk_lt (A := Int32.toInt p1) (B := 0) rfl (by decide) (fun c_1 => ?_) (fun c_2 => ?_)
  · unfold zX8_swapAt_s15_9
    exact dOk_some (show (TC q) ∧ (cFr [16, 17] [] q q) ∧ (-3 ≤ (-1 : Int) ∧ (-1 : Int) ≤ 7) from ⟨hT, (cFr.rf (q := q)), by omega⟩)
  · refine dOk_lt (A := Int32.toInt p1) (B := 5) rfl (by decide) (fun c_3 => ?_) (fun c_4 => ?_)
    · try have t_5 : Int32.toInt (p1 + 1) = Int32.toInt p1 + 1 := ti_add rfl (by decide) (by omega) (by omega)
      refine dOk_B (ok_X8_isFloor_s15 q (p1 + 1) hT) (fun r_6 q_7 h_8 => ?_)
      replace h_8 : (q_7 = q) ∧ ((Int32.toInt r_6 = 1 ∧ 0 ≤ Int32.toInt (p1 + 1) ∧ Int32.toInt (p1 + 1) < Int32.toInt (q.1 15 2)) ∨ (Int32.toInt r_6 = 0 ∧ (Int32.toInt (p1 + 1) < 0 ∨ Int32.toInt (q.1 15 2) ≤ Int32.toInt (p1 + 1)))) := h_8
      obtain ⟨i_9, i_10⟩ := h_8
      subst q_7
      have f_11 : 0 ≤ Int32.toInt (q.1 15 2) ∧ Int32.toInt (q.1 15 2) ≤ 6 := rg_15_2 hT
      refine dOk_eq (A := Int32.toInt r_6) (B := 0) rfl (by decide) (fun c_12z c_12 => ?_) (fun c_13z c_13 => ?_)
      · exact dOk_some (show (TC q) ∧ (cFr [16, 17] [] q q) ∧ (-3 ≤ (-3 : Int) ∧ (-3 : Int) ≤ 7) from ⟨hT, (cFr.rf (q := q)), by omega⟩)
      · refine dOk_V (ok_X8_exchange_s15 q p1 (p1 + 1) hT (show 0 ≤ Int32.toInt p1 ∧ Int32.toInt p1 ≤ 5 by omega) (show 0 ≤ Int32.toInt (p1 + 1) ∧ Int32.toInt (p1 + 1) ≤ 5 by omega)) (fun q_15 h_16 => ?_)
        replace h_16 : (TC q_15) ∧ (cFr [16, 17] [] q q_15) := h_16
        obtain ⟨i_17, i_18⟩ := h_16
        have hFq_15 : cFr [16, 17] [] q q_15 := (cFr.rf (q := q)).t i_18 (by decide) (by decide)
        refine dOk_G (dg_ok (show 0 ≤ Int32.toInt p1 by omega) (show Int32.toInt p1 < ((6 : Nat) : Int) by omega)) ?_
        have n_19 : ((Int32.toNatClampNeg p1 : Nat) : Int) = Int32.toInt p1 := cl_eq (by omega)
        refine dOk_L (fun v_20 ev_20 => ?_)
        have f_21 : 0 ≤ Int32.toInt v_20 ∧ Int32.toInt v_20 ≤ 7 := by rw [ev_20]; exact rg_16 i_17 _
        exact dOk_some (show (TC q_15) ∧ (cFr [16, 17] [] q q_15) ∧ (-3 ≤ Int32.toInt v_20 ∧ Int32.toInt v_20 ≤ 7) from ⟨i_17, hFq_15, by omega⟩)
    · unfold zX8_swapAt_s15_9
      exact dOk_some (show (TC q) ∧ (cFr [16, 17] [] q q) ∧ (-3 ≤ (-1 : Int) ∧ (-1 : Int) ≤ 7) from ⟨hT, (cFr.rf (q := q)), by omega⟩)

set_option maxHeartbeats 4000000 in
set_option maxRecDepth 100000 in
theorem ok_X8_has_s2 (q : dK) (p1 : Int32) (hT : TC q) : dOk (zX8_has_s2 q p1) (fun (o : Int32 × dK) => (o.2 = q) ∧ ((Int32.toInt o.1 = 0 ∨ Int32.toInt o.1 = 1))) := by
  unfold zX8_has_s2
  unfold zX8_has_s2_2
  refine dFix_ok (fun (a : dK × Int32 × Int32) => (a.1 = q) ∧ (a.2.1 = p1) ∧ (0 ≤ Int32.toInt a.2.2) ∧ (Int32.toInt a.2.2 ≤ 6)) (fun (a : dK × Int32 × Int32) => (6 - Int32.toInt a.2.2).toNat) ?_ _ ?_ _ (dF_gt ?_)
  · intro a ha k_2 hk_1
    obtain ⟨q_3, x1_4, x2_5⟩ := a
    replace ha : (q_3 = q) ∧ (x1_4 = p1) ∧ (0 ≤ Int32.toInt x2_5) ∧ (Int32.toInt x2_5 ≤ 6) := ha
    obtain ⟨a_6, a_7, a_8, a_9⟩ := ha
    show dOk (zX8_has_s2_2b  (fun q x1 x2 => k_2 (q, x1, x2)) q_3 x1_4 x2_5) _
    unfold zX8_has_s2_2b
    subst q_3
    subst x1_4
    have f_10 : 0 ≤ Int32.toInt (q.1 2 2) ∧ Int32.toInt (q.1 2 2) ≤ 6 := rg_2_2 hT
    refine dOk_le (A := Int32.toInt (q.1 2 2)) (B := Int32.toInt x2_5) rfl rfl (fun c_11 => ?_) (fun c_12 => ?_)
    · exact dOk_some (show (q = q) ∧ (((0 : Int) = 0 ∨ (0 : Int) = 1)) from ⟨rfl, by omega⟩)
    · refine dOk_G (dg_ok (show 0 ≤ Int32.toInt x2_5 by omega) (show Int32.toInt x2_5 < ((6 : Nat) : Int) by omega)) ?_
      have n_13 : ((Int32.toNatClampNeg x2_5 : Nat) : Int) = Int32.toInt x2_5 := cl_eq (by omega)
      refine dOk_L (fun v_14 ev_14 => ?_)
      have f_15 : 0 ≤ Int32.toInt v_14 ∧ Int32.toInt v_14 ≤ 7 := by rw [ev_14]; exact rg_3 hT _
      refine dOk_eq (A := Int32.toInt v_14) (B := Int32.toInt p1) rfl rfl (fun c_16z c_16 => ?_) (fun c_17z c_17 => ?_)
      · exact dOk_some (show (q = q) ∧ (((1 : Int) = 0 ∨ (1 : Int) = 1)) from ⟨rfl, by omega⟩)
      · try have t_19 : Int32.toInt (x2_5 + 1) = Int32.toInt x2_5 + 1 := ti_add rfl (by decide) (by omega) (by omega)
        exact hk_1 (q, p1, (x2_5 + 1)) (show (q = q) ∧ (p1 = p1) ∧ (0 ≤ Int32.toInt (x2_5 + 1)) ∧ (Int32.toInt (x2_5 + 1) ≤ 6) from ⟨rfl, rfl, by omega, by omega⟩) (show (6 - Int32.toInt (x2_5 + 1)).toNat < (6 - Int32.toInt x2_5).toNat by omega)
  · exact (show (q = q) ∧ (p1 = p1) ∧ (0 ≤ (0 : Int)) ∧ ((0 : Int) ≤ 6) from ⟨rfl, rfl, by omega, by omega⟩)
  · show (6 - (0 : Int)).toNat < 1000000000000
    omega
