set_option maxHeartbeats 4000000 in
set_option maxRecDepth 100000 in
theorem ok_X8_act_s15_s20 (q : dK) (p1 : Int32) (p2 : Int32) (hT : TC q) : dOk (zX8_act_s15_s20 q p1 p2) (fun (o : Int32 × dK) => (TC o.2) ∧ (cFr [16, 17, 19, 21] [(15, 3), (15, 4), (18, 1)] q o.2) ∧ (-3 ≤ Int32.toInt o.1 ∧ Int32.toInt o.1 ≤ 99)) := by
  unfold zX8_act_s15_s20
  refine dOk_eq (A := Int32.toInt p1) (B := 0) rfl (by decide) (fun c_1z c_1 => ?_) (fun c_2z c_2 => ?_)
  · refine dOk_B (ok_X8_turnTop_s15_s20 q p2 hT) (fun r_4 q_5 h_6 => ?_)
    replace h_6 : (TC q_5) ∧ (cFr [16, 17, 19, 21] [(15, 3), (18, 1)] q q_5) ∧ (-3 ≤ Int32.toInt r_4 ∧ Int32.toInt r_4 ≤ 99) := h_6
    obtain ⟨i_7, i_8, i_9⟩ := h_6
    have hFq_5 : cFr [16, 17, 19, 21] [(15, 3), (15, 4), (18, 1)] q q_5 := (cFr.rf (q := q)).t i_8 (by decide) (by decide)
    exact dOk_some (show (TC q_5) ∧ (cFr [16, 17, 19, 21] [(15, 3), (15, 4), (18, 1)] q q_5) ∧ (-3 ≤ Int32.toInt r_4 ∧ Int32.toInt r_4 ≤ 99) from ⟨i_7, hFq_5, by omega⟩)
  · refine dOk_eq (A := Int32.toInt p1) (B := 1) rfl (by decide) (fun c_10z c_10 => ?_) (fun c_11z c_11 => ?_)
    · refine dOk_B (ok_X8_rightAt_s15 q p2 hT) (fun r_13 q_14 h_15 => ?_)
      replace h_15 : (TC q_14) ∧ (cFr [17] [] q q_14) ∧ (-3 ≤ Int32.toInt r_13 ∧ Int32.toInt r_13 ≤ 1) := h_15
      obtain ⟨i_16, i_17, i_18⟩ := h_15
      have hFq_14 : cFr [16, 17, 19, 21] [(15, 3), (15, 4), (18, 1)] q q_14 := (cFr.rf (q := q)).t i_17 (by decide) (by decide)
      exact dOk_some (show (TC q_14) ∧ (cFr [16, 17, 19, 21] [(15, 3), (15, 4), (18, 1)] q q_14) ∧ (-3 ≤ Int32.toInt r_13 ∧ Int32.toInt r_13 ≤ 99) from ⟨i_16, hFq_14, by omega⟩)
    · refine dOk_eq (A := Int32.toInt p1) (B := 2) rfl (by decide) (fun c_19z c_19 => ?_) (fun c_20z c_20 => ?_)
      · refine dOk_B (ok_X8_swapAt_s15 q p2 hT) (fun r_22 q_23 h_24 => ?_)
        replace h_24 : (TC q_23) ∧ (cFr [16, 17] [] q q_23) ∧ (-3 ≤ Int32.toInt r_22 ∧ Int32.toInt r_22 ≤ 7) := h_24
        obtain ⟨i_25, i_26, i_27⟩ := h_24
        have hFq_23 : cFr [16, 17, 19, 21] [(15, 3), (15, 4), (18, 1)] q q_23 := (cFr.rf (q := q)).t i_26 (by decide) (by decide)
        exact dOk_some (show (TC q_23) ∧ (cFr [16, 17, 19, 21] [(15, 3), (15, 4), (18, 1)] q q_23) ∧ (-3 ≤ Int32.toInt r_22 ∧ Int32.toInt r_22 ≤ 99) from ⟨i_25, hFq_23, by omega⟩)
      · refine dOk_eq (A := Int32.toInt p1) (B := 3) rfl (by decide) (fun c_28z c_28 => ?_) (fun c_29z c_29 => ?_)
        · refine dOk_B (ok_X8_passYear_s15_s20 q hT) (fun r_31 q_32 h_33 => ?_)
          replace h_33 : (TC q_32) ∧ (cFr [17, 19, 21] [(15, 4), (18, 1)] q q_32) ∧ (-3 ≤ Int32.toInt r_31 ∧ Int32.toInt r_31 ≤ 63) := h_33
          obtain ⟨i_34, i_35, i_36⟩ := h_33
          have hFq_32 : cFr [16, 17, 19, 21] [(15, 3), (15, 4), (18, 1)] q q_32 := (cFr.rf (q := q)).t i_35 (by decide) (by decide)
          exact dOk_some (show (TC q_32) ∧ (cFr [16, 17, 19, 21] [(15, 3), (15, 4), (18, 1)] q q_32) ∧ (-3 ≤ Int32.toInt r_31 ∧ Int32.toInt r_31 ≤ 99) from ⟨i_34, hFq_32, by omega⟩)
        · exact dOk_some (show (TC q) ∧ (cFr [16, 17, 19, 21] [(15, 3), (15, 4), (18, 1)] q q) ∧ (-3 ≤ (-3 : Int) ∧ (-3 : Int) ≤ 99) from ⟨hT, (cFr.rf (q := q)), by omega⟩)

set_option maxHeartbeats 4000000 in
set_option maxRecDepth 100000 in
theorem ok_X9_at_s0 (q : dK) (p1 : Int32) (p2 : Int32) (hT : TC q) : dOk (zX9_at_s0 q p1 p2) (fun (o : Int32 × dK) => (TC o.2) ∧ (cFr [19, 21] [(18, 1), (20, 2)] q o.2)) := by
  unfold zX9_at_s0
  refine dOk_eq (A := Int32.toInt p2) (B := 2) rfl (by decide) (fun c_1z c_1 => ?_) (fun c_2z c_2 => ?_)
  · refine dOk_B (ok_X8_isFloor_s2 q p1 hT) (fun r_4 q_5 h_6 => ?_)
    replace h_6 : (q_5 = q) ∧ ((Int32.toInt r_4 = 1 ∧ 0 ≤ Int32.toInt p1 ∧ Int32.toInt p1 < Int32.toInt (q.1 2 2)) ∨ (Int32.toInt r_4 = 0 ∧ (Int32.toInt p1 < 0 ∨ Int32.toInt (q.1 2 2) ≤ Int32.toInt p1))) := h_6
    obtain ⟨i_7, i_8⟩ := h_6
    subst q_5
    have f_9 : 0 ≤ Int32.toInt (q.1 2 2) ∧ Int32.toInt (q.1 2 2) ≤ 6 := rg_2_2 hT
    refine dOk_eq (A := Int32.toInt r_4) (B := 0) rfl (by decide) (fun c_10z c_10 => ?_) (fun c_11z c_11 => ?_)
    · unfold zX9_at_s0_41
      exact dOk_some (show (TC q) ∧ (cFr [19, 21] [(18, 1), (20, 2)] q q) from ⟨hT, (cFr.rf (q := q))⟩)
    · refine dOk_V (ok_X9_seated_s0 q hT) (fun q_13 h_14 => ?_)
      replace h_14 : (TC q_13) ∧ (cFr [21] [(20, 2)] q q_13) := h_14
      obtain ⟨i_15, i_16⟩ := h_14
      have hFq_13 : cFr [19, 21] [(18, 1), (20, 2)] q q_13 := (cFr.rf (q := q)).t i_16 (by decide) (by decide)
      refine dOk_B (ok_X1_tips_s20_s2 q_13 p1 i_15) (fun r_17 q_18 h_19 => ?_)
      replace h_19 : (TC q_18) ∧ (cFr [19, 21] [(18, 1)] q_13 q_18) ∧ ((Int32.toInt r_17 = 0 ∨ Int32.toInt r_17 = 1)) := h_19
      obtain ⟨i_20, i_21, i_22⟩ := h_19
      have hFq_18 : cFr [19, 21] [(18, 1), (20, 2)] q q_18 := hFq_13.t i_21 (by decide) (by decide)
      refine dOk_V (ok_X9_bit r_17) (fun r_23 h_24 => ?_)
      replace h_24 : ((Int32.toInt r_23 = 0 ∨ Int32.toInt r_23 = 1)) := h_24
      have i_25 := h_24
      unfold zX9_at_s0_41
      exact dOk_some (show (TC q_18) ∧ (cFr [19, 21] [(18, 1), (20, 2)] q q_18) from ⟨i_20, hFq_18⟩)
  · refine dOk_B (ok_X8_tell_s2 q p1 p2 hT) (fun r_26 q_27 h_28 => ?_)
    replace h_28 : (q_27 = q) ∧ (-1 ≤ Int32.toInt r_26 ∧ Int32.toInt r_26 ≤ 7) := h_28
    obtain ⟨i_29, i_30⟩ := h_28
    subst q_27
    exact dOk_some (show (TC q) ∧ (cFr [19, 21] [(18, 1), (20, 2)] q q) from ⟨hT, (cFr.rf (q := q))⟩)

set_option maxHeartbeats 4000000 in
set_option maxRecDepth 100000 in
theorem ok_X9_asks_s0 (q : dK) (p1 : Int32) (p2 : Int32) (hT : TC q) : dOk (zX9_asks_s0 q p1 p2) (fun (o : Int32 × dK) => (TC o.2) ∧ (cFr [19, 21] [(18, 1), (20, 2)] q o.2)) := by
  unfold zX9_asks_s0
  refine dOk_lt (A := Int32.toInt p1) (B := 1) rfl (by decide) (fun c_1 => ?_) (fun c_2 => ?_)
  · unfold zX9_asks_s0_19
    exact dOk_some (show (TC q) ∧ (cFr [19, 21] [(18, 1), (20, 2)] q q) from ⟨hT, (cFr.rf (q := q))⟩)
  · have f_3 : 0 ≤ Int32.toInt (q.1 2 2) ∧ Int32.toInt (q.1 2 2) ≤ 6 := rg_2_2 hT
    refine dOk_le (A := Int32.toInt p1) (B := Int32.toInt (q.1 2 2)) rfl rfl (fun c_4 => ?_) (fun c_5 => ?_)
    · refine dOk_eq (A := Int32.toInt p2) (B := 0) rfl (by decide) (fun c_6z c_6 => ?_) (fun c_7z c_7 => ?_)
      · refine dOk_V (ok_X9_seated_s0 q hT) (fun q_9 h_10 => ?_)
        replace h_10 : (TC q_9) ∧ (cFr [21] [(20, 2)] q q_9) := h_10
        obtain ⟨i_11, i_12⟩ := h_10
        have hFq_9 : cFr [19, 21] [(18, 1), (20, 2)] q q_9 := (cFr.rf (q := q)).t i_12 (by decide) (by decide)
        refine dOk_B (ok_X1_payOf_s20_s2 q_9 p1 i_11 (show 0 ≤ Int32.toInt p1 ∧ Int32.toInt p1 ≤ 99 by omega)) (fun r_13 q_14 h_15 => ?_)
        replace h_15 : (TC q_14) ∧ (cFr [19, 21] [(18, 1)] q_9 q_14) ∧ (0 ≤ Int32.toInt r_13 ∧ Int32.toInt r_13 ≤ 99) := h_15
        obtain ⟨i_16, i_17, i_18⟩ := h_15
        have hFq_14 : cFr [19, 21] [(18, 1), (20, 2)] q q_14 := hFq_9.t i_17 (by decide) (by decide)
        exact dOk_some (show (TC q_14) ∧ (cFr [19, 21] [(18, 1), (20, 2)] q q_14) from ⟨i_16, hFq_14⟩)
      · refine dOk_eq (A := Int32.toInt p2) (B := 1) rfl (by decide) (fun c_19z c_19 => ?_) (fun c_20z c_20 => ?_)
        · refine dOk_V (ok_X9_seated_s0 q hT) (fun q_22 h_23 => ?_)
          replace h_23 : (TC q_22) ∧ (cFr [21] [(20, 2)] q q_22) := h_23
          obtain ⟨i_24, i_25⟩ := h_23
          have hFq_22 : cFr [19, 21] [(18, 1), (20, 2)] q q_22 := (cFr.rf (q := q)).t i_25 (by decide) (by decide)
          refine dOk_B (ok_X1_bars_s20_s2 q_22 p1 i_24) (fun r_26 q_27 h_28 => ?_)
          replace h_28 : (TC q_27) ∧ (cFr [19, 21] [(18, 1)] q_22 q_27) ∧ ((Int32.toInt r_26 = 0 ∨ Int32.toInt r_26 = 1)) := h_28
          obtain ⟨i_29, i_30, i_31⟩ := h_28
          have hFq_27 : cFr [19, 21] [(18, 1), (20, 2)] q q_27 := hFq_22.t i_30 (by decide) (by decide)
          refine dOk_V (ok_X9_bit r_26) (fun r_32 h_33 => ?_)
          replace h_33 : ((Int32.toInt r_32 = 0 ∨ Int32.toInt r_32 = 1)) := h_33
          have i_34 := h_33
          unfold zX9_asks_s0_68
          exact dOk_some (show (TC q_27) ∧ (cFr [19, 21] [(18, 1), (20, 2)] q q_27) from ⟨i_29, hFq_27⟩)
        · unfold zX9_asks_s0_68
          exact dOk_some (show (TC q) ∧ (cFr [19, 21] [(18, 1), (20, 2)] q q) from ⟨hT, (cFr.rf (q := q))⟩)
    · unfold zX9_asks_s0_19
      exact dOk_some (show (TC q) ∧ (cFr [19, 21] [(18, 1), (20, 2)] q q) from ⟨hT, (cFr.rf (q := q))⟩)

set_option maxHeartbeats 4000000 in
set_option maxRecDepth 100000 in
theorem ok_X9_move_s0 (q : dK) (p1 : Int32) (p2 : Int32) (hT : TC q) : dOk (zX9_move_s0 q p1 p2) (fun (o : Int32 × dK) => (TC o.2) ∧ (cFr [3, 4, 12, 19, 21, 48] [(0, 18), (2, 3), (2, 4), (10, 2), (18, 1), (20, 2)] q o.2)) := by
  unfold zX9_move_s0
  refine dOk_B (ok_X8_pack_s2 q hT) (fun r_1 q_2 h_3 => ?_)
  replace h_3 : (q_2 = q) ∧ (0 ≤ Int64.toInt r_1) := h_3
  obtain ⟨i_4, i_5⟩ := h_3
  subst q_2
  refine dOk_V (ok_X9_seated_s0 q hT) (fun q_6 h_7 => ?_)
  replace h_7 : (TC q_6) ∧ (cFr [21] [(20, 2)] q q_6) := h_7
  obtain ⟨i_8, i_9⟩ := h_7
  have hFq_6 : cFr [3, 4, 12, 19, 21, 48] [(0, 18), (2, 3), (2, 4), (10, 2), (18, 1), (20, 2)] q q_6 := (cFr.rf (q := q)).t i_9 (by decide) (by decide)
  refine dOk_B (ok_X8_act_s2_s20 q_6 p1 p2 i_8) (fun r_10 q_11 h_12 => ?_)
  replace h_12 : (TC q_11) ∧ (cFr [3, 4, 19, 21] [(2, 3), (2, 4), (18, 1)] q_6 q_11) ∧ (-3 ≤ Int32.toInt r_10 ∧ Int32.toInt r_10 ≤ 99) := h_12
  obtain ⟨i_13, i_14, i_15⟩ := h_12
  have hFq_11 : cFr [3, 4, 12, 19, 21, 48] [(0, 18), (2, 3), (2, 4), (10, 2), (18, 1), (20, 2)] q q_11 := hFq_6.t i_14 (by decide) (by decide)
  refine dOk_le (A := 0) (B := Int32.toInt r_10) (by decide) rfl (fun c_16 => ?_) (fun c_17 => ?_)
  · refine dOk_V (ok_X0_keep_s10 q_11 p1 (r_1) i_13 (show 0 ≤ Int64.toInt (r_1) by omega)) (fun q_18 h_19 => ?_)
    replace h_19 : (TC q_18) ∧ (cFr [12] [(10, 2)] q_11 q_18) := h_19
    obtain ⟨i_20, i_21⟩ := h_19
    have hFq_18 : cFr [3, 4, 12, 19, 21, 48] [(0, 18), (2, 3), (2, 4), (10, 2), (18, 1), (20, 2)] q q_18 := hFq_11.t i_21 (by decide) (by decide)
    refine dOk_B (ok_X9_accept_s0 q_18 r_10 i_20) (fun r_22 q_23 h_24 => ?_)
    replace h_24 : (TC q_23) ∧ (cFr [] [(0, 18)] q_18 q_23) ∧ (Int32.toInt r_22 = Int32.toInt r_10) := h_24
    obtain ⟨i_25, i_26, i_27⟩ := h_24
    have hFq_23 : cFr [3, 4, 12, 19, 21, 48] [(0, 18), (2, 3), (2, 4), (10, 2), (18, 1), (20, 2)] q q_23 := hFq_18.t i_26 (by decide) (by decide)
    exact dOk_some (show (TC q_23) ∧ (cFr [3, 4, 12, 19, 21, 48] [(0, 18), (2, 3), (2, 4), (10, 2), (18, 1), (20, 2)] q q_23) from ⟨i_25, hFq_23⟩)
  · refine dOk_B (ok_X9_refuse_s0 q_11 r_10 i_13) (fun r_28 q_29 h_30 => ?_)
    replace h_30 : (TC q_29) ∧ (cFr [48] [(0, 18)] q_11 q_29) ∧ (Int32.toInt r_28 = Int32.toInt r_10) := h_30
    obtain ⟨i_31, i_32, i_33⟩ := h_30
    have hFq_29 : cFr [3, 4, 12, 19, 21, 48] [(0, 18), (2, 3), (2, 4), (10, 2), (18, 1), (20, 2)] q q_29 := hFq_11.t i_32 (by decide) (by decide)
    exact dOk_some (show (TC q_29) ∧ (cFr [3, 4, 12, 19, 21, 48] [(0, 18), (2, 3), (2, 4), (10, 2), (18, 1), (20, 2)] q q_29) from ⟨i_31, hFq_29⟩)

set_option maxHeartbeats 4000000 in
set_option maxRecDepth 100000 in
theorem ok_X9_turn_s0 (q : dK) (p1 : Int32) (hT : TC q) : dOk (zX9_turn_s0 q p1) (fun (o : Int32 × dK) => (TC o.2) ∧ (cFr [3, 4, 12, 19, 21, 48] [(0, 18), (2, 3), (2, 4), (10, 2), (18, 1), (20, 2)] q o.2)) := by
  unfold zX9_turn_s0
  refine dOk_B (ok_X9_move_s0 q 0 p1 hT) (fun r_1 q_2 h_3 => ?_)
  replace h_3 : (TC q_2) ∧ (cFr [3, 4, 12, 19, 21, 48] [(0, 18), (2, 3), (2, 4), (10, 2), (18, 1), (20, 2)] q q_2) := h_3
  obtain ⟨i_4, i_5⟩ := h_3
  have hFq_2 : cFr [3, 4, 12, 19, 21, 48] [(0, 18), (2, 3), (2, 4), (10, 2), (18, 1), (20, 2)] q q_2 := (cFr.rf (q := q)).t i_5 (by decide) (by decide)
  exact dOk_some (show (TC q_2) ∧ (cFr [3, 4, 12, 19, 21, 48] [(0, 18), (2, 3), (2, 4), (10, 2), (18, 1), (20, 2)] q q_2) from ⟨i_4, hFq_2⟩)

set_option maxHeartbeats 4000000 in
set_option maxRecDepth 100000 in
theorem ok_X9_right_s0 (q : dK) (p1 : Int32) (hT : TC q) : dOk (zX9_right_s0 q p1) (fun (o : Int32 × dK) => (TC o.2) ∧ (cFr [3, 4, 12, 19, 21, 48] [(0, 18), (2, 3), (2, 4), (10, 2), (18, 1), (20, 2)] q o.2)) := by
  unfold zX9_right_s0
  refine dOk_B (ok_X9_move_s0 q 1 p1 hT) (fun r_1 q_2 h_3 => ?_)
  replace h_3 : (TC q_2) ∧ (cFr [3, 4, 12, 19, 21, 48] [(0, 18), (2, 3), (2, 4), (10, 2), (18, 1), (20, 2)] q q_2) := h_3
  obtain ⟨i_4, i_5⟩ := h_3
  have hFq_2 : cFr [3, 4, 12, 19, 21, 48] [(0, 18), (2, 3), (2, 4), (10, 2), (18, 1), (20, 2)] q q_2 := (cFr.rf (q := q)).t i_5 (by decide) (by decide)
  exact dOk_some (show (TC q_2) ∧ (cFr [3, 4, 12, 19, 21, 48] [(0, 18), (2, 3), (2, 4), (10, 2), (18, 1), (20, 2)] q q_2) from ⟨i_4, hFq_2⟩)

set_option maxHeartbeats 4000000 in
set_option maxRecDepth 100000 in
theorem ok_X9_swap_s0 (q : dK) (p1 : Int32) (hT : TC q) : dOk (zX9_swap_s0 q p1) (fun (o : Int32 × dK) => (TC o.2) ∧ (cFr [3, 4, 12, 19, 21, 48] [(0, 18), (2, 3), (2, 4), (10, 2), (18, 1), (20, 2)] q o.2)) := by
  unfold zX9_swap_s0
  refine dOk_B (ok_X9_move_s0 q 2 p1 hT) (fun r_1 q_2 h_3 => ?_)
  replace h_3 : (TC q_2) ∧ (cFr [3, 4, 12, 19, 21, 48] [(0, 18), (2, 3), (2, 4), (10, 2), (18, 1), (20, 2)] q q_2) := h_3
  obtain ⟨i_4, i_5⟩ := h_3
  have hFq_2 : cFr [3, 4, 12, 19, 21, 48] [(0, 18), (2, 3), (2, 4), (10, 2), (18, 1), (20, 2)] q q_2 := (cFr.rf (q := q)).t i_5 (by decide) (by decide)
  exact dOk_some (show (TC q_2) ∧ (cFr [3, 4, 12, 19, 21, 48] [(0, 18), (2, 3), (2, 4), (10, 2), (18, 1), (20, 2)] q q_2) from ⟨i_4, hFq_2⟩)

set_option maxHeartbeats 4000000 in
set_option maxRecDepth 100000 in
theorem ok_X9_pass_s0 (q : dK) (hT : TC q) : dOk (zX9_pass_s0 q) (fun (o : Int32 × dK) => (TC o.2) ∧ (cFr [3, 4, 12, 19, 21, 48] [(0, 18), (2, 3), (2, 4), (10, 2), (18, 1), (20, 2)] q o.2)) := by
  unfold zX9_pass_s0
  refine dOk_B (ok_X9_move_s0 q 3 0 hT) (fun r_1 q_2 h_3 => ?_)
  replace h_3 : (TC q_2) ∧ (cFr [3, 4, 12, 19, 21, 48] [(0, 18), (2, 3), (2, 4), (10, 2), (18, 1), (20, 2)] q q_2) := h_3
  obtain ⟨i_4, i_5⟩ := h_3
  have hFq_2 : cFr [3, 4, 12, 19, 21, 48] [(0, 18), (2, 3), (2, 4), (10, 2), (18, 1), (20, 2)] q q_2 := (cFr.rf (q := q)).t i_5 (by decide) (by decide)
  exact dOk_some (show (TC q_2) ∧ (cFr [3, 4, 12, 19, 21, 48] [(0, 18), (2, 3), (2, 4), (10, 2), (18, 1), (20, 2)] q q_2) from ⟨i_4, hFq_2⟩)

set_option maxHeartbeats 4000000 in
set_option maxRecDepth 100000 in
theorem ok_X9_was_s0 (q : dK) (hT : TC q) : dOk (zX9_was_s0 q) (fun (o : Int32 × dK) => (TC o.2) ∧ (cFr [19, 21] [(18, 1), (20, 2)] q o.2)) := by
  unfold zX9_was_s0
  refine dOk_V (ok_X9_seated_s0 q hT) (fun q_1 h_2 => ?_)
  replace h_2 : (TC q_1) ∧ (cFr [21] [(20, 2)] q q_1) := h_2
  obtain ⟨i_3, i_4⟩ := h_2
  have hFq_1 : cFr [19, 21] [(18, 1), (20, 2)] q q_1 := (cFr.rf (q := q)).t i_4 (by decide) (by decide)
  unfold zX9_was_s0_9
  refine dFix_ok (fun (a : dK × Int32 × Int32) => (TC a.1) ∧ (cFr [19, 21] [(18, 1)] q_1 a.1) ∧ (1 ≤ Int32.toInt a.2.2) ∧ (Int32.toInt a.2.2 ≤ 7)) (fun (a : dK × Int32 × Int32) => (7 - Int32.toInt a.2.2).toNat) ?_ _ ?_ _ (dF_gt ?_)
  · intro a ha k_6 hk_5
    obtain ⟨q_7, x2_8, x3_9⟩ := a
    replace ha : (TC q_7) ∧ (cFr [19, 21] [(18, 1)] q_1 q_7) ∧ (1 ≤ Int32.toInt x3_9) ∧ (Int32.toInt x3_9 ≤ 7) := ha
    obtain ⟨a_10, a_11, a_12, a_13⟩ := ha
    show dOk (zX9_was_s0_9b  (fun q x2 x3 => k_6 (q, x2, x3)) q_7 x2_8 x3_9) _
    unfold zX9_was_s0_9b
    have hFq_7 : cFr [19, 21] [(18, 1), (20, 2)] q q_7 := hFq_1.t a_11 (by decide) (by decide)
    have f_14 : 0 ≤ Int32.toInt (q_7.1 2 2) ∧ Int32.toInt (q_7.1 2 2) ≤ 6 := rg_2_2 a_10
    have f_15 : 0 ≤ Int32.toInt (q_1.1 2 2) ∧ Int32.toInt (q_1.1 2 2) ≤ 6 := rg_2_2 i_3
    have f_16 : 0 ≤ Int32.toInt (q.1 2 2) ∧ Int32.toInt (q.1 2 2) ≤ 6 := rg_2_2 hT
    have w_17 : Int32.toInt (q_1.1 2 2) = Int32.toInt (q.1 2 2) := by rw [i_4.1 2 2 (by decide) (by decide)]
    have w_18 : Int32.toInt (q_7.1 2 2) = Int32.toInt (q_1.1 2 2) := by rw [a_11.1 2 2 (by decide) (by decide)]
    refine dOk_lt (A := Int32.toInt (q_7.1 2 2)) (B := Int32.toInt x3_9) rfl rfl (fun c_19 => ?_) (fun c_20 => ?_)
    · exact dOk_some (show (TC q_7) ∧ (cFr [19, 21] [(18, 1), (20, 2)] q q_7) from ⟨a_10, hFq_7⟩)
    · refine dOk_B (ok_X1_bars_s20_s2 q_7 x3_9 a_10) (fun r_21 q_22 h_23 => ?_)
      replace h_23 : (TC q_22) ∧ (cFr [19, 21] [(18, 1)] q_7 q_22) ∧ ((Int32.toInt r_21 = 0 ∨ Int32.toInt r_21 = 1)) := h_23
      obtain ⟨i_24, i_25, i_26⟩ := h_23
      have hFq_22 : cFr [19, 21] [(18, 1), (20, 2)] q q_22 := hFq_7.t i_25 (by decide) (by decide)
      refine dOk_eq (A := Int32.toInt r_21) (B := 0) rfl (by decide) (fun c_27z c_27 => ?_) (fun c_28z c_28 => ?_)
      · refine dOk_B (ok_X6_agrees_s1 q_22 x3_9 i_24) (fun r_30 q_31 h_32 => ?_)
        replace h_32 : (q_31 = q_22) ∧ ((Int32.toInt r_30 = 0 ∨ Int32.toInt r_30 = 1)) := h_32
        obtain ⟨i_33, i_34⟩ := h_32
        subst q_31
        refine dOk_eq (A := Int32.toInt r_30) (B := 0) rfl (by decide) (fun c_35z c_35 => ?_) (fun c_36z c_36 => ?_)
        · unfold zX9_was_s0_55
          try have t_38 : Int32.toInt (x3_9 + 1) = Int32.toInt x3_9 + 1 := ti_add rfl (by decide) (by omega) (by omega)
          exact hk_5 (q_22, x2_8, (x3_9 + 1)) (show (TC q_22) ∧ (cFr [19, 21] [(18, 1)] q_1 q_22) ∧ (1 ≤ Int32.toInt (x3_9 + 1)) ∧ (Int32.toInt (x3_9 + 1) ≤ 7) from ⟨i_24, ((((cFr.rf : cFr [19, 21] [(18, 1)] q_1 q_1).t a_11 (by decide) (by decide)) : cFr [19, 21] [(18, 1)] q_1 q_7).t i_25 (by decide) (by decide)), by omega, by omega⟩) (show (7 - Int32.toInt (x3_9 + 1)).toNat < (7 - Int32.toInt x3_9).toNat by omega)
        · unfold zX9_was_s0_55
          try have t_39 := ti_shlP (s := x3_9) (by omega) (by omega)
          try have t_40 := ti_shl5 (x := 1) (s := x3_9) (by decide) (by decide) (by omega) (by omega)
          try have t_41 := ti_shl6 (x := 1) (s := x3_9) (by decide) (by decide) (by omega) (by omega)
          try have t_42 := ti_or (x := x2_8) (y := 1 <<< ((x3_9 : Int32) &&& 31)) 6 (by decide) (by omega) (by omega) (by omega) (by omega)
          try have t_43 : Int32.toInt (x3_9 + 1) = Int32.toInt x3_9 + 1 := ti_add rfl (by decide) (by omega) (by omega)
          exact hk_5 (q_22, (x2_8 ||| 1 <<< ((x3_9 : Int32) &&& 31)), (x3_9 + 1)) (show (TC q_22) ∧ (cFr [19, 21] [(18, 1)] q_1 q_22) ∧ (1 ≤ Int32.toInt (x3_9 + 1)) ∧ (Int32.toInt (x3_9 + 1) ≤ 7) from ⟨i_24, ((((cFr.rf : cFr [19, 21] [(18, 1)] q_1 q_1).t a_11 (by decide) (by decide)) : cFr [19, 21] [(18, 1)] q_1 q_7).t i_25 (by decide) (by decide)), by omega, by omega⟩) (show (7 - Int32.toInt (x3_9 + 1)).toNat < (7 - Int32.toInt x3_9).toNat by omega)
      · unfold zX9_was_s0_55
        try have t_44 : Int32.toInt (x3_9 + 1) = Int32.toInt x3_9 + 1 := ti_add rfl (by decide) (by omega) (by omega)
        exact hk_5 (q_22, x2_8, (x3_9 + 1)) (show (TC q_22) ∧ (cFr [19, 21] [(18, 1)] q_1 q_22) ∧ (1 ≤ Int32.toInt (x3_9 + 1)) ∧ (Int32.toInt (x3_9 + 1) ≤ 7) from ⟨i_24, ((((cFr.rf : cFr [19, 21] [(18, 1)] q_1 q_1).t a_11 (by decide) (by decide)) : cFr [19, 21] [(18, 1)] q_1 q_7).t i_25 (by decide) (by decide)), by omega, by omega⟩) (show (7 - Int32.toInt (x3_9 + 1)).toNat < (7 - Int32.toInt x3_9).toNat by omega)
  · exact (show (TC q_1) ∧ (cFr [19, 21] [(18, 1)] q_1 q_1) ∧ (1 ≤ (1 : Int)) ∧ ((1 : Int) ≤ 7) from ⟨i_3, cFr.rf, by omega, by omega⟩)
  · show (7 - (1 : Int)).toNat < 1000000000000
    omega

set_option maxHeartbeats 4000000 in
set_option maxRecDepth 100000 in
theorem ok_X9_look_s0 (q : dK) (p1 : Int32) (hT : TC q) : dOk (zX9_look_s0 q p1) (fun (o : Int32 × dK) => (TC o.2) ∧ (cFr [19, 21] [(18, 1), (20, 2)] q o.2)) := by
  unfold zX9_look_s0
  refine dOk_B (ok_X9_was_s0 q hT) (fun r_1 q_2 h_3 => ?_)
  replace h_3 : (TC q_2) ∧ (cFr [19, 21] [(18, 1), (20, 2)] q q_2) := h_3
  obtain ⟨i_4, i_5⟩ := h_3
  have hFq_2 : cFr [19, 21] [(18, 1), (20, 2)] q q_2 := (cFr.rf (q := q)).t i_5 (by decide) (by decide)
  refine dOk_eq (A := Int32.toInt r_1) (B := 0) rfl (by decide) (fun c_6z c_6 => ?_) (fun c_7z c_7 => ?_)
  · unfold zX9_look_s0_16
    exact dOk_some (show (TC q_2) ∧ (cFr [19, 21] [(18, 1), (20, 2)] q q_2) from ⟨i_4, hFq_2⟩)
  · refine dOk_V (ok_X9_isBit p1) (fun r_9 h_10 => ?_)
    replace h_10 : ((Int32.toInt r_9 = 1 ∧ 0 ≤ Int32.toInt p1 ∧ Int32.toInt p1 ≤ 1) ∨ (Int32.toInt r_9 = 0 ∧ (Int32.toInt p1 < 0 ∨ 1 < Int32.toInt p1))) := h_10
    have i_11 := h_10
    refine dOk_eq (A := Int32.toInt r_9) (B := 0) rfl (by decide) (fun c_12z c_12 => ?_) (fun c_13z c_13 => ?_)
    · unfold zX9_look_s0_16
      exact dOk_some (show (TC q_2) ∧ (cFr [19, 21] [(18, 1), (20, 2)] q q_2) from ⟨i_4, hFq_2⟩)
    · refine dOk_B (ok_X8_mostAlike_s2 q_2 r_1 0 i_4) (fun r_15 q_16 h_17 => ?_)
      replace h_17 : (q_16 = q_2) := h_17
      have i_18 := h_17
      subst q_16
      unfold zX9_look_s0_37
      refine dFix_ok (fun (a : dK × Int32 × Int32 × Int32 × Int32 × Int32) => (a.1 = q_2) ∧ (a.2.1 = p1) ∧ (a.2.2.1 = r_1) ∧ (1 ≤ Int32.toInt a.2.2.2.2.2) ∧ (Int32.toInt a.2.2.2.2.2 ≤ 7)) (fun (a : dK × Int32 × Int32 × Int32 × Int32 × Int32) => (7 - Int32.toInt a.2.2.2.2.2).toNat) ?_ _ ?_ _ (dF_gt ?_)
      · intro a ha k_20 hk_19
        obtain ⟨q_21, x1_22, x2_23, x3_24, x4_25, x5_26⟩ := a
        replace ha : (q_21 = q_2) ∧ (x1_22 = p1) ∧ (x2_23 = r_1) ∧ (1 ≤ Int32.toInt x5_26) ∧ (Int32.toInt x5_26 ≤ 7) := ha
        obtain ⟨a_27, a_28, a_29, a_30, a_31⟩ := ha
        show dOk (zX9_look_s0_37b  (fun q x1 x2 x3 x4 x5 => k_20 (q, x1, x2, x3, x4, x5)) q_21 x1_22 x2_23 x3_24 x4_25 x5_26) _
        unfold zX9_look_s0_37b
        subst q_21
        subst x1_22
        subst x2_23
        have f_32 : 0 ≤ Int32.toInt (q_2.1 2 2) ∧ Int32.toInt (q_2.1 2 2) ≤ 6 := rg_2_2 i_4
        have f_33 : 0 ≤ Int32.toInt (q.1 2 2) ∧ Int32.toInt (q.1 2 2) ≤ 6 := rg_2_2 hT
        have w_34 : Int32.toInt (q_2.1 2 2) = Int32.toInt (q.1 2 2) := by rw [i_5.1 2 2 (by decide) (by decide)]
        refine dOk_le (A := Int32.toInt (q_2.1 2 2)) (B := Int32.toInt x5_26) rfl rfl (fun c_35 => ?_) (fun c_36 => ?_)
        · refine dOk_eq (A := Int32.toInt p1) (B := 0) rfl (by decide) (fun c_37z c_37 => ?_) (fun c_38z c_38 => ?_)
          · unfold zX9_look_s0_97
            exact dOk_some (show (TC q_2) ∧ (cFr [19, 21] [(18, 1), (20, 2)] q q_2) from ⟨i_4, hFq_2⟩)
          · unfold zX9_look_s0_97
            exact dOk_some (show (TC q_2) ∧ (cFr [19, 21] [(18, 1), (20, 2)] q q_2) from ⟨i_4, hFq_2⟩)
        · refine dOk_B (ok_X8_mostAlike_s2 q_2 r_1 x5_26 i_4) (fun r_40 q_41 h_42 => ?_)
          replace h_42 : (q_41 = q_2) := h_42
          have i_43 := h_42
          subst q_41
          refine dOk_le (A := Int32.toInt x4_25) (B := Int32.toInt r_40) rfl rfl (fun c_44 => ?_) (fun c_45 => ?_)
          · unfold zX9_look_s0_81
            try have t_46 : Int32.toInt (x5_26 + 1) = Int32.toInt x5_26 + 1 := ti_add rfl (by decide) (by omega) (by omega)
            exact hk_19 (q_2, p1, r_1, x3_24, x4_25, (x5_26 + 1)) (show (q_2 = q_2) ∧ (p1 = p1) ∧ (r_1 = r_1) ∧ (1 ≤ Int32.toInt (x5_26 + 1)) ∧ (Int32.toInt (x5_26 + 1) ≤ 7) from ⟨rfl, rfl, rfl, by omega, by omega⟩) (show (7 - Int32.toInt (x5_26 + 1)).toNat < (7 - Int32.toInt x5_26).toNat by omega)
          · unfold zX9_look_s0_81
            try have t_47 : Int32.toInt (x5_26 + 1) = Int32.toInt x5_26 + 1 := ti_add rfl (by decide) (by omega) (by omega)
            exact hk_19 (q_2, p1, r_1, x5_26, r_40, (x5_26 + 1)) (show (q_2 = q_2) ∧ (p1 = p1) ∧ (r_1 = r_1) ∧ (1 ≤ Int32.toInt (x5_26 + 1)) ∧ (Int32.toInt (x5_26 + 1) ≤ 7) from ⟨rfl, rfl, rfl, by omega, by omega⟩) (show (7 - Int32.toInt (x5_26 + 1)).toNat < (7 - Int32.toInt x5_26).toNat by omega)
      · exact (show (q_2 = q_2) ∧ (p1 = p1) ∧ (r_1 = r_1) ∧ (1 ≤ (1 : Int)) ∧ ((1 : Int) ≤ 7) from ⟨rfl, rfl, rfl, by omega, by omega⟩)
      · show (7 - (1 : Int)).toNat < 1000000000000
        omega

set_option maxHeartbeats 4000000 in
set_option maxRecDepth 100000 in
theorem ok_X9_stays_s0 (q : dK) (p1 : Int32) (hT : TC q) : dOk (zX9_stays_s0 q p1) (fun (o : Int32 × dK) => (o.2 = q)) := by
  unfold zX9_stays_s0
  refine dOk_V (ok_X9_isBit p1) (fun r_1 h_2 => ?_)
  replace h_2 : ((Int32.toInt r_1 = 1 ∧ 0 ≤ Int32.toInt p1 ∧ Int32.toInt p1 ≤ 1) ∨ (Int32.toInt r_1 = 0 ∧ (Int32.toInt p1 < 0 ∨ 1 < Int32.toInt p1))) := h_2
  have i_3 := h_2
  refine dOk_eq (A := Int32.toInt r_1) (B := 0) rfl (by decide) (fun c_4z c_4 => ?_) (fun c_5z c_5 => ?_)
  · exact dOk_some (show (q = q) from rfl)
  · unfold zX9_stays_s0_13
    refine dFix_ok (fun (a : dK × Int32 × Int32 × Int32) => (a.1 = q) ∧ (a.2.1 = p1) ∧ (0 ≤ Int32.toInt a.2.2.2) ∧ (Int32.toInt a.2.2.2 ≤ 64)) (fun (a : dK × Int32 × Int32 × Int32) => (64 - Int32.toInt a.2.2.2).toNat) ?_ _ ?_ _ (dF_gt ?_)
    · intro a ha k_8 hk_7
      obtain ⟨q_9, x1_10, x2_11, x3_12⟩ := a
      replace ha : (q_9 = q) ∧ (x1_10 = p1) ∧ (0 ≤ Int32.toInt x3_12) ∧ (Int32.toInt x3_12 ≤ 64) := ha
      obtain ⟨a_13, a_14, a_15, a_16⟩ := ha
      show dOk (zX9_stays_s0_13b  (fun q x1 x2 x3 => k_8 (q, x1, x2, x3)) q_9 x1_10 x2_11 x3_12) _
      unfold zX9_stays_s0_13b
      subst q_9
      subst x1_10
      have f_17 : 0 ≤ Int32.toInt (q.1 2 2) ∧ Int32.toInt (q.1 2 2) ≤ 6 := rg_2_2 hT
      try have t_18 := ti_shlP (s := q.1 2 2) (by omega) (by omega)
      try have t_19 := ti_shl5 (x := 1) (s := q.1 2 2) (by decide) (by decide) (by omega) (by omega)
      try have t_20 := ti_shl6 (x := 1) (s := q.1 2 2) (by decide) (by decide) (by omega) (by omega)
      refine dOk_le (A := Int32.toInt (1 <<< ((q.1 2 2 : Int32) &&& 31))) (B := Int32.toInt x3_12) rfl rfl (fun c_21 => ?_) (fun c_22 => ?_)
      · refine dOk_eq (A := Int32.toInt p1) (B := 0) rfl (by decide) (fun c_23z c_23 => ?_) (fun c_24z c_24 => ?_)
        · refine dOk_V (ok_J6_bitCount_0f7a4 x2_11) (fun r_26 h_27 => ?_)
          replace h_27 : (0 ≤ Int32.toInt r_26 ∧ Int32.toInt r_26 ≤ 63) := h_27
          have i_28 := h_27
          unfold zX9_stays_s0_81
          exact dOk_some (show (q = q) from rfl)
        · unfold zX9_stays_s0_81
          exact dOk_some (show (q = q) from rfl)
      · refine dOk_V (ok_J6_bitCount_0f7a4 x3_12) (fun r_29 h_30 => ?_)
        replace h_30 : (0 ≤ Int32.toInt r_29 ∧ Int32.toInt r_29 ≤ 63) := h_30
        have i_31 := h_30
        refine dOk_V (ok_J6_bitCount_0f7a4 x2_11) (fun r_32 h_33 => ?_)
        replace h_33 : (0 ≤ Int32.toInt r_32 ∧ Int32.toInt r_32 ≤ 63) := h_33
        have i_34 := h_33
        refine dOk_le (A := Int32.toInt r_29) (B := Int32.toInt r_32) rfl rfl (fun c_35 => ?_) (fun c_36 => ?_)
        · unfold zX9_stays_s0_63
          try have t_37 : Int32.toInt (x3_12 + 1) = Int32.toInt x3_12 + 1 := ti_add rfl (by decide) (by omega) (by omega)
          exact hk_7 (q, p1, x2_11, (x3_12 + 1)) (show (q = q) ∧ (p1 = p1) ∧ (0 ≤ Int32.toInt (x3_12 + 1)) ∧ (Int32.toInt (x3_12 + 1) ≤ 64) from ⟨rfl, rfl, by omega, by omega⟩) (show (64 - Int32.toInt (x3_12 + 1)).toNat < (64 - Int32.toInt x3_12).toNat by omega)
        · refine dOk_B (ok_X8_rises_s2 q x3_12 (q.1 1 3) hT) (fun r_38 q_39 h_40 => ?_)
          replace h_40 : (q_39 = q) ∧ ((Int32.toInt r_38 = 0 ∨ Int32.toInt r_38 = 1)) := h_40
          obtain ⟨i_41, i_42⟩ := h_40
          subst q_39
          refine dOk_eq (A := Int32.toInt r_38) (B := 0) rfl (by decide) (fun c_43z c_43 => ?_) (fun c_44z c_44 => ?_)
          · unfold zX9_stays_s0_63
            try have t_46 : Int32.toInt (x3_12 + 1) = Int32.toInt x3_12 + 1 := ti_add rfl (by decide) (by omega) (by omega)
            exact hk_7 (q, p1, x2_11, (x3_12 + 1)) (show (q = q) ∧ (p1 = p1) ∧ (0 ≤ Int32.toInt (x3_12 + 1)) ∧ (Int32.toInt (x3_12 + 1) ≤ 64) from ⟨rfl, rfl, by omega, by omega⟩) (show (64 - Int32.toInt (x3_12 + 1)).toNat < (64 - Int32.toInt x3_12).toNat by omega)
          · unfold zX9_stays_s0_63
            try have t_47 : Int32.toInt (x3_12 + 1) = Int32.toInt x3_12 + 1 := ti_add rfl (by decide) (by omega) (by omega)
            exact hk_7 (q, p1, x3_12, (x3_12 + 1)) (show (q = q) ∧ (p1 = p1) ∧ (0 ≤ Int32.toInt (x3_12 + 1)) ∧ (Int32.toInt (x3_12 + 1) ≤ 64) from ⟨rfl, rfl, by omega, by omega⟩) (show (64 - Int32.toInt (x3_12 + 1)).toNat < (64 - Int32.toInt x3_12).toNat by omega)
    · exact (show (q = q) ∧ (p1 = p1) ∧ (0 ≤ (1 : Int)) ∧ ((1 : Int) ≤ 64) from ⟨rfl, rfl, by omega, by omega⟩)
    · show (64 - (1 : Int)).toNat < 1000000000000
      omega

set_option maxHeartbeats 4000000 in
set_option maxRecDepth 100000 in
theorem ok_X9_few_s0 (q : dK) (p1 : Int32) (p2 : Int32) (hT : TC q) : dOk (zX9_few_s0 q p1 p2) (fun (o : Int64 × dK) => (TC o.2) ∧ (cFr [] [] q o.2)) := by
  unfold zX9_few_s0
  refine dOk_lt (A := Int32.toInt p1) (B := 1) rfl (by decide) (fun c_1 => ?_) (fun c_2 => ?_)
  · unfold zX9_few_s0_21
    exact dOk_some (show (TC q) ∧ (cFr [] [] q q) from ⟨hT, (cFr.rf (q := q))⟩)
  · refine dOk_lt (A := 20) (B := Int32.toInt p1) (by decide) rfl (fun c_3 => ?_) (fun c_4 => ?_)
    · unfold zX9_few_s0_21
      exact dOk_some (show (TC q) ∧ (cFr [] [] q q) from ⟨hT, (cFr.rf (q := q))⟩)
    · refine dOk_lt (A := Int32.toInt p2) (B := 0) rfl (by decide) (fun c_5 => ?_) (fun c_6 => ?_)
      · unfold zX9_few_s0_21
        exact dOk_some (show (TC q) ∧ (cFr [] [] q q) from ⟨hT, (cFr.rf (q := q))⟩)
      · refine dOk_le (A := Int32.toInt p2) (B := 99) rfl (by decide) (fun c_7 => ?_) (fun c_8 => ?_)
        · refine dOk_L (fun q_9 eq_9 => ?_)
          have hTq_9 : TC q_9 := by rw [eq_9]; exact tc_cfl hT (by decide)
          have hFq_9 : cFr [] [] q q_9 := by rw [eq_9]; exact (cFr.rf (q := q)).fl
          refine dOk_L (fun q_10 eq_10 => ?_)
          have hTq_10 : TC q_10 := by rw [eq_10]; exact tc_l hTq_9 (fun _ => by omega)
          have hFq_10 : cFr [] [] q q_10 := by rw [eq_10]; exact hFq_9.l
          unfold zX9_few_s0_44
          refine dFix_ok (fun (a : dK × Int32 × Int32 × Int32) => (TC a.1) ∧ (cFr [] [] q_10 a.1) ∧ (a.2.1 = p1) ∧ (a.2.2.1 = p2) ∧ (0 ≤ Int32.toInt a.2.2.2) ∧ (Int32.toInt a.2.2.2 ≤ 99)) (fun (a : dK × Int32 × Int32 × Int32) => (99 - Int32.toInt a.2.2.2).toNat) ?_ _ ?_ _ (dF_gt ?_)
          · intro a ha k_12 hk_11
            obtain ⟨q_13, x1_14, x2_15, x3_16⟩ := a
            replace ha : (TC q_13) ∧ (cFr [] [] q_10 q_13) ∧ (x1_14 = p1) ∧ (x2_15 = p2) ∧ (0 ≤ Int32.toInt x3_16) ∧ (Int32.toInt x3_16 ≤ 99) := ha
            obtain ⟨a_17, a_18, a_19, a_20, a_21, a_22⟩ := ha
            show dOk (zX9_few_s0_44b  (fun q x1 x2 x3 => k_12 (q, x1, x2, x3)) q_13 x1_14 x2_15 x3_16) _
            unfold zX9_few_s0_44b
            have hFq_13 : cFr [] [] q q_13 := hFq_10.t a_18 (by decide) (by decide)
            subst x1_14
            subst x2_15
            refine dOk_le (A := Int32.toInt p2) (B := Int32.toInt x3_16) rfl rfl (fun c_23 => ?_) (fun c_24 => ?_)
            · unfold zX9_few_s0_146
              refine dFix_ok (fun (a : dK × Int32 × Int64 × Int32) => (a.1 = q_13) ∧ (a.2.1 = p1) ∧ (0 ≤ Int32.toInt a.2.2.2) ∧ (Int32.toInt a.2.2.2 ≤ 20)) (fun (a : dK × Int32 × Int64 × Int32) => (20 - Int32.toInt a.2.2.2).toNat) ?_ _ ?_ _ (dF_gt ?_)
              · intro a ha k_26 hk_25
                obtain ⟨q_27, x1_28, x3_29, x5_30⟩ := a
                replace ha : (q_27 = q_13) ∧ (x1_28 = p1) ∧ (0 ≤ Int32.toInt x5_30) ∧ (Int32.toInt x5_30 ≤ 20) := ha
                obtain ⟨a_31, a_32, a_33, a_34⟩ := ha
                show dOk (zX9_few_s0_146b  (fun q x1 x3 x5 => k_26 (q, x1, x3, x5)) q_27 x1_28 x3_29 x5_30) _
                unfold zX9_few_s0_146b
                subst q_27
                subst x1_28
                refine dOk_le (A := Int32.toInt p1) (B := Int32.toInt x5_30) rfl rfl (fun c_35 => ?_) (fun c_36 => ?_)
                · exact dOk_some (show (TC q_13) ∧ (cFr [] [] q q_13) from ⟨a_17, hFq_13⟩)
                · refine dOk_G (dg_ok (show 0 ≤ Int32.toInt x5_30 by omega) (show Int32.toInt x5_30 < ((20 : Nat) : Int) by omega)) ?_
                  have n_37 : ((Int32.toNatClampNeg x5_30 : Nat) : Int) = Int32.toInt x5_30 := cl_eq (by omega)
                  refine dOk_L (fun v_38 ev_38 => ?_)
                  try have t_39 : Int32.toInt (x5_30 + 1) = Int32.toInt x5_30 + 1 := ti_add rfl (by decide) (by omega) (by omega)
                  exact hk_25 (q_13, p1, (x3_29 + v_38 : Int64), (x5_30 + 1)) (show (q_13 = q_13) ∧ (p1 = p1) ∧ (0 ≤ Int32.toInt (x5_30 + 1)) ∧ (Int32.toInt (x5_30 + 1) ≤ 20) from ⟨rfl, rfl, by omega, by omega⟩) (show (20 - Int32.toInt (x5_30 + 1)).toNat < (20 - Int32.toInt x5_30).toNat by omega)
              · exact (show (q_13 = q_13) ∧ (p1 = p1) ∧ (0 ≤ (0 : Int)) ∧ ((0 : Int) ≤ 20) from ⟨rfl, rfl, by omega, by omega⟩)
              · show (20 - (0 : Int)).toNat < 1000000000000
                omega
            · unfold zX9_few_s0_54
              refine dFix_ok (fun (a : dK × Int32 × Int32 × Int32 × Int32) => (TC a.1) ∧ (cFr [] [] q_13 a.1) ∧ (a.2.1 = p1) ∧ (a.2.2.1 = p2) ∧ (a.2.2.2.1 = x3_16) ∧ (-1 ≤ Int32.toInt a.2.2.2.2) ∧ (Int32.toInt a.2.2.2.2 ≤ 19)) (fun (a : dK × Int32 × Int32 × Int32 × Int32) => (Int32.toInt a.2.2.2.2 + 1).toNat) ?_ _ ?_ _ (dF_gt ?_)
              · intro a ha k_41 hk_40
                obtain ⟨q_42, x1_43, x2_44, x3_45, x4_46⟩ := a
                replace ha : (TC q_42) ∧ (cFr [] [] q_13 q_42) ∧ (x1_43 = p1) ∧ (x2_44 = p2) ∧ (x3_45 = x3_16) ∧ (-1 ≤ Int32.toInt x4_46) ∧ (Int32.toInt x4_46 ≤ 19) := ha
                obtain ⟨a_47, a_48, a_49, a_50, a_51, a_52, a_53⟩ := ha
                show dOk (zX9_few_s0_54b _ (fun q x1 x2 x3 x4 => k_41 (q, x1, x2, x3, x4)) q_42 x1_43 x2_44 x3_45 x4_46) _
                unfold zX9_few_s0_54b
                have hFq_42 : cFr [] [] q q_42 := hFq_13.t a_48 (by decide) (by decide)
                subst x1_43
                subst x2_44
                subst x3_45
                refine dOk_lt (A := Int32.toInt x4_46) (B := 0) rfl (by decide) (fun c_54 => ?_) (fun c_55 => ?_)
                · try have t_56 : Int32.toInt (x3_16 + 1) = Int32.toInt x3_16 + 1 := ti_add rfl (by decide) (by omega) (by omega)
                  exact hk_11 (q_42, p1, p2, (x3_16 + 1)) (show (TC q_42) ∧ (cFr [] [] q_10 q_42) ∧ (p1 = p1) ∧ (p2 = p2) ∧ (0 ≤ Int32.toInt (x3_16 + 1)) ∧ (Int32.toInt (x3_16 + 1) ≤ 99) from ⟨a_47, ((((cFr.rf : cFr [] [] q_10 q_10).t a_18 (by decide) (by decide)) : cFr [] [] q_10 q_13).t a_48 (by decide) (by decide)), rfl, rfl, by omega, by omega⟩) (show (99 - Int32.toInt (x3_16 + 1)).toNat < (99 - Int32.toInt x3_16).toNat by omega)
                · refine dOk_G (dg_ok (show 0 ≤ Int32.toInt x4_46 by omega) (show Int32.toInt x4_46 < ((20 : Nat) : Int) by omega)) ?_
                  have n_57 : ((Int32.toNatClampNeg x4_46 : Nat) : Int) = Int32.toInt x4_46 := cl_eq (by omega)
                  refine dOk_L (fun v_58 ev_58 => ?_)
                  refine dOk_L (fun v_59 ev_59 => ?_)
                  refine dOk_eq (A := Int32.toInt x4_46) (B := 0) rfl (by decide) (fun c_60z c_60 => ?_) (fun c_61z c_61 => ?_)
                  · unfold zX9_few_s0_115
                    refine dOk_G (dg_ok (show 0 ≤ Int32.toInt x4_46 by omega) (show Int32.toInt x4_46 < ((20 : Nat) : Int) by omega)) ?_
                    refine dOk_L (fun q_63 eq_63 => ?_)
                    have hTq_63 : TC q_63 := by rw [eq_63]; exact tc_l a_47 (fun _ => by omega)
                    have hFq_63 : cFr [] [] q q_63 := by rw [eq_63]; exact hFq_42.l
                    try have t_64 : Int32.toInt (x4_46 + (-1)) = Int32.toInt x4_46 + (-1) := ti_add rfl (by decide) (by omega) (by omega)
                    exact hk_40 (q_63, p1, p2, x3_16, (x4_46 + (-1))) (show (TC q_63) ∧ (cFr [] [] q_13 q_63) ∧ (p1 = p1) ∧ (p2 = p2) ∧ (x3_16 = x3_16) ∧ (-1 ≤ Int32.toInt (x4_46 + (-1))) ∧ (Int32.toInt (x4_46 + (-1)) ≤ 19) from ⟨hTq_63, (by rw [eq_63]; exact (((cFr.rf : cFr [] [] q_13 q_13).t a_48 (by decide) (by decide)) : cFr [] [] q_13 q_42).l), rfl, rfl, rfl, by omega, by omega⟩) (show (Int32.toInt (x4_46 + (-1)) + 1).toNat < (Int32.toInt x4_46 + 1).toNat by omega)
                  · try have t_65 : Int32.toInt (x4_46 - 1) = Int32.toInt x4_46 - 1 := ti_sub rfl (by decide) (by omega) (by omega)
                    refine dOk_G (dg_ok (show 0 ≤ Int32.toInt (x4_46 - 1) by omega) (show Int32.toInt (x4_46 - 1) < ((20 : Nat) : Int) by omega)) ?_
                    have n_66 : ((Int32.toNatClampNeg (x4_46 - 1) : Nat) : Int) = Int32.toInt (x4_46 - 1) := cl_eq (by omega)
                    refine dOk_L (fun v_67 ev_67 => ?_)
                    unfold zX9_few_s0_115
                    refine dOk_G (dg_ok (show 0 ≤ Int32.toInt x4_46 by omega) (show Int32.toInt x4_46 < ((20 : Nat) : Int) by omega)) ?_
                    refine dOk_L (fun q_68 eq_68 => ?_)
                    have hTq_68 : TC q_68 := by rw [eq_68]; exact tc_l a_47 (fun _ => by omega)
                    have hFq_68 : cFr [] [] q q_68 := by rw [eq_68]; exact hFq_42.l
                    try have t_69 : Int32.toInt (x4_46 + (-1)) = Int32.toInt x4_46 + (-1) := ti_add rfl (by decide) (by omega) (by omega)
                    exact hk_40 (q_68, p1, p2, x3_16, (x4_46 + (-1))) (show (TC q_68) ∧ (cFr [] [] q_13 q_68) ∧ (p1 = p1) ∧ (p2 = p2) ∧ (x3_16 = x3_16) ∧ (-1 ≤ Int32.toInt (x4_46 + (-1))) ∧ (Int32.toInt (x4_46 + (-1)) ≤ 19) from ⟨hTq_68, (by rw [eq_68]; exact (((cFr.rf : cFr [] [] q_13 q_13).t a_48 (by decide) (by decide)) : cFr [] [] q_13 q_42).l), rfl, rfl, rfl, by omega, by omega⟩) (show (Int32.toInt (x4_46 + (-1)) + 1).toNat < (Int32.toInt x4_46 + 1).toNat by omega)
              · try have t_70 : Int32.toInt (p1 - 1) = Int32.toInt p1 - 1 := ti_sub rfl (by decide) (by omega) (by omega)
                exact (show (TC q_13) ∧ (cFr [] [] q_13 q_13) ∧ (p1 = p1) ∧ (p2 = p2) ∧ (x3_16 = x3_16) ∧ (-1 ≤ Int32.toInt (p1 - 1)) ∧ (Int32.toInt (p1 - 1) ≤ 19) from ⟨a_17, cFr.rf, rfl, rfl, rfl, by omega, by omega⟩)
              · try have t_71 : Int32.toInt (p1 - 1) = Int32.toInt p1 - 1 := ti_sub rfl (by decide) (by omega) (by omega)
                show (Int32.toInt (p1 - 1) + 1).toNat < 1000000000000
                omega
          · exact (show (TC q_10) ∧ (cFr [] [] q_10 q_10) ∧ (p1 = p1) ∧ (p2 = p2) ∧ (0 ≤ (0 : Int)) ∧ ((0 : Int) ≤ 99) from ⟨hTq_10, cFr.rf, rfl, rfl, by omega, by omega⟩)
          · show (99 - (0 : Int)).toNat < 1000000000000
            omega
        · unfold zX9_few_s0_21
          exact dOk_some (show (TC q) ∧ (cFr [] [] q q) from ⟨hT, (cFr.rf (q := q))⟩)
