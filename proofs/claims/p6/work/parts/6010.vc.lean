set_option maxHeartbeats 4000000 in
set_option maxRecDepth 100000 in
theorem ok_X9_isRank (p1 : Int32) : dOk (zX9_isRank p1) (fun (o : Int32) => ((Int32.toInt o = 1 ∧ 0 ≤ Int32.toInt p1 ∧ Int32.toInt p1 ≤ 5) ∨ (Int32.toInt o = 0 ∧ (Int32.toInt p1 < 0 ∨ 5 < Int32.toInt p1)))) := by
  unfold zX9_isRank
  refine dOk_lt (A := Int32.toInt p1) (B := 0) rfl (by decide) (fun c_1 => ?_) (fun c_2 => ?_)
  · unfold zX9_isRank_14
    unfold zX9_isRank_15
    refine dOk_G (dbl_ok (show (0 : Int) = 0 ∨ (0 : Int) = 1 by omega)) ?_
    exact dOk_some (show (((0 : Int) = 1 ∧ 0 ≤ Int32.toInt p1 ∧ Int32.toInt p1 ≤ 5) ∨ ((0 : Int) = 0 ∧ (Int32.toInt p1 < 0 ∨ 5 < Int32.toInt p1))) from (by omega))
  · refine dOk_le (A := 6) (B := Int32.toInt p1) (by decide) rfl (fun c_3 => ?_) (fun c_4 => ?_)
    · unfold zX9_isRank_14
      unfold zX9_isRank_15
      refine dOk_G (dbl_ok (show (0 : Int) = 0 ∨ (0 : Int) = 1 by omega)) ?_
      exact dOk_some (show (((0 : Int) = 1 ∧ 0 ≤ Int32.toInt p1 ∧ Int32.toInt p1 ≤ 5) ∨ ((0 : Int) = 0 ∧ (Int32.toInt p1 < 0 ∨ 5 < Int32.toInt p1))) from (by omega))
    · unfold zX9_isRank_15
      refine dOk_G (dbl_ok (show (1 : Int) = 0 ∨ (1 : Int) = 1 by omega)) ?_
      exact dOk_some (show (((1 : Int) = 1 ∧ 0 ≤ Int32.toInt p1 ∧ Int32.toInt p1 ≤ 5) ∨ ((1 : Int) = 0 ∧ (Int32.toInt p1 < 0 ∨ 5 < Int32.toInt p1))) from (by omega))

set_option maxHeartbeats 4000000 in
set_option maxRecDepth 100000 in
theorem ok_X9_isBit (p1 : Int32) : dOk (zX9_isBit p1) (fun (o : Int32) => ((Int32.toInt o = 1 ∧ 0 ≤ Int32.toInt p1 ∧ Int32.toInt p1 ≤ 1) ∨ (Int32.toInt o = 0 ∧ (Int32.toInt p1 < 0 ∨ 1 < Int32.toInt p1)))) := by
  unfold zX9_isBit
  refine dOk_eq (A := Int32.toInt p1) (B := 0) rfl (by decide) (fun c_1z c_1 => ?_) (fun c_2z c_2 => ?_)
  · unfold zX9_isBit_9
    unfold zX9_isBit_14
    refine dOk_G (dbl_ok (show (1 : Int) = 0 ∨ (1 : Int) = 1 by omega)) ?_
    exact dOk_some (show (((1 : Int) = 1 ∧ 0 ≤ Int32.toInt p1 ∧ Int32.toInt p1 ≤ 1) ∨ ((1 : Int) = 0 ∧ (Int32.toInt p1 < 0 ∨ 1 < Int32.toInt p1))) from (by omega))
  · refine dOk_eq (A := Int32.toInt p1) (B := 1) rfl (by decide) (fun c_4z c_4 => ?_) (fun c_5z c_5 => ?_)
    · unfold zX9_isBit_9
      unfold zX9_isBit_14
      refine dOk_G (dbl_ok (show (1 : Int) = 0 ∨ (1 : Int) = 1 by omega)) ?_
      exact dOk_some (show (((1 : Int) = 1 ∧ 0 ≤ Int32.toInt p1 ∧ Int32.toInt p1 ≤ 1) ∨ ((1 : Int) = 0 ∧ (Int32.toInt p1 < 0 ∨ 1 < Int32.toInt p1))) from (by omega))
    · unfold zX9_isBit_14
      refine dOk_G (dbl_ok (show (0 : Int) = 0 ∨ (0 : Int) = 1 by omega)) ?_
      exact dOk_some (show (((0 : Int) = 1 ∧ 0 ≤ Int32.toInt p1 ∧ Int32.toInt p1 ≤ 1) ∨ ((0 : Int) = 0 ∧ (Int32.toInt p1 < 0 ∨ 1 < Int32.toInt p1))) from (by omega))

set_option maxHeartbeats 4000000 in
set_option maxRecDepth 100000 in
theorem ok_X9_isImage (p1 : Int32) : dOk (zX9_isImage p1) (fun (o : Int32) => ((Int32.toInt o = 1 ∧ 0 ≤ Int32.toInt p1 ∧ Int32.toInt p1 ≤ 1) ∨ (Int32.toInt o = 0))) := by
  unfold zX9_isImage
  refine dOk_lt (A := Int32.toInt p1) (B := 0) rfl (by decide) (fun c_1 => ?_) (fun c_2 => ?_)
  · unfold zX9_isImage_13
    unfold zX9_isImage_14
    refine dOk_G (dbl_ok (show (0 : Int) = 0 ∨ (0 : Int) = 1 by omega)) ?_
    exact dOk_some (show (((0 : Int) = 1 ∧ 0 ≤ Int32.toInt p1 ∧ Int32.toInt p1 ≤ 1) ∨ ((0 : Int) = 0)) from (by omega))
  · refine dOk_le (A := 2) (B := Int32.toInt p1) (by decide) rfl (fun c_3 => ?_) (fun c_4 => ?_)
    · unfold zX9_isImage_13
      unfold zX9_isImage_14
      refine dOk_G (dbl_ok (show (0 : Int) = 0 ∨ (0 : Int) = 1 by omega)) ?_
      exact dOk_some (show (((0 : Int) = 1 ∧ 0 ≤ Int32.toInt p1 ∧ Int32.toInt p1 ≤ 1) ∨ ((0 : Int) = 0)) from (by omega))
    · unfold zX9_isImage_14
      refine dOk_G (dbl_ok (show (1 : Int) = 0 ∨ (1 : Int) = 1 by omega)) ?_
      exact dOk_some (show (((1 : Int) = 1 ∧ 0 ≤ Int32.toInt p1 ∧ Int32.toInt p1 ≤ 1) ∨ ((1 : Int) = 0)) from (by omega))

set_option maxHeartbeats 4000000 in
set_option maxRecDepth 100000 in
theorem ok_X9_bit (p1 : Int32) : dOk (zX9_bit p1) (fun (o : Int32) => ((Int32.toInt o = 0 ∨ Int32.toInt o = 1))) := by
  unfold zX9_bit
  refine dOk_eq (A := Int32.toInt p1) (B := 0) rfl (by decide) (fun c_1z c_1 => ?_) (fun c_2z c_2 => ?_)
  · unfold zX9_bit_9
    exact dOk_some (show (((0 : Int) = 0 ∨ (0 : Int) = 1)) from (by omega))
  · unfold zX9_bit_9
    exact dOk_some (show (((1 : Int) = 0 ∨ (1 : Int) = 1)) from (by omega))

set_option maxHeartbeats 4000000 in
set_option maxRecDepth 100000 in
theorem ok_X9_mostOfTerm (p1 : Int32) : dOk (zX9_mostOfTerm p1) (fun (o : Int32) => ((Int32.toInt p1 = 0 ∧ Int32.toInt o = 999) ∨ (Int32.toInt p1 = 1 ∧ Int32.toInt o = 10) ∨ (Int32.toInt p1 = 2 ∧ Int32.toInt o = 9) ∨ (Int32.toInt p1 = 3 ∧ Int32.toInt o = 1) ∨ (Int32.toInt o = -1 ∧ ¬ Int32.toInt p1 = 1))) := by
  unfold zX9_mostOfTerm
  refine dOk_eq (A := Int32.toInt p1) (B := 0) rfl (by decide) (fun c_1z c_1 => ?_) (fun c_2z c_2 => ?_)
  · exact dOk_some (show ((Int32.toInt p1 = 0 ∧ (999 : Int) = 999) ∨ (Int32.toInt p1 = 1 ∧ (999 : Int) = 10) ∨ (Int32.toInt p1 = 2 ∧ (999 : Int) = 9) ∨ (Int32.toInt p1 = 3 ∧ (999 : Int) = 1) ∨ ((999 : Int) = -1 ∧ ¬ Int32.toInt p1 = 1)) from (by omega))
  · refine dOk_eq (A := Int32.toInt p1) (B := 1) rfl (by decide) (fun c_4z c_4 => ?_) (fun c_5z c_5 => ?_)
    · exact dOk_some (show ((Int32.toInt p1 = 0 ∧ (10 : Int) = 999) ∨ (Int32.toInt p1 = 1 ∧ (10 : Int) = 10) ∨ (Int32.toInt p1 = 2 ∧ (10 : Int) = 9) ∨ (Int32.toInt p1 = 3 ∧ (10 : Int) = 1) ∨ ((10 : Int) = -1 ∧ ¬ Int32.toInt p1 = 1)) from (by omega))
    · refine dOk_eq (A := Int32.toInt p1) (B := 2) rfl (by decide) (fun c_7z c_7 => ?_) (fun c_8z c_8 => ?_)
      · exact dOk_some (show ((Int32.toInt p1 = 0 ∧ (9 : Int) = 999) ∨ (Int32.toInt p1 = 1 ∧ (9 : Int) = 10) ∨ (Int32.toInt p1 = 2 ∧ (9 : Int) = 9) ∨ (Int32.toInt p1 = 3 ∧ (9 : Int) = 1) ∨ ((9 : Int) = -1 ∧ ¬ Int32.toInt p1 = 1)) from (by omega))
      · refine dOk_eq (A := Int32.toInt p1) (B := 3) rfl (by decide) (fun c_10z c_10 => ?_) (fun c_11z c_11 => ?_)
        · exact dOk_some (show ((Int32.toInt p1 = 0 ∧ (1 : Int) = 999) ∨ (Int32.toInt p1 = 1 ∧ (1 : Int) = 10) ∨ (Int32.toInt p1 = 2 ∧ (1 : Int) = 9) ∨ (Int32.toInt p1 = 3 ∧ (1 : Int) = 1) ∨ ((1 : Int) = -1 ∧ ¬ Int32.toInt p1 = 1)) from (by omega))
        · exact dOk_some (show ((Int32.toInt p1 = 0 ∧ (-1 : Int) = 999) ∨ (Int32.toInt p1 = 1 ∧ (-1 : Int) = 10) ∨ (Int32.toInt p1 = 2 ∧ (-1 : Int) = 9) ∨ (Int32.toInt p1 = 3 ∧ (-1 : Int) = 1) ∨ ((-1 : Int) = -1 ∧ ¬ Int32.toInt p1 = 1)) from (by omega))

set_option maxHeartbeats 4000000 in
set_option maxRecDepth 100000 in
theorem ok_X0_clear_s10 (q : dK) (hT : TC q) : dOk (zX0_clear_s10 q) (fun (o : dK) => (TC o) ∧ (cFr [] [(10, 2)] q o)) := by
  unfold zX0_clear_s10
  refine dOk_L (fun q_1 eq_1 => ?_)
  have hTq_1 : TC q_1 := by rw [eq_1]; exact st_10_2 hT (show (0 : Int) ≤ (0 : Int) by omega) (show (0 : Int) ≤ (16 : Int) by omega)
  have hFq_1 : cFr [] [(10, 2)] q q_1 := by rw [eq_1]; exact (cFr.rf (q := q)).f (by decide)
  exact dOk_some (show (TC q_1) ∧ (cFr [] [(10, 2)] q q_1) from ⟨hTq_1, hFq_1⟩)

set_option maxHeartbeats 4000000 in
set_option maxRecDepth 100000 in
theorem ok_X9_accept_s0 (q : dK) (p1 : Int32) (hT : TC q) : dOk (zX9_accept_s0 q p1) (fun (o : Int32 × dK) => (TC o.2) ∧ (cFr [] [(0, 18)] q o.2) ∧ (Int32.toInt o.1 = Int32.toInt p1)) := by
  unfold zX9_accept_s0
  refine dOk_L (fun q_1 eq_1 => ?_)
  have hTq_1 : TC q_1 := by rw [eq_1]; exact sa_0_18 hT
  have hFq_1 : cFr [] [(0, 18)] q q_1 := by rw [eq_1]; exact (cFr.rf (q := q)).f (by decide)
  exact dOk_some (show (TC q_1) ∧ (cFr [] [(0, 18)] q q_1) ∧ (Int32.toInt p1 = Int32.toInt p1) from ⟨hTq_1, hFq_1, by omega⟩)

set_option maxHeartbeats 4000000 in
set_option maxRecDepth 100000 in
theorem ok_X7_clear_s25 (q : dK) (hT : TC q) : dOk (zX7_clear_s25 q) (fun (o : dK) => (TC o) ∧ (cFr [] [(25, 6), (25, 7)] q o)) := by
  unfold zX7_clear_s25
  refine dOk_L (fun q_1 eq_1 => ?_)
  have hTq_1 : TC q_1 := by rw [eq_1]; exact st_25_6 hT (show (0 : Int) ≤ (0 : Int) by omega) (show (0 : Int) ≤ (12 : Int) by omega)
  have hFq_1 : cFr [] [(25, 6), (25, 7)] q q_1 := by rw [eq_1]; exact (cFr.rf (q := q)).f (by decide)
  refine dOk_L (fun q_2 eq_2 => ?_)
  have hTq_2 : TC q_2 := by rw [eq_2]; exact st_25_7 hTq_1 (show (0 : Int) ≤ (0 : Int) by omega) (show (0 : Int) ≤ (400 : Int) by omega)
  have hFq_2 : cFr [] [(25, 6), (25, 7)] q q_2 := by rw [eq_2]; exact hFq_1.f (by decide)
  exact dOk_some (show (TC q_2) ∧ (cFr [] [(25, 6), (25, 7)] q q_2) from ⟨hTq_2, hFq_2⟩)

set_option maxHeartbeats 4000000 in
set_option maxRecDepth 100000 in
theorem ok_X9_bricks_s0 (q : dK) (hT : TC q) : dOk (zX9_bricks_s0 q) (fun (o : Int32 × dK) => (o.2 = q)) := by
  unfold zX9_bricks_s0
  exact dOk_some (show (q = q) from rfl)

set_option maxHeartbeats 4000000 in
set_option maxRecDepth 100000 in
theorem ok_X9_fault_s0 (q : dK) (hT : TC q) : dOk (zX9_fault_s0 q) (fun (o : Int32 × dK) => (o.2 = q)) := by
  unfold zX9_fault_s0
  exact dOk_some (show (q = q) from rfl)

set_option maxHeartbeats 4000000 in
set_option maxRecDepth 100000 in
theorem ok_X9_stopped_s0 (q : dK) (hT : TC q) : dOk (zX9_stopped_s0 q) (fun (o : Int32 × dK) => (o.2 = q)) := by
  unfold zX9_stopped_s0
  exact dOk_some (show (q = q) from rfl)

set_option maxHeartbeats 4000000 in
set_option maxRecDepth 100000 in
theorem ok_X9_status_s0 (q : dK) (hT : TC q) : dOk (zX9_status_s0 q) (fun (o : Int32 × dK) => (o.2 = q)) := by
  unfold zX9_status_s0
  exact dOk_some (show (q = q) from rfl)
