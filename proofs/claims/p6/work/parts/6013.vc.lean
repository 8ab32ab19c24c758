set_option maxHeartbeats 4000000 in
set_option maxRecDepth 100000 in
theorem ok_X6_term_s1 (q : dK) (p1 : Int32) (hT : TC q) : dOk (zX6_term_s1 q p1) (fun (o : Int32 × dK) => (o.2 = q)) := by
  unfold zX6_term_s1
  refine dOk_eq (A := Int32.toInt p1) (B := 0) rfl (by decide) (fun c_1z c_1 => ?_) (fun c_2z c_2 => ?_)
  · have f_4 : 0 ≤ Int32.toInt (q.1 2 4) ∧ Int32.toInt (q.1 2 4) ≤ 1023 := rg_2_4 hT
    exact dOk_some (show (q = q) from rfl)
  · refine dOk_eq (A := Int32.toInt p1) (B := 1) rfl (by decide) (fun c_5z c_5 => ?_) (fun c_6z c_6 => ?_)
    · have f_8 : 0 ≤ Int32.toInt (q.1 1 1) ∧ Int32.toInt (q.1 1 1) ≤ 10 := rg_1_1 hT
      exact dOk_some (show (q = q) from rfl)
    · refine dOk_eq (A := Int32.toInt p1) (B := 2) rfl (by decide) (fun c_9z c_9 => ?_) (fun c_10z c_10 => ?_)
      · exact dOk_some (show (q = q) from rfl)
      · refine dOk_eq (A := Int32.toInt p1) (B := 3) rfl (by decide) (fun c_12z c_12 => ?_) (fun c_13z c_13 => ?_)
        · exact dOk_some (show (q = q) from rfl)
        · exact dOk_some (show (q = q) from rfl)

set_option maxHeartbeats 4000000 in
set_option maxRecDepth 100000 in
theorem ok_X9_force_s0 (q : dK) (p1 : Int32) (hT : TC q) : dOk (zX9_force_s0 q p1) (fun (o : Int32 × dK) => (TC o.2) ∧ (cFr [48] [(0, 18), (1, 9)] q o.2)) := by
  unfold zX9_force_s0
  refine dOk_eq (A := Int32.toInt p1) (B := (-1)) rfl (by decide) (fun c_1z c_1 => ?_) (fun c_2z c_2 => ?_)
  · unfold zX9_force_s0_23
    refine dOk_L (fun q_4 eq_4 => ?_)
    have hTq_4 : TC q_4 := by rw [eq_4]; exact sa_1_9 hT
    have hFq_4 : cFr [48] [(0, 18), (1, 9)] q q_4 := by rw [eq_4]; exact (cFr.rf (q := q)).f (by decide)
    refine dOk_B (ok_X9_accept_s0 q_4 (q.1 1 9) hTq_4) (fun r_5 q_6 h_7 => ?_)
    replace h_7 : (TC q_6) ∧ (cFr [] [(0, 18)] q_4 q_6) ∧ (Int32.toInt r_5 = Int32.toInt (q.1 1 9)) := h_7
    obtain ⟨i_8, i_9, i_10⟩ := h_7
    have hFq_6 : cFr [48] [(0, 18), (1, 9)] q q_6 := hFq_4.t i_9 (by decide) (by decide)
    exact dOk_some (show (TC q_6) ∧ (cFr [48] [(0, 18), (1, 9)] q q_6) from ⟨i_8, hFq_6⟩)
  · refine dOk_B (ok_X6_isLaw_s1 q p1 hT) (fun r_11 q_12 h_13 => ?_)
    replace h_13 : (q_12 = q) ∧ ((Int32.toInt r_11 = 1 ∧ 0 ≤ Int32.toInt p1 ∧ Int32.toInt p1 < Int32.toInt (q.1 1 8)) ∨ (Int32.toInt r_11 = 0)) := h_13
    obtain ⟨i_14, i_15⟩ := h_13
    subst q_12
    have f_16 : 0 ≤ Int32.toInt (q.1 1 8) ∧ Int32.toInt (q.1 1 8) ≤ 6 := rg_1_8 hT
    refine dOk_eq (A := Int32.toInt r_11) (B := 0) rfl (by decide) (fun c_17z c_17 => ?_) (fun c_18z c_18 => ?_)
    · refine dOk_B (ok_X9_refuse_s0 q (-2) hT) (fun r_20 q_21 h_22 => ?_)
      replace h_22 : (TC q_21) ∧ (cFr [48] [(0, 18)] q q_21) ∧ (Int32.toInt r_20 = (-2 : Int)) := h_22
      obtain ⟨i_23, i_24, i_25⟩ := h_22
      have hFq_21 : cFr [48] [(0, 18), (1, 9)] q q_21 := (cFr.rf (q := q)).t i_24 (by decide) (by decide)
      exact dOk_some (show (TC q_21) ∧ (cFr [48] [(0, 18), (1, 9)] q q_21) from ⟨i_23, hFq_21⟩)
    · unfold zX9_force_s0_23
      refine dOk_L (fun q_26 eq_26 => ?_)
      have hTq_26 : TC q_26 := by rw [eq_26]; exact sa_1_9 hT
      have hFq_26 : cFr [48] [(0, 18), (1, 9)] q q_26 := by rw [eq_26]; exact (cFr.rf (q := q)).f (by decide)
      refine dOk_B (ok_X9_accept_s0 q_26 (q.1 1 9) hTq_26) (fun r_27 q_28 h_29 => ?_)
      replace h_29 : (TC q_28) ∧ (cFr [] [(0, 18)] q_26 q_28) ∧ (Int32.toInt r_27 = Int32.toInt (q.1 1 9)) := h_29
      obtain ⟨i_30, i_31, i_32⟩ := h_29
      have hFq_28 : cFr [48] [(0, 18), (1, 9)] q q_28 := hFq_26.t i_31 (by decide) (by decide)
      exact dOk_some (show (TC q_28) ∧ (cFr [48] [(0, 18), (1, 9)] q q_28) from ⟨i_30, hFq_28⟩)

set_option maxHeartbeats 4000000 in
set_option maxRecDepth 100000 in
theorem ok_X9_forget_s0 (q : dK) (hT : TC q) : dOk (zX9_forget_s0 q) (fun (o : Int32 × dK) => (TC o.2) ∧ (cFr [] [(1, 6)] q o.2) ∧ (Int32.toInt o.1 = Int32.toInt (q.1 1 6)) ∧ (Int32.toInt (o.2.1 1 6) = 0)) := by
  unfold zX9_forget_s0
  refine dOk_L (fun q_1 eq_1 => ?_)
  have hTq_1 : TC q_1 := by rw [eq_1]; exact st_1_6 hT (show (0 : Int) ≤ (0 : Int) by omega) (show (0 : Int) ≤ (6 : Int) by omega)
  have hFq_1 : cFr [] [(1, 6)] q q_1 := by rw [eq_1]; exact (cFr.rf (q := q)).f (by decide)
  have f_2 : 0 ≤ Int32.toInt (q.1 1 6) ∧ Int32.toInt (q.1 1 6) ≤ 6 := rg_1_6 hT
  have f_3 : 0 ≤ Int32.toInt (q_1.1 1 6) ∧ Int32.toInt (q_1.1 1 6) ≤ 6 := rg_1_6 hTq_1
  have w_4 : Int32.toInt (q_1.1 1 6) = (0 : Int) := by rw [eq_1, cui_e]; decide
  exact dOk_some (show (TC q_1) ∧ (cFr [] [(1, 6)] q q_1) ∧ (Int32.toInt (q.1 1 6) = Int32.toInt (q.1 1 6)) ∧ (Int32.toInt (q_1.1 1 6) = 0) from ⟨hTq_1, hFq_1, by omega, by omega⟩)

set_option maxHeartbeats 4000000 in
set_option maxRecDepth 100000 in
theorem ok_X6_setTerm_s1 (q : dK) (p1 : Int32) (p2 : Int32) (hT : TC q) (hp0 : 0 ≤ Int32.toInt p2) (hp1 : (Int32.toInt p1 = 0 ∧ Int32.toInt p2 ≤ 999) ∨ (Int32.toInt p1 = 1 ∧ Int32.toInt p2 ≤ 10) ∨ (¬ Int32.toInt p1 = 0 ∧ ¬ Int32.toInt p1 = 1)) : dOk (zX6_setTerm_s1 q p1 p2) (fun (o : dK) => (TC o) ∧ (cFr [] [(1, 1), (1, 2), (1, 3), (2, 4)] q o) ∧ ((Int32.toInt p1 = 1 ∧ Int32.toInt (o.1 1 1) = Int32.toInt p2) ∨ (¬ Int32.toInt p1 = 1 ∧ Int32.toInt (o.1 1 1) = Int32.toInt (q.1 1 1)))) := by
  unfold zX6_setTerm_s1
  refine dOk_eq (A := Int32.toInt p1) (B := 0) rfl (by decide) (fun c_1z c_1 => ?_) (fun c_2z c_2 => ?_)
  · refine dOk_L (fun q_4 eq_4 => ?_)
    have hTq_4 : TC q_4 := by rw [eq_4]; exact st_2_4 hT (show (0 : Int) ≤ Int32.toInt p2 by omega) (show Int32.toInt p2 ≤ (1023 : Int) by omega)
    have hFq_4 : cFr [] [(1, 1), (1, 2), (1, 3), (2, 4)] q q_4 := by rw [eq_4]; exact (cFr.rf (q := q)).f (by decide)
    unfold zX6_setTerm_s1_67
    have f_5 : 0 ≤ Int32.toInt (q_4.1 1 1) ∧ Int32.toInt (q_4.1 1 1) ≤ 10 := rg_1_1 hTq_4
    have f_6 : 0 ≤ Int32.toInt (q.1 1 1) ∧ Int32.toInt (q.1 1 1) ≤ 10 := rg_1_1 hT
    have w_7 : Int32.toInt (q_4.1 1 1) = Int32.toInt (q.1 1 1) := by rw [eq_4, cui_o (by decide)]
    exact dOk_some (show (TC q_4) ∧ (cFr [] [(1, 1), (1, 2), (1, 3), (2, 4)] q q_4) ∧ ((Int32.toInt p1 = 1 ∧ Int32.toInt (q_4.1 1 1) = Int32.toInt p2) ∨ (¬ Int32.toInt p1 = 1 ∧ Int32.toInt (q_4.1 1 1) = Int32.toInt (q.1 1 1))) from ⟨hTq_4, hFq_4, by omega⟩)
  · refine dOk_eq (A := Int32.toInt p1) (B := 1) rfl (by decide) (fun c_8z c_8 => ?_) (fun c_9z c_9 => ?_)
    · refine dOk_L (fun q_11 eq_11 => ?_)
      have hTq_11 : TC q_11 := by rw [eq_11]; exact st_1_1 hT (show (0 : Int) ≤ Int32.toInt p2 by omega) (show Int32.toInt p2 ≤ (10 : Int) by omega)
      have hFq_11 : cFr [] [(1, 1), (1, 2), (1, 3), (2, 4)] q q_11 := by rw [eq_11]; exact (cFr.rf (q := q)).f (by decide)
      unfold zX6_setTerm_s1_67
      have f_12 : 0 ≤ Int32.toInt (q_11.1 1 1) ∧ Int32.toInt (q_11.1 1 1) ≤ 10 := rg_1_1 hTq_11
      have w_13 : Int32.toInt (q_11.1 1 1) = Int32.toInt p2 := by rw [eq_11, cui_e]
      have f_14 : 0 ≤ Int32.toInt (q.1 1 1) ∧ Int32.toInt (q.1 1 1) ≤ 10 := rg_1_1 hT
      exact dOk_some (show (TC q_11) ∧ (cFr [] [(1, 1), (1, 2), (1, 3), (2, 4)] q q_11) ∧ ((Int32.toInt p1 = 1 ∧ Int32.toInt (q_11.1 1 1) = Int32.toInt p2) ∨ (¬ Int32.toInt p1 = 1 ∧ Int32.toInt (q_11.1 1 1) = Int32.toInt (q.1 1 1))) from ⟨hTq_11, hFq_11, by omega⟩)
    · refine dOk_eq (A := Int32.toInt p1) (B := 2) rfl (by decide) (fun c_15z c_15 => ?_) (fun c_16z c_16 => ?_)
      · refine dOk_L (fun q_18 eq_18 => ?_)
        have hTq_18 : TC q_18 := by rw [eq_18]; exact sa_1_2 hT
        have hFq_18 : cFr [] [(1, 1), (1, 2), (1, 3), (2, 4)] q q_18 := by rw [eq_18]; exact (cFr.rf (q := q)).f (by decide)
        unfold zX6_setTerm_s1_67
        have f_19 : 0 ≤ Int32.toInt (q_18.1 1 1) ∧ Int32.toInt (q_18.1 1 1) ≤ 10 := rg_1_1 hTq_18
        have f_20 : 0 ≤ Int32.toInt (q.1 1 1) ∧ Int32.toInt (q.1 1 1) ≤ 10 := rg_1_1 hT
        have w_21 : Int32.toInt (q_18.1 1 1) = Int32.toInt (q.1 1 1) := by rw [eq_18, cui_n (by decide)]
        exact dOk_some (show (TC q_18) ∧ (cFr [] [(1, 1), (1, 2), (1, 3), (2, 4)] q q_18) ∧ ((Int32.toInt p1 = 1 ∧ Int32.toInt (q_18.1 1 1) = Int32.toInt p2) ∨ (¬ Int32.toInt p1 = 1 ∧ Int32.toInt (q_18.1 1 1) = Int32.toInt (q.1 1 1))) from ⟨hTq_18, hFq_18, by omega⟩)
      · refine dOk_eq (A := Int32.toInt p1) (B := 3) rfl (by decide) (fun c_22z c_22 => ?_) (fun c_23z c_23 => ?_)
        · refine dOk_L (fun q_25 eq_25 => ?_)
          have hTq_25 : TC q_25 := by rw [eq_25]; exact sa_1_3 hT
          have hFq_25 : cFr [] [(1, 1), (1, 2), (1, 3), (2, 4)] q q_25 := by rw [eq_25]; exact (cFr.rf (q := q)).f (by decide)
          unfold zX6_setTerm_s1_67
          have f_26 : 0 ≤ Int32.toInt (q_25.1 1 1) ∧ Int32.toInt (q_25.1 1 1) ≤ 10 := rg_1_1 hTq_25
          have f_27 : 0 ≤ Int32.toInt (q.1 1 1) ∧ Int32.toInt (q.1 1 1) ≤ 10 := rg_1_1 hT
          have w_28 : Int32.toInt (q_25.1 1 1) = Int32.toInt (q.1 1 1) := by rw [eq_25, cui_n (by decide)]
          exact dOk_some (show (TC q_25) ∧ (cFr [] [(1, 1), (1, 2), (1, 3), (2, 4)] q q_25) ∧ ((Int32.toInt p1 = 1 ∧ Int32.toInt (q_25.1 1 1) = Int32.toInt p2) ∨ (¬ Int32.toInt p1 = 1 ∧ Int32.toInt (q_25.1 1 1) = Int32.toInt (q.1 1 1))) from ⟨hTq_25, hFq_25, by omega⟩)
        · unfold zX6_setTerm_s1_67
          have f_29 : 0 ≤ Int32.toInt (q.1 1 1) ∧ Int32.toInt (q.1 1 1) ≤ 10 := rg_1_1 hT
          exact dOk_some (show (TC q) ∧ (cFr [] [(1, 1), (1, 2), (1, 3), (2, 4)] q q) ∧ ((Int32.toInt p1 = 1 ∧ Int32.toInt (q.1 1 1) = Int32.toInt p2) ∨ (¬ Int32.toInt p1 = 1 ∧ Int32.toInt (q.1 1 1) = Int32.toInt (q.1 1 1))) from ⟨hT, (cFr.rf (q := q)), by omega⟩)

set_option maxHeartbeats 4000000 in
set_option maxRecDepth 100000 in
theorem ok_X9_terms_s0 (q : dK) (p1 : Int32) (p2 : Int32) (hT : TC q) : dOk (zX9_terms_s0 q p1 p2) (fun (o : Int32 × dK) => (TC o.2) ∧ (cFr [48] [(0, 18), (1, 1), (1, 2), (1, 3), (2, 4), (10, 2)] q o.2) ∧ ((Int32.toInt p1 = 1 ∧ 0 ≤ Int32.toInt p2 ∧ Int32.toInt p2 ≤ 10 ∧ Int32.toInt (o.2.1 1 1) = Int32.toInt p2) ∨ ((¬ Int32.toInt p1 = 1 ∨ Int32.toInt p2 < 0 ∨ 10 < Int32.toInt p2) ∧ Int32.toInt (o.2.1 1 1) = Int32.toInt (q.1 1 1)))) := by
  unfold zX9_terms_s0
  refine dOk_lt (A := Int32.toInt p2) (B := 0) rfl (by decide) (fun c_1 => ?_) (fun c_2 => ?_)
  · unfold zX9_terms_s0_12
    refine dOk_B (ok_X9_refuse_s0 q (-1) hT) (fun r_3 q_4 h_5 => ?_)
    replace h_5 : (TC q_4) ∧ (cFr [48] [(0, 18)] q q_4) ∧ (Int32.toInt r_3 = (-1 : Int)) := h_5
    obtain ⟨i_6, i_7, i_8⟩ := h_5
    have hFq_4 : cFr [48] [(0, 18), (1, 1), (1, 2), (1, 3), (2, 4), (10, 2)] q q_4 := (cFr.rf (q := q)).t i_7 (by decide) (by decide)
    have f_9 : 0 ≤ Int32.toInt (q_4.1 1 1) ∧ Int32.toInt (q_4.1 1 1) ≤ 10 := rg_1_1 i_6
    have f_10 : 0 ≤ Int32.toInt (q.1 1 1) ∧ Int32.toInt (q.1 1 1) ≤ 10 := rg_1_1 hT
    have w_11 : Int32.toInt (q_4.1 1 1) = Int32.toInt (q.1 1 1) := by rw [i_7.1 1 1 (by decide) (by decide)]
    exact dOk_some (show (TC q_4) ∧ (cFr [48] [(0, 18), (1, 1), (1, 2), (1, 3), (2, 4), (10, 2)] q q_4) ∧ ((Int32.toInt p1 = 1 ∧ 0 ≤ Int32.toInt p2 ∧ Int32.toInt p2 ≤ 10 ∧ Int32.toInt (q_4.1 1 1) = Int32.toInt p2) ∨ ((¬ Int32.toInt p1 = 1 ∨ Int32.toInt p2 < 0 ∨ 10 < Int32.toInt p2) ∧ Int32.toInt (q_4.1 1 1) = Int32.toInt (q.1 1 1))) from ⟨i_6, hFq_4, by omega⟩)
  · refine dOk_V (ok_X9_mostOfTerm p1) (fun r_12 h_13 => ?_)
    replace h_13 : ((Int32.toInt p1 = 0 ∧ Int32.toInt r_12 = 999) ∨ (Int32.toInt p1 = 1 ∧ Int32.toInt r_12 = 10) ∨ (Int32.toInt p1 = 2 ∧ Int32.toInt r_12 = 9) ∨ (Int32.toInt p1 = 3 ∧ Int32.toInt r_12 = 1) ∨ (Int32.toInt r_12 = -1 ∧ ¬ Int32.toInt p1 = 1)) := h_13
    have i_14 := h_13
    refine dOk_le (A := Int32.toInt p2) (B := Int32.toInt r_12) rfl rfl (fun c_15 => ?_) (fun c_16 => ?_)
    · refine dOk_B (ok_X6_term_s1 q p1 hT) (fun r_17 q_18 h_19 => ?_)
      replace h_19 : (q_18 = q) := h_19
      have i_20 := h_19
      subst q_18
      refine dOk_V (ok_X6_setTerm_s1 q p1 p2 hT (show 0 ≤ Int32.toInt p2 by omega) (show (Int32.toInt p1 = 0 ∧ Int32.toInt p2 ≤ 999) ∨ (Int32.toInt p1 = 1 ∧ Int32.toInt p2 ≤ 10) ∨ (¬ Int32.toInt p1 = 0 ∧ ¬ Int32.toInt p1 = 1) by omega)) (fun q_21 h_22 => ?_)
      replace h_22 : (TC q_21) ∧ (cFr [] [(1, 1), (1, 2), (1, 3), (2, 4)] q q_21) ∧ ((Int32.toInt p1 = 1 ∧ Int32.toInt (q_21.1 1 1) = Int32.toInt p2) ∨ (¬ Int32.toInt p1 = 1 ∧ Int32.toInt (q_21.1 1 1) = Int32.toInt (q.1 1 1))) := h_22
      obtain ⟨i_23, i_24, i_25⟩ := h_22
      have hFq_21 : cFr [48] [(0, 18), (1, 1), (1, 2), (1, 3), (2, 4), (10, 2)] q q_21 := (cFr.rf (q := q)).t i_24 (by decide) (by decide)
      have f_26 : 0 ≤ Int32.toInt (q_21.1 1 1) ∧ Int32.toInt (q_21.1 1 1) ≤ 10 := rg_1_1 i_23
      have f_27 : 0 ≤ Int32.toInt (q.1 1 1) ∧ Int32.toInt (q.1 1 1) ≤ 10 := rg_1_1 hT
      refine dOk_V (ok_X0_clear_s10 q_21 i_23) (fun q_28 h_29 => ?_)
      replace h_29 : (TC q_28) ∧ (cFr [] [(10, 2)] q_21 q_28) := h_29
      obtain ⟨i_30, i_31⟩ := h_29
      have hFq_28 : cFr [48] [(0, 18), (1, 1), (1, 2), (1, 3), (2, 4), (10, 2)] q q_28 := hFq_21.t i_31 (by decide) (by decide)
      refine dOk_B (ok_X9_accept_s0 q_28 r_17 i_30) (fun r_32 q_33 h_34 => ?_)
      replace h_34 : (TC q_33) ∧ (cFr [] [(0, 18)] q_28 q_33) ∧ (Int32.toInt r_32 = Int32.toInt r_17) := h_34
      obtain ⟨i_35, i_36, i_37⟩ := h_34
      have hFq_33 : cFr [48] [(0, 18), (1, 1), (1, 2), (1, 3), (2, 4), (10, 2)] q q_33 := hFq_28.t i_36 (by decide) (by decide)
      have f_38 : 0 ≤ Int32.toInt (q_33.1 1 1) ∧ Int32.toInt (q_33.1 1 1) ≤ 10 := rg_1_1 i_35
      have f_39 : 0 ≤ Int32.toInt (q_28.1 1 1) ∧ Int32.toInt (q_28.1 1 1) ≤ 10 := rg_1_1 i_30
      have w_40 : Int32.toInt (q_28.1 1 1) = Int32.toInt (q_21.1 1 1) := by rw [i_31.1 1 1 (by decide) (by decide)]
      have w_41 : Int32.toInt (q_33.1 1 1) = Int32.toInt (q_28.1 1 1) := by rw [i_36.1 1 1 (by decide) (by decide)]
      exact dOk_some (show (TC q_33) ∧ (cFr [48] [(0, 18), (1, 1), (1, 2), (1, 3), (2, 4), (10, 2)] q q_33) ∧ ((Int32.toInt p1 = 1 ∧ 0 ≤ Int32.toInt p2 ∧ Int32.toInt p2 ≤ 10 ∧ Int32.toInt (q_33.1 1 1) = Int32.toInt p2) ∨ ((¬ Int32.toInt p1 = 1 ∨ Int32.toInt p2 < 0 ∨ 10 < Int32.toInt p2) ∧ Int32.toInt (q_33.1 1 1) = Int32.toInt (q.1 1 1))) from ⟨i_35, hFq_33, by omega⟩)
    · unfold zX9_terms_s0_12
      refine dOk_B (ok_X9_refuse_s0 q (-1) hT) (fun r_42 q_43 h_44 => ?_)
      replace h_44 : (TC q_43) ∧ (cFr [48] [(0, 18)] q q_43) ∧ (Int32.toInt r_42 = (-1 : Int)) := h_44
      obtain ⟨i_45, i_46, i_47⟩ := h_44
      have hFq_43 : cFr [48] [(0, 18), (1, 1), (1, 2), (1, 3), (2, 4), (10, 2)] q q_43 := (cFr.rf (q := q)).t i_46 (by decide) (by decide)
      have f_48 : 0 ≤ Int32.toInt (q_43.1 1 1) ∧ Int32.toInt (q_43.1 1 1) ≤ 10 := rg_1_1 i_45
      have f_49 : 0 ≤ Int32.toInt (q.1 1 1) ∧ Int32.toInt (q.1 1 1) ≤ 10 := rg_1_1 hT
      have w_50 : Int32.toInt (q_43.1 1 1) = Int32.toInt (q.1 1 1) := by rw [i_46.1 1 1 (by decide) (by decide)]
      exact dOk_some (show (TC q_43) ∧ (cFr [48] [(0, 18), (1, 1), (1, 2), (1, 3), (2, 4), (10, 2)] q q_43) ∧ ((Int32.toInt p1 = 1 ∧ 0 ≤ Int32.toInt p2 ∧ Int32.toInt p2 ≤ 10 ∧ Int32.toInt (q_43.1 1 1) = Int32.toInt p2) ∨ ((¬ Int32.toInt p1 = 1 ∨ Int32.toInt p2 < 0 ∨ 10 < Int32.toInt p2) ∧ Int32.toInt (q_43.1 1 1) = Int32.toInt (q.1 1 1))) from ⟨i_45, hFq_43, by omega⟩)

set_option maxHeartbeats 4000000 in
set_option maxRecDepth 100000 in
theorem ok_X9_feedFour_s0 (q : dK) (p1 : Int32) (hT : TC q) : dOk (zX9_feedFour_s0 q p1) (fun (o : dK) => (TC o) ∧ (cFr [46] [(0, 12)] q o) ∧ (Int32.toInt (q.1 0 12) + 4 ≤ 400 → Int32.toInt (o.1 0 12) = Int32.toInt (q.1 0 12) + 4)) := by
  unfold zX9_feedFour_s0
  unfold zX9_feedFour_s0_3
  refine dFix_ok (fun (a : dK × Int32 × Int32) => (TC a.1) ∧ (cFr [46] [(0, 12)] q a.1) ∧ (a.2.1 = p1) ∧ (-8 ≤ Int32.toInt a.2.2) ∧ (Int32.toInt a.2.2 ≤ 24) ∧ (Int32.toInt (q.1 0 12) + 4 ≤ 400 → 8 * Int32.toInt (a.1.1 0 12) = 8 * Int32.toInt (q.1 0 12) + (24 - Int32.toInt a.2.2))) (fun (a : dK × Int32 × Int32) => (Int32.toInt a.2.2 + 8).toNat) ?_ _ ?_ _ (dF_gt ?_)
  · intro a ha k_2 hk_1
    obtain ⟨q_3, x1_4, x2_5⟩ := a
    replace ha : (TC q_3) ∧ (cFr [46] [(0, 12)] q q_3) ∧ (x1_4 = p1) ∧ (-8 ≤ Int32.toInt x2_5) ∧ (Int32.toInt x2_5 ≤ 24) ∧ (Int32.toInt (q.1 0 12) + 4 ≤ 400 → 8 * Int32.toInt (q_3.1 0 12) = 8 * Int32.toInt (q.1 0 12) + (24 - Int32.toInt x2_5)) := ha
    obtain ⟨a_6, a_7, a_8, a_9, a_10, a_11⟩ := ha
    show dOk (zX9_feedFour_s0_3b  (fun q x1 x2 => k_2 (q, x1, x2)) q_3 x1_4 x2_5) _
    unfold zX9_feedFour_s0_3b
    have hFq_3 : cFr [46] [(0, 12)] q q_3 := (cFr.rf (q := q)).t a_7 (by decide) (by decide)
    subst x1_4
    have f_12 : 0 ≤ Int32.toInt (q.1 0 12) ∧ Int32.toInt (q.1 0 12) ≤ 400 := rg_0_12 hT
    have f_13 : 0 ≤ Int32.toInt (q_3.1 0 12) ∧ Int32.toInt (q_3.1 0 12) ≤ 400 := rg_0_12 a_6
    refine dOk_lt (A := Int32.toInt x2_5) (B := 0) rfl (by decide) (fun c_14 => ?_) (fun c_15 => ?_)
    · exact dOk_some (show (TC q_3) ∧ (cFr [46] [(0, 12)] q q_3) ∧ (Int32.toInt (q.1 0 12) + 4 ≤ 400 → Int32.toInt (q_3.1 0 12) = Int32.toInt (q.1 0 12) + 4) from ⟨a_6, hFq_3, by omega⟩)
    · refine dOk_le (A := 400) (B := Int32.toInt (q_3.1 0 12)) (by decide) rfl (fun c_16 => ?_) (fun c_17 => ?_)
      · unfold zX9_feedFour_s0_43
        try have t_18 : Int32.toInt (x2_5 + (-8)) = Int32.toInt x2_5 + (-8) := ti_add rfl (by decide) (by omega) (by omega)
        exact hk_1 (q_3, p1, (x2_5 + (-8))) (show (TC q_3) ∧ (cFr [46] [(0, 12)] q q_3) ∧ (p1 = p1) ∧ (-8 ≤ Int32.toInt (x2_5 + (-8))) ∧ (Int32.toInt (x2_5 + (-8)) ≤ 24) ∧ (Int32.toInt (q.1 0 12) + 4 ≤ 400 → 8 * Int32.toInt (q_3.1 0 12) = 8 * Int32.toInt (q.1 0 12) + (24 - Int32.toInt (x2_5 + (-8)))) from ⟨a_6, ((cFr.rf : cFr [46] [(0, 12)] q q).t a_7 (by decide) (by decide)), rfl, by omega, by omega, by omega⟩) (show (Int32.toInt (x2_5 + (-8)) + 8).toNat < (Int32.toInt x2_5 + 8).toNat by omega)
      · refine dOk_L (fun v_19 ev_19 => ?_)
        refine dOk_G (dg_ok (show 0 ≤ Int32.toInt (q_3.1 0 12) by omega) (show Int32.toInt (q_3.1 0 12) < ((400 : Nat) : Int) by omega)) ?_
        have n_20 : ((Int32.toNatClampNeg (q_3.1 0 12) : Nat) : Int) = Int32.toInt (q_3.1 0 12) := cl_eq (by omega)
        refine dOk_L (fun q_21 eq_21 => ?_)
        have hTq_21 : TC q_21 := by rw [eq_21]; exact sa_46 a_6
        have hFq_21 : cFr [46] [(0, 12)] q q_21 := by rw [eq_21]; exact hFq_3.i (by decide)
        refine dOk_L (fun q_22 eq_22 => ?_)
        have f_23 : 0 ≤ Int32.toInt (q_21.1 0 12) ∧ Int32.toInt (q_21.1 0 12) ≤ 400 := rg_0_12 hTq_21
        try have w_24 : Int32.toInt (q_21.1 0 12) = Int32.toInt (q_3.1 0 12) := by rw [eq_21, cui_o (by decide)]
        try have t_25 : Int32.toInt (q_21.1 0 12 + 1) = Int32.toInt (q_21.1 0 12) + 1 := ti_add rfl (by decide) (by omega) (by omega)
        have hTq_22 : TC q_22 := by rw [eq_22]; exact st_0_12 hTq_21 (show (0 : Int) ≤ Int32.toInt (q_21.1 0 12 + 1) by omega) (show Int32.toInt (q_21.1 0 12 + 1) ≤ (400 : Int) by omega)
        have hFq_22 : cFr [46] [(0, 12)] q q_22 := by rw [eq_22]; exact hFq_21.f (by decide)
        unfold zX9_feedFour_s0_43
        try have t_26 : Int32.toInt (x2_5 + (-8)) = Int32.toInt x2_5 + (-8) := ti_add rfl (by decide) (by omega) (by omega)
        have f_27 : 0 ≤ Int32.toInt (q_22.1 0 12) ∧ Int32.toInt (q_22.1 0 12) ≤ 400 := rg_0_12 hTq_22
        have w_28 : Int32.toInt (q_22.1 0 12) = Int32.toInt (q_21.1 0 12 + 1) := by rw [eq_22, cui_e]
        exact hk_1 (q_22, p1, (x2_5 + (-8))) (show (TC q_22) ∧ (cFr [46] [(0, 12)] q q_22) ∧ (p1 = p1) ∧ (-8 ≤ Int32.toInt (x2_5 + (-8))) ∧ (Int32.toInt (x2_5 + (-8)) ≤ 24) ∧ (Int32.toInt (q.1 0 12) + 4 ≤ 400 → 8 * Int32.toInt (q_22.1 0 12) = 8 * Int32.toInt (q.1 0 12) + (24 - Int32.toInt (x2_5 + (-8)))) from ⟨hTq_22, (by rw [eq_22]; exact ((by rw [eq_21]; exact (((cFr.rf : cFr [46] [(0, 12)] q q).t a_7 (by decide) (by decide)) : cFr [46] [(0, 12)] q q_3).i (by decide)) : cFr [46] [(0, 12)] q q_21).f (by decide)), rfl, by omega, by omega, by omega⟩) (show (Int32.toInt (x2_5 + (-8)) + 8).toNat < (Int32.toInt x2_5 + 8).toNat by omega)
  · have f_29 : 0 ≤ Int32.toInt (q.1 0 12) ∧ Int32.toInt (q.1 0 12) ≤ 400 := rg_0_12 hT
    exact (show (TC q) ∧ (cFr [46] [(0, 12)] q q) ∧ (p1 = p1) ∧ (-8 ≤ (24 : Int)) ∧ ((24 : Int) ≤ 24) ∧ (Int32.toInt (q.1 0 12) + 4 ≤ 400 → 8 * Int32.toInt (q.1 0 12) = 8 * Int32.toInt (q.1 0 12) + (24 - (24 : Int))) from ⟨hT, cFr.rf, rfl, by omega, by omega, by omega⟩)
  · show ((24 : Int) + 8).toNat < 1000000000000
    omega

set_option maxHeartbeats 4000000 in
set_option maxRecDepth 100000 in
theorem ok_X9_feed_s0 (q : dK) (p1 : Int32) (p2 : Int32) (p3 : Int32) (p4 : Int32) (p5 : Int32) (hT : TC q) : dOk (zX9_feed_s0 q p1 p2 p3 p4 p5) (fun (o : Int32 × dK) => (TC o.2) ∧ (cFr [46] [(0, 12)] q o.2) ∧ ((Int32.toInt (q.1 0 12) ≤ 380 ∧ Int32.toInt (o.2.1 0 12) = Int32.toInt (q.1 0 12) + 20 ∧ Int32.toInt o.1 = Int32.toInt (o.2.1 0 12)) ∨ (380 < Int32.toInt (q.1 0 12) ∧ Int32.toInt (o.2.1 0 12) = Int32.toInt (q.1 0 12) ∧ Int32.toInt o.1 = -1))) := by
  unfold zX9_feed_s0
  have f_1 : 0 ≤ Int32.toInt (q.1 0 12) ∧ Int32.toInt (q.1 0 12) ≤ 400 := rg_0_12 hT
  try have t_2 : Int32.toInt (q.1 0 12 + 20) = Int32.toInt (q.1 0 12) + 20 := ti_add rfl (by decide) (by omega) (by omega)
  refine dOk_le (A := Int32.toInt (q.1 0 12 + 20)) (B := 400) rfl (by decide) (fun c_3 => ?_) (fun c_4 => ?_)
  · refine dOk_V (ok_X9_feedFour_s0 q p1 hT) (fun q_5 h_6 => ?_)
    replace h_6 : (TC q_5) ∧ (cFr [46] [(0, 12)] q q_5) ∧ (Int32.toInt (q.1 0 12) + 4 ≤ 400 → Int32.toInt (q_5.1 0 12) = Int32.toInt (q.1 0 12) + 4) := h_6
    obtain ⟨i_7, i_8, i_9⟩ := h_6
    have hFq_5 : cFr [46] [(0, 12)] q q_5 := (cFr.rf (q := q)).t i_8 (by decide) (by decide)
    have f_10 : 0 ≤ Int32.toInt (q_5.1 0 12) ∧ Int32.toInt (q_5.1 0 12) ≤ 400 := rg_0_12 i_7
    refine dOk_V (ok_X9_feedFour_s0 q_5 p2 i_7) (fun q_11 h_12 => ?_)
    replace h_12 : (TC q_11) ∧ (cFr [46] [(0, 12)] q_5 q_11) ∧ (Int32.toInt (q_5.1 0 12) + 4 ≤ 400 → Int32.toInt (q_11.1 0 12) = Int32.toInt (q_5.1 0 12) + 4) := h_12
    obtain ⟨i_13, i_14, i_15⟩ := h_12
    have hFq_11 : cFr [46] [(0, 12)] q q_11 := hFq_5.t i_14 (by decide) (by decide)
    have f_16 : 0 ≤ Int32.toInt (q_11.1 0 12) ∧ Int32.toInt (q_11.1 0 12) ≤ 400 := rg_0_12 i_13
    refine dOk_V (ok_X9_feedFour_s0 q_11 p3 i_13) (fun q_17 h_18 => ?_)
    replace h_18 : (TC q_17) ∧ (cFr [46] [(0, 12)] q_11 q_17) ∧ (Int32.toInt (q_11.1 0 12) + 4 ≤ 400 → Int32.toInt (q_17.1 0 12) = Int32.toInt (q_11.1 0 12) + 4) := h_18
    obtain ⟨i_19, i_20, i_21⟩ := h_18
    have hFq_17 : cFr [46] [(0, 12)] q q_17 := hFq_11.t i_20 (by decide) (by decide)
    have f_22 : 0 ≤ Int32.toInt (q_17.1 0 12) ∧ Int32.toInt (q_17.1 0 12) ≤ 400 := rg_0_12 i_19
    refine dOk_V (ok_X9_feedFour_s0 q_17 p4 i_19) (fun q_23 h_24 => ?_)
    replace h_24 : (TC q_23) ∧ (cFr [46] [(0, 12)] q_17 q_23) ∧ (Int32.toInt (q_17.1 0 12) + 4 ≤ 400 → Int32.toInt (q_23.1 0 12) = Int32.toInt (q_17.1 0 12) + 4) := h_24
    obtain ⟨i_25, i_26, i_27⟩ := h_24
    have hFq_23 : cFr [46] [(0, 12)] q q_23 := hFq_17.t i_26 (by decide) (by decide)
    have f_28 : 0 ≤ Int32.toInt (q_23.1 0 12) ∧ Int32.toInt (q_23.1 0 12) ≤ 400 := rg_0_12 i_25
    refine dOk_V (ok_X9_feedFour_s0 q_23 p5 i_25) (fun q_29 h_30 => ?_)
    replace h_30 : (TC q_29) ∧ (cFr [46] [(0, 12)] q_23 q_29) ∧ (Int32.toInt (q_23.1 0 12) + 4 ≤ 400 → Int32.toInt (q_29.1 0 12) = Int32.toInt (q_23.1 0 12) + 4) := h_30
    obtain ⟨i_31, i_32, i_33⟩ := h_30
    have hFq_29 : cFr [46] [(0, 12)] q q_29 := hFq_23.t i_32 (by decide) (by decide)
    have f_34 : 0 ≤ Int32.toInt (q_29.1 0 12) ∧ Int32.toInt (q_29.1 0 12) ≤ 400 := rg_0_12 i_31
    exact dOk_some (show (TC q_29) ∧ (cFr [46] [(0, 12)] q q_29) ∧ ((Int32.toInt (q.1 0 12) ≤ 380 ∧ Int32.toInt (q_29.1 0 12) = Int32.toInt (q.1 0 12) + 20 ∧ Int32.toInt (q_29.1 0 12) = Int32.toInt (q_29.1 0 12)) ∨ (380 < Int32.toInt (q.1 0 12) ∧ Int32.toInt (q_29.1 0 12) = Int32.toInt (q.1 0 12) ∧ Int32.toInt (q_29.1 0 12) = -1)) from ⟨i_31, hFq_29, by omega⟩)
  · exact dOk_some (show (TC q) ∧ (cFr [46] [(0, 12)] q q) ∧ ((Int32.toInt (q.1 0 12) ≤ 380 ∧ Int32.toInt (q.1 0 12) = Int32.toInt (q.1 0 12) + 20 ∧ (-1 : Int) = Int32.toInt (q.1 0 12)) ∨ (380 < Int32.toInt (q.1 0 12) ∧ Int32.toInt (q.1 0 12) = Int32.toInt (q.1 0 12) ∧ (-1 : Int) = -1)) from ⟨hT, (cFr.rf (q := q)), by omega⟩)

set_option maxHeartbeats 4000000 in
set_option maxRecDepth 100000 in
theorem ok_X9_end_s0 (q : dK) (p1 : Int32) (hT : TC q) : dOk (zX9_end_s0 q p1) (fun (o : Int32 × dK) => (TC o.2) ∧ (cFr [] [(0, 12)] q o.2) ∧ ((0 ≤ Int32.toInt p1 ∧ Int32.toInt p1 ≤ Int32.toInt (q.1 0 12) ∧ Int32.toInt (o.2.1 0 12) = Int32.toInt p1 ∧ Int32.toInt o.1 = Int32.toInt p1) ∨ ((Int32.toInt p1 < 0 ∨ Int32.toInt (q.1 0 12) < Int32.toInt p1) ∧ Int32.toInt (o.2.1 0 12) = Int32.toInt (q.1 0 12) ∧ Int32.toInt o.1 = -1))) := by
  unfold zX9_end_s0
  refine dOk_lt (A := Int32.toInt p1) (B := 0) rfl (by decide) (fun c_1 => ?_) (fun c_2 => ?_)
  · unfold zX9_end_s0_12
    have f_3 : 0 ≤ Int32.toInt (q.1 0 12) ∧ Int32.toInt (q.1 0 12) ≤ 400 := rg_0_12 hT
    exact dOk_some (show (TC q) ∧ (cFr [] [(0, 12)] q q) ∧ ((0 ≤ Int32.toInt p1 ∧ Int32.toInt p1 ≤ Int32.toInt (q.1 0 12) ∧ Int32.toInt (q.1 0 12) = Int32.toInt p1 ∧ (-1 : Int) = Int32.toInt p1) ∨ ((Int32.toInt p1 < 0 ∨ Int32.toInt (q.1 0 12) < Int32.toInt p1) ∧ Int32.toInt (q.1 0 12) = Int32.toInt (q.1 0 12) ∧ (-1 : Int) = -1)) from ⟨hT, (cFr.rf (q := q)), by omega⟩)
  · have f_4 : 0 ≤ Int32.toInt (q.1 0 12) ∧ Int32.toInt (q.1 0 12) ≤ 400 := rg_0_12 hT
    refine dOk_le (A := Int32.toInt p1) (B := Int32.toInt (q.1 0 12)) rfl rfl (fun c_5 => ?_) (fun c_6 => ?_)
    · refine dOk_L (fun q_7 eq_7 => ?_)
      have hTq_7 : TC q_7 := by rw [eq_7]; exact st_0_12 hT (show (0 : Int) ≤ Int32.toInt p1 by omega) (show Int32.toInt p1 ≤ (400 : Int) by omega)
      have hFq_7 : cFr [] [(0, 12)] q q_7 := by rw [eq_7]; exact (cFr.rf (q := q)).f (by decide)
      have f_8 : 0 ≤ Int32.toInt (q_7.1 0 12) ∧ Int32.toInt (q_7.1 0 12) ≤ 400 := rg_0_12 hTq_7
      have w_9 : Int32.toInt (q_7.1 0 12) = Int32.toInt p1 := by rw [eq_7, cui_e]
      exact dOk_some (show (TC q_7) ∧ (cFr [] [(0, 12)] q q_7) ∧ ((0 ≤ Int32.toInt p1 ∧ Int32.toInt p1 ≤ Int32.toInt (q.1 0 12) ∧ Int32.toInt (q_7.1 0 12) = Int32.toInt p1 ∧ Int32.toInt p1 = Int32.toInt p1) ∨ ((Int32.toInt p1 < 0 ∨ Int32.toInt (q.1 0 12) < Int32.toInt p1) ∧ Int32.toInt (q_7.1 0 12) = Int32.toInt (q.1 0 12) ∧ Int32.toInt p1 = -1)) from ⟨hTq_7, hFq_7, by omega⟩)
    · unfold zX9_end_s0_12
      exact dOk_some (show (TC q) ∧ (cFr [] [(0, 12)] q q) ∧ ((0 ≤ Int32.toInt p1 ∧ Int32.toInt p1 ≤ Int32.toInt (q.1 0 12) ∧ Int32.toInt (q.1 0 12) = Int32.toInt p1 ∧ (-1 : Int) = Int32.toInt p1) ∨ ((Int32.toInt p1 < 0 ∨ Int32.toInt (q.1 0 12) < Int32.toInt p1) ∧ Int32.toInt (q.1 0 12) = Int32.toInt (q.1 0 12) ∧ (-1 : Int) = -1)) from ⟨hT, (cFr.rf (q := q)), by omega⟩)

set_option maxHeartbeats 4000000 in
set_option maxRecDepth 100000 in
theorem ok_X9_isNewFloor_s0 (q : dK) (p1 : Int32) (p2 : Int32) (hT : TC q) : dOk (zX9_isNewFloor_s0 q p1 p2) (fun (o : Int32 × dK) => (o.2 = q) ∧ ((Int32.toInt o.1 = 1 ∧ 0 ≤ Int32.toInt p1 ∧ Int32.toInt p1 ≤ 5 ∧ 0 ≤ Int32.toInt p2 ∧ Int32.toInt p2 ≤ 1) ∨ Int32.toInt o.1 = 0)) := by
  unfold zX9_isNewFloor_s0
  refine dOk_V (ok_X9_isRank p1) (fun r_1 h_2 => ?_)
  replace h_2 : ((Int32.toInt r_1 = 1 ∧ 0 ≤ Int32.toInt p1 ∧ Int32.toInt p1 ≤ 5) ∨ (Int32.toInt r_1 = 0 ∧ (Int32.toInt p1 < 0 ∨ 5 < Int32.toInt p1))) := h_2
  have i_3 := h_2
  refine dOk_eq (A := Int32.toInt r_1) (B := 0) rfl (by decide) (fun c_4z c_4 => ?_) (fun c_5z c_5 => ?_)
  · unfold zX9_isNewFloor_s0_32
    unfold zX9_isNewFloor_s0_33
    refine dOk_G (dbl_ok (show (0 : Int) = 0 ∨ (0 : Int) = 1 by omega)) ?_
    exact dOk_some (show (q = q) ∧ (((0 : Int) = 1 ∧ 0 ≤ Int32.toInt p1 ∧ Int32.toInt p1 ≤ 5 ∧ 0 ≤ Int32.toInt p2 ∧ Int32.toInt p2 ≤ 1) ∨ (0 : Int) = 0) from ⟨rfl, by omega⟩)
  · refine dOk_V (ok_X9_isBit p2) (fun r_7 h_8 => ?_)
    replace h_8 : ((Int32.toInt r_7 = 1 ∧ 0 ≤ Int32.toInt p2 ∧ Int32.toInt p2 ≤ 1) ∨ (Int32.toInt r_7 = 0 ∧ (Int32.toInt p2 < 0 ∨ 1 < Int32.toInt p2))) := h_8
    have i_9 := h_8
    refine dOk_eq (A := Int32.toInt r_7) (B := 0) rfl (by decide) (fun c_10z c_10 => ?_) (fun c_11z c_11 => ?_)
    · unfold zX9_isNewFloor_s0_32
      unfold zX9_isNewFloor_s0_33
      refine dOk_G (dbl_ok (show (0 : Int) = 0 ∨ (0 : Int) = 1 by omega)) ?_
      exact dOk_some (show (q = q) ∧ (((0 : Int) = 1 ∧ 0 ≤ Int32.toInt p1 ∧ Int32.toInt p1 ≤ 5 ∧ 0 ≤ Int32.toInt p2 ∧ Int32.toInt p2 ≤ 1) ∨ (0 : Int) = 0) from ⟨rfl, by omega⟩)
    · refine dOk_B (ok_X8_has_s2 q p1 hT) (fun r_13 q_14 h_15 => ?_)
      replace h_15 : (q_14 = q) ∧ ((Int32.toInt r_13 = 0 ∨ Int32.toInt r_13 = 1)) := h_15
      obtain ⟨i_16, i_17⟩ := h_15
      subst q_14
      refine dOk_eq (A := Int32.toInt r_13) (B := 0) rfl (by decide) (fun c_18z c_18 => ?_) (fun c_19z c_19 => ?_)
      · unfold zX9_isNewFloor_s0_33
        refine dOk_G (dbl_ok (show (1 : Int) = 0 ∨ (1 : Int) = 1 by omega)) ?_
        exact dOk_some (show (q = q) ∧ (((1 : Int) = 1 ∧ 0 ≤ Int32.toInt p1 ∧ Int32.toInt p1 ≤ 5 ∧ 0 ≤ Int32.toInt p2 ∧ Int32.toInt p2 ≤ 1) ∨ (1 : Int) = 0) from ⟨rfl, by omega⟩)
      · unfold zX9_isNewFloor_s0_32
        unfold zX9_isNewFloor_s0_33
        refine dOk_G (dbl_ok (show (0 : Int) = 0 ∨ (0 : Int) = 1 by omega)) ?_
        exact dOk_some (show (q = q) ∧ (((0 : Int) = 1 ∧ 0 ≤ Int32.toInt p1 ∧ Int32.toInt p1 ≤ 5 ∧ 0 ≤ Int32.toInt p2 ∧ Int32.toInt p2 ≤ 1) ∨ (0 : Int) = 0) from ⟨rfl, by omega⟩)

set_option maxHeartbeats 4000000 in
set_option maxRecDepth 100000 in
theorem ok_X9_row_s0 (q : dK) (hT : TC q) : dOk (zX9_row_s0 q) (fun (o : Int32 × dK) => (TC o.2) ∧ (cFr [3, 4, 48] [(0, 12), (0, 14), (0, 18), (2, 2), (10, 2)] q o.2) ∧ (Int32.toInt (o.2.1 0 12) = 0)) := by
  unfold zX9_row_s0
  have f_1 : 0 ≤ Int32.toInt (q.1 0 12) ∧ Int32.toInt (q.1 0 12) ≤ 400 := rg_0_12 hT
  refine dOk_eq (A := Int32.toInt (q.1 0 12)) (B := 0) rfl (by decide) (fun c_2z c_2 => ?_) (fun c_3z c_3 => ?_)
  · refine dOk_B (ok_X9_refuse_s0 q (-6) hT) (fun r_5 q_6 h_7 => ?_)
    replace h_7 : (TC q_6) ∧ (cFr [48] [(0, 18)] q q_6) ∧ (Int32.toInt r_5 = (-6 : Int)) := h_7
    obtain ⟨i_8, i_9, i_10⟩ := h_7
    have hFq_6 : cFr [3, 4, 48] [(0, 12), (0, 14), (0, 18), (2, 2), (10, 2)] q q_6 := (cFr.rf (q := q)).t i_9 (by decide) (by decide)
    have f_11 : 0 ≤ Int32.toInt (q_6.1 0 12) ∧ Int32.toInt (q_6.1 0 12) ≤ 400 := rg_0_12 i_8
    have w_12 : Int32.toInt (q_6.1 0 12) = Int32.toInt (q.1 0 12) := by rw [i_9.1 0 12 (by decide) (by decide)]
    exact dOk_some (show (TC q_6) ∧ (cFr [3, 4, 48] [(0, 12), (0, 14), (0, 18), (2, 2), (10, 2)] q q_6) ∧ (Int32.toInt (q_6.1 0 12) = 0) from ⟨i_8, hFq_6, by omega⟩)
  · unfold zX9_row_s0_20
    refine dFix_ok (fun (a : dK × Int32 × Int32 × Int32) => (TC a.1) ∧ (cFr [3, 4] [(2, 2)] q a.1) ∧ (0 ≤ Int32.toInt a.2.2.2) ∧ (Int32.toInt a.2.2.2 ≤ 402)) (fun (a : dK × Int32 × Int32 × Int32) => (402 - Int32.toInt a.2.2.2).toNat) ?_ _ ?_ _ (dF_gt ?_)
    · intro a ha k_14 hk_13
      obtain ⟨q_15, x1_16, x2_17, x3_18⟩ := a
      replace ha : (TC q_15) ∧ (cFr [3, 4] [(2, 2)] q q_15) ∧ (0 ≤ Int32.toInt x3_18) ∧ (Int32.toInt x3_18 ≤ 402) := ha
      obtain ⟨a_19, a_20, a_21, a_22⟩ := ha
      show dOk (zX9_row_s0_20b  (fun q x1 x2 x3 => k_14 (q, x1, x2, x3)) q_15 x1_16 x2_17 x3_18) _
      unfold zX9_row_s0_20b
      have hFq_15 : cFr [3, 4, 48] [(0, 12), (0, 14), (0, 18), (2, 2), (10, 2)] q q_15 := (cFr.rf (q := q)).t a_20 (by decide) (by decide)
      have f_23 : 0 ≤ Int32.toInt (q_15.1 0 12) ∧ Int32.toInt (q_15.1 0 12) ≤ 400 := rg_0_12 a_19
      have w_24 : Int32.toInt (q_15.1 0 12) = Int32.toInt (q.1 0 12) := by rw [a_20.1 0 12 (by decide) (by decide)]
      refine dOk_le (A := Int32.toInt (q_15.1 0 12)) (B := Int32.toInt x3_18) rfl rfl (fun c_25 => ?_) (fun c_26 => ?_)
      · refine dOk_L (fun q_27 eq_27 => ?_)
        have hTq_27 : TC q_27 := by rw [eq_27]; exact st_0_12 a_19 (show (0 : Int) ≤ (0 : Int) by omega) (show (0 : Int) ≤ (400 : Int) by omega)
        have hFq_27 : cFr [3, 4, 48] [(0, 12), (0, 14), (0, 18), (2, 2), (10, 2)] q q_27 := by rw [eq_27]; exact hFq_15.f (by decide)
        refine dOk_L (fun q_28 eq_28 => ?_)
        have hTq_28 : TC q_28 := by rw [eq_28]; exact sa_0_14 hTq_27
        have hFq_28 : cFr [3, 4, 48] [(0, 12), (0, 14), (0, 18), (2, 2), (10, 2)] q q_28 := by rw [eq_28]; exact hFq_27.f (by decide)
        refine dOk_V (ok_X0_clear_s10 q_28 hTq_28) (fun q_29 h_30 => ?_)
        replace h_30 : (TC q_29) ∧ (cFr [] [(10, 2)] q_28 q_29) := h_30
        obtain ⟨i_31, i_32⟩ := h_30
        have hFq_29 : cFr [3, 4, 48] [(0, 12), (0, 14), (0, 18), (2, 2), (10, 2)] q q_29 := hFq_28.t i_32 (by decide) (by decide)
        refine dOk_B (ok_X9_accept_s0 q_29 x1_16 i_31) (fun r_33 q_34 h_35 => ?_)
        replace h_35 : (TC q_34) ∧ (cFr [] [(0, 18)] q_29 q_34) ∧ (Int32.toInt r_33 = Int32.toInt x1_16) := h_35
        obtain ⟨i_36, i_37, i_38⟩ := h_35
        have hFq_34 : cFr [3, 4, 48] [(0, 12), (0, 14), (0, 18), (2, 2), (10, 2)] q q_34 := hFq_29.t i_37 (by decide) (by decide)
        have f_39 : 0 ≤ Int32.toInt (q_34.1 0 12) ∧ Int32.toInt (q_34.1 0 12) ≤ 400 := rg_0_12 i_36
        have f_40 : 0 ≤ Int32.toInt (q_29.1 0 12) ∧ Int32.toInt (q_29.1 0 12) ≤ 400 := rg_0_12 i_31
        have f_41 : 0 ≤ Int32.toInt (q_28.1 0 12) ∧ Int32.toInt (q_28.1 0 12) ≤ 400 := rg_0_12 hTq_28
        have f_42 : 0 ≤ Int32.toInt (q_27.1 0 12) ∧ Int32.toInt (q_27.1 0 12) ≤ 400 := rg_0_12 hTq_27
        have w_43 : Int32.toInt (q_27.1 0 12) = (0 : Int) := by rw [eq_27, cui_e]; decide
        have w_44 : Int32.toInt (q_28.1 0 12) = Int32.toInt (q_27.1 0 12) := by rw [eq_28, cui_n (by decide)]
        have w_45 : Int32.toInt (q_29.1 0 12) = Int32.toInt (q_28.1 0 12) := by rw [i_32.1 0 12 (by decide) (by decide)]
        have w_46 : Int32.toInt (q_34.1 0 12) = Int32.toInt (q_29.1 0 12) := by rw [i_37.1 0 12 (by decide) (by decide)]
        exact dOk_some (show (TC q_34) ∧ (cFr [3, 4, 48] [(0, 12), (0, 14), (0, 18), (2, 2), (10, 2)] q q_34) ∧ (Int32.toInt (q_34.1 0 12) = 0) from ⟨i_36, hFq_34, by omega⟩)
      · try have t_47 : Int32.toInt (x3_18 + 1) = Int32.toInt x3_18 + 1 := ti_add rfl (by decide) (by omega) (by omega)
        refine dOk_le (A := Int32.toInt (q_15.1 0 12)) (B := Int32.toInt (x3_18 + 1)) rfl rfl (fun c_48 => ?_) (fun c_49 => ?_)
        · unfold zX9_row_s0_92
          unfold zX9_row_s0_95
          try have t_50 : Int32.toInt (x2_17 + 1) = Int32.toInt x2_17 + 1 := ti_add rfl (by decide) (by omega) (by omega)
          try have t_51 : Int32.toInt (x3_18 + 2) = Int32.toInt x3_18 + 2 := ti_add rfl (by decide) (by omega) (by omega)
          exact hk_13 (q_15, x1_16, (x2_17 + 1), (x3_18 + 2)) (show (TC q_15) ∧ (cFr [3, 4] [(2, 2)] q q_15) ∧ (0 ≤ Int32.toInt (x3_18 + 2)) ∧ (Int32.toInt (x3_18 + 2) ≤ 402) from ⟨a_19, ((cFr.rf : cFr [3, 4] [(2, 2)] q q).t a_20 (by decide) (by decide)), by omega, by omega⟩) (show (402 - Int32.toInt (x3_18 + 2)).toNat < (402 - Int32.toInt x3_18).toNat by omega)
        · refine dOk_G (dg_ok (show 0 ≤ Int32.toInt x3_18 by omega) (show Int32.toInt x3_18 < ((400 : Nat) : Int) by omega)) ?_
          have n_52 : ((Int32.toNatClampNeg x3_18 : Nat) : Int) = Int32.toInt x3_18 := cl_eq (by omega)
          refine dOk_L (fun v_53 ev_53 => ?_)
          refine dOk_G (dg_ok (show 0 ≤ Int32.toInt (x3_18 + 1) by omega) (show Int32.toInt (x3_18 + 1) < ((400 : Nat) : Int) by omega)) ?_
          have n_54 : ((Int32.toNatClampNeg (x3_18 + 1) : Nat) : Int) = Int32.toInt (x3_18 + 1) := cl_eq (by omega)
          refine dOk_L (fun v_55 ev_55 => ?_)
          refine dOk_B (ok_X9_isNewFloor_s0 q_15 v_53 v_55 a_19) (fun r_56 q_57 h_58 => ?_)
          replace h_58 : (q_57 = q_15) ∧ ((Int32.toInt r_56 = 1 ∧ 0 ≤ Int32.toInt v_53 ∧ Int32.toInt v_53 ≤ 5 ∧ 0 ≤ Int32.toInt v_55 ∧ Int32.toInt v_55 ≤ 1) ∨ Int32.toInt r_56 = 0) := h_58
          obtain ⟨i_59, i_60⟩ := h_58
          subst q_57
          refine dOk_eq (A := Int32.toInt r_56) (B := 0) rfl (by decide) (fun c_61z c_61 => ?_) (fun c_62z c_62 => ?_)
          · unfold zX9_row_s0_92
            unfold zX9_row_s0_95
            try have t_64 : Int32.toInt (x2_17 + 1) = Int32.toInt x2_17 + 1 := ti_add rfl (by decide) (by omega) (by omega)
            try have t_65 : Int32.toInt (x3_18 + 2) = Int32.toInt x3_18 + 2 := ti_add rfl (by decide) (by omega) (by omega)
            exact hk_13 (q_15, x1_16, (x2_17 + 1), (x3_18 + 2)) (show (TC q_15) ∧ (cFr [3, 4] [(2, 2)] q q_15) ∧ (0 ≤ Int32.toInt (x3_18 + 2)) ∧ (Int32.toInt (x3_18 + 2) ≤ 402) from ⟨a_19, ((cFr.rf : cFr [3, 4] [(2, 2)] q q).t a_20 (by decide) (by decide)), by omega, by omega⟩) (show (402 - Int32.toInt (x3_18 + 2)).toNat < (402 - Int32.toInt x3_18).toNat by omega)
          · refine dOk_G (dg_ok (show 0 ≤ Int32.toInt x3_18 by omega) (show Int32.toInt x3_18 < ((400 : Nat) : Int) by omega)) ?_
            refine dOk_L (fun v_66 ev_66 => ?_)
            have w_67 : Int32.toInt v_66 = Int32.toInt v_53 := by rw [ev_66, ev_53]
            refine dOk_G (dg_ok (show 0 ≤ Int32.toInt (x3_18 + 1) by omega) (show Int32.toInt (x3_18 + 1) < ((400 : Nat) : Int) by omega)) ?_
            refine dOk_L (fun v_68 ev_68 => ?_)
            have w_69 : Int32.toInt v_68 = Int32.toInt v_55 := by rw [ev_68, ev_55]
            refine dOk_B (ok_X8_add_s2 q_15 v_66 v_68 a_19 (show 0 ≤ Int32.toInt v_66 ∧ Int32.toInt v_66 ≤ 7 by omega) (show 0 ≤ Int32.toInt v_68 ∧ Int32.toInt v_68 ≤ 1 by omega)) (fun r_70 q_71 h_72 => ?_)
            replace h_72 : (TC q_71) ∧ (cFr [3, 4] [(2, 2)] q_15 q_71) ∧ ((Int32.toInt r_70 = 0 ∨ Int32.toInt r_70 = 1)) := h_72
            obtain ⟨i_73, i_74, i_75⟩ := h_72
            have hFq_71 : cFr [3, 4, 48] [(0, 12), (0, 14), (0, 18), (2, 2), (10, 2)] q q_71 := hFq_15.t i_74 (by decide) (by decide)
            refine dOk_eq (A := Int32.toInt r_70) (B := 0) rfl (by decide) (fun c_76z c_76 => ?_) (fun c_77z c_77 => ?_)
            · unfold zX9_row_s0_92
              unfold zX9_row_s0_95
              try have t_79 : Int32.toInt (x2_17 + 1) = Int32.toInt x2_17 + 1 := ti_add rfl (by decide) (by omega) (by omega)
              try have t_80 : Int32.toInt (x3_18 + 2) = Int32.toInt x3_18 + 2 := ti_add rfl (by decide) (by omega) (by omega)
              exact hk_13 (q_71, x1_16, (x2_17 + 1), (x3_18 + 2)) (show (TC q_71) ∧ (cFr [3, 4] [(2, 2)] q q_71) ∧ (0 ≤ Int32.toInt (x3_18 + 2)) ∧ (Int32.toInt (x3_18 + 2) ≤ 402) from ⟨i_73, ((((cFr.rf : cFr [3, 4] [(2, 2)] q q).t a_20 (by decide) (by decide)) : cFr [3, 4] [(2, 2)] q q_15).t i_74 (by decide) (by decide)), by omega, by omega⟩) (show (402 - Int32.toInt (x3_18 + 2)).toNat < (402 - Int32.toInt x3_18).toNat by omega)
            · unfold zX9_row_s0_95
              try have t_81 : Int32.toInt (x1_16 + 1) = Int32.toInt x1_16 + 1 := ti_add rfl (by decide) (by omega) (by omega)
              try have t_82 : Int32.toInt (x3_18 + 2) = Int32.toInt x3_18 + 2 := ti_add rfl (by decide) (by omega) (by omega)
              exact hk_13 (q_71, (x1_16 + 1), x2_17, (x3_18 + 2)) (show (TC q_71) ∧ (cFr [3, 4] [(2, 2)] q q_71) ∧ (0 ≤ Int32.toInt (x3_18 + 2)) ∧ (Int32.toInt (x3_18 + 2) ≤ 402) from ⟨i_73, ((((cFr.rf : cFr [3, 4] [(2, 2)] q q).t a_20 (by decide) (by decide)) : cFr [3, 4] [(2, 2)] q q_15).t i_74 (by decide) (by decide)), by omega, by omega⟩) (show (402 - Int32.toInt (x3_18 + 2)).toNat < (402 - Int32.toInt x3_18).toNat by omega)
    · exact (show (TC q) ∧ (cFr [3, 4] [(2, 2)] q q) ∧ (0 ≤ (0 : Int)) ∧ ((0 : Int) ≤ 402) from ⟨hT, cFr.rf, by omega, by omega⟩)
    · show (402 - (0 : Int)).toNat < 1000000000000
      omega
