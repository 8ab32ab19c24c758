set_option maxHeartbeats 4000000 in
set_option maxRecDepth 100000 in
theorem ok_X8_add_s2 (q : dK) (p1 : Int32) (p2 : Int32) (hT : TC q) (hp0 : 0 ≤ Int32.toInt p1 ∧ Int32.toInt p1 ≤ 7) (hp1 : 0 ≤ Int32.toInt p2 ∧ Int32.toInt p2 ≤ 1) : dOk (zX8_add_s2 q p1 p2) (fun (o : Int32 × dK) => (TC o.2) ∧ (cFr [3, 4] [(2, 2)] q o.2) ∧ ((Int32.toInt o.1 = 0 ∨ Int32.toInt o.1 = 1))) := by
  unfold zX8_add_s2
  have f_1 : 0 ≤ Int32.toInt (q.1 2 2) ∧ Int32.toInt (q.1 2 2) ≤ 6 := rg_2_2 hT
  refine dOk_lt (A := Int32.toInt (q.1 2 2)) (B := 6) rfl (by decide) (fun c_2 => ?_) (fun c_3 => ?_)
  · refine dOk_G (dg_ok (show 0 ≤ Int32.toInt (q.1 2 2) by omega) (show Int32.toInt (q.1 2 2) < ((6 : Nat) : Int) by omega)) ?_
    have n_4 : ((Int32.toNatClampNeg (q.1 2 2) : Nat) : Int) = Int32.toInt (q.1 2 2) := cl_eq (by omega)
    refine dOk_L (fun q_5 eq_5 => ?_)
    have hTq_5 : TC q_5 := by rw [eq_5]; exact st_3 hT (show (0 : Int) ≤ Int32.toInt p1 by omega) (show Int32.toInt p1 ≤ (7 : Int) by omega)
    have hFq_5 : cFr [3, 4] [(2, 2)] q q_5 := by rw [eq_5]; exact (cFr.rf (q := q)).i (by decide)
    have f_6 : 0 ≤ Int32.toInt (q_5.1 2 2) ∧ Int32.toInt (q_5.1 2 2) ≤ 6 := rg_2_2 hTq_5
    try have w_7 : Int32.toInt (q_5.1 2 2) = Int32.toInt (q.1 2 2) := by rw [eq_5, cui_o (by decide)]
    refine dOk_G (dg_ok (show 0 ≤ Int32.toInt (q_5.1 2 2) by omega) (show Int32.toInt (q_5.1 2 2) < ((6 : Nat) : Int) by omega)) ?_
    have n_8 : ((Int32.toNatClampNeg (q_5.1 2 2) : Nat) : Int) = Int32.toInt (q_5.1 2 2) := cl_eq (by omega)
    refine dOk_L (fun q_9 eq_9 => ?_)
    have hTq_9 : TC q_9 := by rw [eq_9]; exact st_4 hTq_5 (show (0 : Int) ≤ Int32.toInt p2 by omega) (show Int32.toInt p2 ≤ (1 : Int) by omega)
    have hFq_9 : cFr [3, 4] [(2, 2)] q q_9 := by rw [eq_9]; exact hFq_5.i (by decide)
    refine dOk_L (fun q_10 eq_10 => ?_)
    have f_11 : 0 ≤ Int32.toInt (q_9.1 2 2) ∧ Int32.toInt (q_9.1 2 2) ≤ 6 := rg_2_2 hTq_9
    try have w_12 : Int32.toInt (q_9.1 2 2) = Int32.toInt (q_5.1 2 2) := by rw [eq_9, cui_o (by decide)]
    try have t_13 : Int32.toInt (q_9.1 2 2 + 1) = Int32.toInt (q_9.1 2 2) + 1 := ti_add rfl (by decide) (by omega) (by omega)
    have hTq_10 : TC q_10 := by rw [eq_10]; exact st_2_2 hTq_9 (show (0 : Int) ≤ Int32.toInt (q_9.1 2 2 + 1) by omega) (show Int32.toInt (q_9.1 2 2 + 1) ≤ (6 : Int) by omega)
    have hFq_10 : cFr [3, 4] [(2, 2)] q q_10 := by rw [eq_10]; exact hFq_9.f (by decide)
    exact dOk_some (show (TC q_10) ∧ (cFr [3, 4] [(2, 2)] q q_10) ∧ (((1 : Int) = 0 ∨ (1 : Int) = 1)) from ⟨hTq_10, hFq_10, by omega⟩)
  · exact dOk_some (show (TC q) ∧ (cFr [3, 4] [(2, 2)] q q) ∧ (((0 : Int) = 0 ∨ (0 : Int) = 1)) from ⟨hT, (cFr.rf (q := q)), by omega⟩)

set_option maxHeartbeats 4000000 in
set_option maxRecDepth 100000 in
theorem ok_X8_onHeads_s2 (q : dK) (hT : TC q) : dOk (zX8_onHeads_s2 q) (fun (o : Int32 × dK) => (o.2 = q)) := by
  unfold zX8_onHeads_s2
  unfold zX8_onHeads_s2_4
  refine dFix_ok (fun (a : dK × Int32 × Int32) => (a.1 = q) ∧ (0 ≤ Int32.toInt a.2.2) ∧ (Int32.toInt a.2.2 ≤ 6)) (fun (a : dK × Int32 × Int32) => (6 - Int32.toInt a.2.2).toNat) ?_ _ ?_ _ (dF_gt ?_)
  · intro a ha k_2 hk_1
    obtain ⟨q_3, x1_4, x2_5⟩ := a
    replace ha : (q_3 = q) ∧ (0 ≤ Int32.toInt x2_5) ∧ (Int32.toInt x2_5 ≤ 6) := ha
    obtain ⟨a_6, a_7, a_8⟩ := ha
    show dOk (zX8_onHeads_s2_4b  (fun q x1 x2 => k_2 (q, x1, x2)) q_3 x1_4 x2_5) _
    unfold zX8_onHeads_s2_4b
    subst q_3
    have f_9 : 0 ≤ Int32.toInt (q.1 2 2) ∧ Int32.toInt (q.1 2 2) ≤ 6 := rg_2_2 hT
    refine dOk_le (A := Int32.toInt (q.1 2 2)) (B := Int32.toInt x2_5) rfl rfl (fun c_10 => ?_) (fun c_11 => ?_)
    · exact dOk_some (show (q = q) from rfl)
    · refine dOk_G (dg_ok (show 0 ≤ Int32.toInt x2_5 by omega) (show Int32.toInt x2_5 < ((6 : Nat) : Int) by omega)) ?_
      have n_12 : ((Int32.toNatClampNeg x2_5 : Nat) : Int) = Int32.toInt x2_5 := cl_eq (by omega)
      refine dOk_L (fun v_13 ev_13 => ?_)
      have f_14 : 0 ≤ Int32.toInt v_13 ∧ Int32.toInt v_13 ≤ 1 := by rw [ev_13]; exact rg_4 hT _
      try have t_15 : Int32.toInt (x1_4 + v_13) = Int32.toInt x1_4 + Int32.toInt v_13 := ti_add rfl rfl (by omega) (by omega)
      try have t_16 : Int32.toInt (x2_5 + 1) = Int32.toInt x2_5 + 1 := ti_add rfl (by decide) (by omega) (by omega)
      exact hk_1 (q, (x1_4 + v_13), (x2_5 + 1)) (show (q = q) ∧ (0 ≤ Int32.toInt (x2_5 + 1)) ∧ (Int32.toInt (x2_5 + 1) ≤ 6) from ⟨rfl, by omega, by omega⟩) (show (6 - Int32.toInt (x2_5 + 1)).toNat < (6 - Int32.toInt x2_5).toNat by omega)
  · exact (show (q = q) ∧ (0 ≤ (0 : Int)) ∧ ((0 : Int) ≤ 6) from ⟨rfl, by omega, by omega⟩)
  · show (6 - (0 : Int)).toNat < 1000000000000
    omega

set_option maxHeartbeats 4000000 in
set_option maxRecDepth 100000 in
theorem ok_X9_floor_s0 (q : dK) (p1 : Int32) (p2 : Int32) (hT : TC q) : dOk (zX9_floor_s0 q p1 p2) (fun (o : Int32 × dK) => (TC o.2) ∧ (cFr [3, 4, 48] [(0, 18), (2, 2), (10, 2)] q o.2)) := by
  unfold zX9_floor_s0
  refine dOk_V (ok_X9_isRank p1) (fun r_1 h_2 => ?_)
  replace h_2 : ((Int32.toInt r_1 = 1 ∧ 0 ≤ Int32.toInt p1 ∧ Int32.toInt p1 ≤ 5) ∨ (Int32.toInt r_1 = 0 ∧ (Int32.toInt p1 < 0 ∨ 5 < Int32.toInt p1))) := h_2
  have i_3 := h_2
  refine dOk_eq (A := Int32.toInt r_1) (B := 0) rfl (by decide) (fun c_4z c_4 => ?_) (fun c_5z c_5 => ?_)
  · unfold zX9_floor_s0_14
    refine dOk_B (ok_X9_refuse_s0 q (-1) hT) (fun r_7 q_8 h_9 => ?_)
    replace h_9 : (TC q_8) ∧ (cFr [48] [(0, 18)] q q_8) ∧ (Int32.toInt r_7 = (-1 : Int)) := h_9
    obtain ⟨i_10, i_11, i_12⟩ := h_9
    have hFq_8 : cFr [3, 4, 48] [(0, 18), (2, 2), (10, 2)] q q_8 := (cFr.rf (q := q)).t i_11 (by decide) (by decide)
    exact dOk_some (show (TC q_8) ∧ (cFr [3, 4, 48] [(0, 18), (2, 2), (10, 2)] q q_8) from ⟨i_10, hFq_8⟩)
  · refine dOk_V (ok_X9_isBit p2) (fun r_13 h_14 => ?_)
    replace h_14 : ((Int32.toInt r_13 = 1 ∧ 0 ≤ Int32.toInt p2 ∧ Int32.toInt p2 ≤ 1) ∨ (Int32.toInt r_13 = 0 ∧ (Int32.toInt p2 < 0 ∨ 1 < Int32.toInt p2))) := h_14
    have i_15 := h_14
    refine dOk_eq (A := Int32.toInt r_13) (B := 0) rfl (by decide) (fun c_16z c_16 => ?_) (fun c_17z c_17 => ?_)
    · unfold zX9_floor_s0_14
      refine dOk_B (ok_X9_refuse_s0 q (-1) hT) (fun r_19 q_20 h_21 => ?_)
      replace h_21 : (TC q_20) ∧ (cFr [48] [(0, 18)] q q_20) ∧ (Int32.toInt r_19 = (-1 : Int)) := h_21
      obtain ⟨i_22, i_23, i_24⟩ := h_21
      have hFq_20 : cFr [3, 4, 48] [(0, 18), (2, 2), (10, 2)] q q_20 := (cFr.rf (q := q)).t i_23 (by decide) (by decide)
      exact dOk_some (show (TC q_20) ∧ (cFr [3, 4, 48] [(0, 18), (2, 2), (10, 2)] q q_20) from ⟨i_22, hFq_20⟩)
    · refine dOk_B (ok_X8_has_s2 q p1 hT) (fun r_25 q_26 h_27 => ?_)
      replace h_27 : (q_26 = q) ∧ ((Int32.toInt r_25 = 0 ∨ Int32.toInt r_25 = 1)) := h_27
      obtain ⟨i_28, i_29⟩ := h_27
      subst q_26
      refine dOk_eq (A := Int32.toInt r_25) (B := 0) rfl (by decide) (fun c_30z c_30 => ?_) (fun c_31z c_31 => ?_)
      · refine dOk_B (ok_X8_add_s2 q p1 p2 hT (show 0 ≤ Int32.toInt p1 ∧ Int32.toInt p1 ≤ 7 by omega) (show 0 ≤ Int32.toInt p2 ∧ Int32.toInt p2 ≤ 1 by omega)) (fun r_33 q_34 h_35 => ?_)
        replace h_35 : (TC q_34) ∧ (cFr [3, 4] [(2, 2)] q q_34) ∧ ((Int32.toInt r_33 = 0 ∨ Int32.toInt r_33 = 1)) := h_35
        obtain ⟨i_36, i_37, i_38⟩ := h_35
        have hFq_34 : cFr [3, 4, 48] [(0, 18), (2, 2), (10, 2)] q q_34 := (cFr.rf (q := q)).t i_37 (by decide) (by decide)
        refine dOk_eq (A := Int32.toInt r_33) (B := 0) rfl (by decide) (fun c_39z c_39 => ?_) (fun c_40z c_40 => ?_)
        · refine dOk_B (ok_X9_refuse_s0 q_34 (-5) i_36) (fun r_42 q_43 h_44 => ?_)
          replace h_44 : (TC q_43) ∧ (cFr [48] [(0, 18)] q_34 q_43) ∧ (Int32.toInt r_42 = (-5 : Int)) := h_44
          obtain ⟨i_45, i_46, i_47⟩ := h_44
          have hFq_43 : cFr [3, 4, 48] [(0, 18), (2, 2), (10, 2)] q q_43 := hFq_34.t i_46 (by decide) (by decide)
          exact dOk_some (show (TC q_43) ∧ (cFr [3, 4, 48] [(0, 18), (2, 2), (10, 2)] q q_43) from ⟨i_45, hFq_43⟩)
        · refine dOk_V (ok_X0_clear_s10 q_34 i_36) (fun q_48 h_49 => ?_)
          replace h_49 : (TC q_48) ∧ (cFr [] [(10, 2)] q_34 q_48) := h_49
          obtain ⟨i_50, i_51⟩ := h_49
          have hFq_48 : cFr [3, 4, 48] [(0, 18), (2, 2), (10, 2)] q q_48 := hFq_34.t i_51 (by decide) (by decide)
          have f_52 : 0 ≤ Int32.toInt (q_48.1 2 2) ∧ Int32.toInt (q_48.1 2 2) ≤ 6 := rg_2_2 i_50
          have f_53 : 0 ≤ Int32.toInt (q_34.1 2 2) ∧ Int32.toInt (q_34.1 2 2) ≤ 6 := rg_2_2 i_36
          have w_54 : Int32.toInt (q_48.1 2 2) = Int32.toInt (q_34.1 2 2) := by rw [i_51.1 2 2 (by decide) (by decide)]
          try have t_55 : Int32.toInt (q_48.1 2 2 - 1) = Int32.toInt (q_48.1 2 2) - 1 := ti_sub rfl (by decide) (by omega) (by omega)
          refine dOk_B (ok_X9_accept_s0 q_48 (q_48.1 2 2 - 1) i_50) (fun r_56 q_57 h_58 => ?_)
          replace h_58 : (TC q_57) ∧ (cFr [] [(0, 18)] q_48 q_57) ∧ (Int32.toInt r_56 = Int32.toInt (q_48.1 2 2 - 1)) := h_58
          obtain ⟨i_59, i_60, i_61⟩ := h_58
          have hFq_57 : cFr [3, 4, 48] [(0, 18), (2, 2), (10, 2)] q q_57 := hFq_48.t i_60 (by decide) (by decide)
          exact dOk_some (show (TC q_57) ∧ (cFr [3, 4, 48] [(0, 18), (2, 2), (10, 2)] q q_57) from ⟨i_59, hFq_57⟩)
      · refine dOk_B (ok_X9_refuse_s0 q (-3) hT) (fun r_62 q_63 h_64 => ?_)
        replace h_64 : (TC q_63) ∧ (cFr [48] [(0, 18)] q q_63) ∧ (Int32.toInt r_62 = (-3 : Int)) := h_64
        obtain ⟨i_65, i_66, i_67⟩ := h_64
        have hFq_63 : cFr [3, 4, 48] [(0, 18), (2, 2), (10, 2)] q q_63 := (cFr.rf (q := q)).t i_66 (by decide) (by decide)
        exact dOk_some (show (TC q_63) ∧ (cFr [3, 4, 48] [(0, 18), (2, 2), (10, 2)] q q_63) from ⟨i_65, hFq_63⟩)

set_option maxHeartbeats 4000000 in
set_option maxRecDepth 100000 in
theorem ok_X6_isLaw_s1 (q : dK) (p1 : Int32) (hT : TC q) : dOk (zX6_isLaw_s1 q p1) (fun (o : Int32 × dK) => (o.2 = q) ∧ ((Int32.toInt o.1 = 1 ∧ 0 ≤ Int32.toInt p1 ∧ Int32.toInt p1 < Int32.toInt (q.1 1 8)) ∨ (Int32.toInt o.1 = 0))) := by
  unfold zX6_isLaw_s1
  refine dOk_lt (A := Int32.toInt p1) (B := 0) rfl (by decide) (fun c_1 => ?_) (fun c_2 => ?_)
  · unfold zX6_isLaw_s1_16
    unfold zX6_isLaw_s1_17
    refine dOk_G (dbl_ok (show (0 : Int) = 0 ∨ (0 : Int) = 1 by omega)) ?_
    have f_3 : 0 ≤ Int32.toInt (q.1 1 8) ∧ Int32.toInt (q.1 1 8) ≤ 6 := rg_1_8 hT
    exact dOk_some (show (q = q) ∧ (((0 : Int) = 1 ∧ 0 ≤ Int32.toInt p1 ∧ Int32.toInt p1 < Int32.toInt (q.1 1 8)) ∨ ((0 : Int) = 0)) from ⟨rfl, by omega⟩)
  · have f_4 : 0 ≤ Int32.toInt (q.1 1 8) ∧ Int32.toInt (q.1 1 8) ≤ 6 := rg_1_8 hT
    refine dOk_le (A := Int32.toInt (q.1 1 8)) (B := Int32.toInt p1) rfl rfl (fun c_5 => ?_) (fun c_6 => ?_)
    · unfold zX6_isLaw_s1_16
      unfold zX6_isLaw_s1_17
      refine dOk_G (dbl_ok (show (0 : Int) = 0 ∨ (0 : Int) = 1 by omega)) ?_
      exact dOk_some (show (q = q) ∧ (((0 : Int) = 1 ∧ 0 ≤ Int32.toInt p1 ∧ Int32.toInt p1 < Int32.toInt (q.1 1 8)) ∨ ((0 : Int) = 0)) from ⟨rfl, by omega⟩)
    · unfold zX6_isLaw_s1_17
      refine dOk_G (dbl_ok (show (1 : Int) = 0 ∨ (1 : Int) = 1 by omega)) ?_
      exact dOk_some (show (q = q) ∧ (((1 : Int) = 1 ∧ 0 ≤ Int32.toInt p1 ∧ Int32.toInt p1 < Int32.toInt (q.1 1 8)) ∨ ((1 : Int) = 0)) from ⟨rfl, by omega⟩)

set_option maxHeartbeats 4000000 in
set_option maxRecDepth 100000 in
theorem ok_X6_lawAt_s1 (q : dK) (p1 : Int32) (hT : TC q) : dOk (zX6_lawAt_s1 q p1) (fun (o : Int32 × dK) => (o.2 = q) ∧ (0 ≤ Int32.toInt o.1) ∧ (Int32.toInt o.1 ≤ (q.2.2.length : Int))) := by
  unfold zX6_lawAt_s1
  refine dOk_B (ok_X6_isLaw_s1 q p1 hT) (fun r_1 q_2 h_3 => ?_)
  replace h_3 : (q_2 = q) ∧ ((Int32.toInt r_1 = 1 ∧ 0 ≤ Int32.toInt p1 ∧ Int32.toInt p1 < Int32.toInt (q.1 1 8)) ∨ (Int32.toInt r_1 = 0)) := h_3
  obtain ⟨i_4, i_5⟩ := h_3
  subst q_2
  have f_6 : 0 ≤ Int32.toInt (q.1 1 8) ∧ Int32.toInt (q.1 1 8) ≤ 6 := rg_1_8 hT
  refine dOk_eq (A := Int32.toInt r_1) (B := 0) rfl (by decide) (fun c_7z c_7 => ?_) (fun c_8z c_8 => ?_)
  · unfold zX6_lawAt_s1_18
    exact dOk_some (show (q = q) ∧ (0 ≤ (0 : Int)) ∧ ((0 : Int) ≤ (q.2.2.length : Int)) from ⟨rfl, by omega, by omega⟩)
  · refine dOk_G (dg_ok (show 0 ≤ Int32.toInt p1 by omega) (show Int32.toInt p1 < ((6 : Nat) : Int) by omega)) ?_
    have n_10 : ((Int32.toNatClampNeg p1 : Nat) : Int) = Int32.toInt p1 := cl_eq (by omega)
    refine dOk_L (fun v_11 ev_11 => ?_)
    have f_12 : 0 ≤ Int32.toInt v_11 ∧ Int32.toInt v_11 ≤ 2147483647 := by rw [ev_11]; exact rg_7 hT _
    have f_13 : Int32.toInt v_11 ≤ (q.2.2.length : Int) := by rw [ev_11]; exact (hT.2.1.2 _).1
    exact dOk_some (show (q = q) ∧ (0 ≤ Int32.toInt v_11) ∧ (Int32.toInt v_11 ≤ (q.2.2.length : Int)) from ⟨rfl, by omega, by omega⟩)

set_option maxHeartbeats 4000000 in
set_option maxRecDepth 100000 in
theorem ok_X1_seat_s20_n (q : dK) (p2 : Int32) (hT : TC q) : dOk (zX1_seat_s20_n q p2) (fun (o : dK) => (TC o) ∧ (cFr [21] [(20, 2)] q o)) := by
  unfold zX1_seat_s20_n
  refine dOk_L (fun q_1 eq_1 => ?_)
  have hTq_1 : TC q_1 := by rw [eq_1]; exact tc_law hT (by omega) (show 0 ≤ (0 : Int) by omega) (show (0 : Int) ≤ (q.2.2.length : Int) by omega)
  have hFq_1 : cFr [21] [(20, 2)] q q_1 := by rw [eq_1]; exact (cFr.rf (q := q)).f (by decide)
  refine dOk_L (fun q_2 eq_2 => ?_)
  have hTq_2 : TC q_2 := by rw [eq_2]; exact sa_21 hTq_1
  have hFq_2 : cFr [21] [(20, 2)] q q_2 := by rw [eq_2]; exact hFq_1.i (by decide)
  exact dOk_some (show (TC q_2) ∧ (cFr [21] [(20, 2)] q q_2) from ⟨hTq_2, hFq_2⟩)

set_option maxHeartbeats 4000000 in
set_option maxRecDepth 100000 in
theorem ok_X1_seat_s20_l (q : dK) (p1 : Int32) (p2 : Int32) (hT : TC q) (hp0 : ¬ Int32.toInt p1 = 0) (hp1 : 0 ≤ Int32.toInt p1) (hp2 : Int32.toInt p1 ≤ (q.2.2.length : Int)) : dOk (zX1_seat_s20_l q p1 p2) (fun (o : dK) => (TC o) ∧ (cFr [21] [(20, 2)] q o)) := by
  unfold zX1_seat_s20_l
  have g_1 : dlg q p1 = true := tc_dlg hT (show ¬ Int32.toInt p1 = 0 by omega) (show 0 ≤ Int32.toInt p1 by omega) (show Int32.toInt p1 ≤ (q.2.2.length : Int) by omega)
  refine dOk_G g_1 ?_
  refine dOk_L (fun q_2 eq_2 => ?_)
  have hTq_2 : TC q_2 := by rw [eq_2]; exact tc_law hT (by omega) (show 0 ≤ Int32.toInt p1 by omega) (show Int32.toInt p1 ≤ (q.2.2.length : Int) by omega)
  have hFq_2 : cFr [21] [(20, 2)] q q_2 := by rw [eq_2]; exact (cFr.rf (q := q)).f (by decide)
  refine dOk_L (fun q_3 eq_3 => ?_)
  have hTq_3 : TC q_3 := by rw [eq_3]; exact sa_21 hTq_2
  have hFq_3 : cFr [21] [(20, 2)] q q_3 := by rw [eq_3]; exact hFq_2.i (by decide)
  exact dOk_some (show (TC q_3) ∧ (cFr [21] [(20, 2)] q q_3) from ⟨hTq_3, hFq_3⟩)

set_option maxHeartbeats 4000000 in
set_option maxRecDepth 100000 in
theorem ok_X9_seated_s0 (q : dK) (hT : TC q) : dOk (zX9_seated_s0 q) (fun (o : dK) => (TC o) ∧ (cFr [21] [(20, 2)] q o)) := by
  unfold zX9_seated_s0
  refine dOk_B (ok_X6_lawAt_s1 q (q.1 1 9) hT) (fun r_1 q_2 h_3 => ?_)
  replace h_3 : (q_2 = q) ∧ (0 ≤ Int32.toInt r_1) ∧ (Int32.toInt r_1 ≤ (q.2.2.length : Int)) := h_3
  obtain ⟨i_4, i_5, i_6⟩ := h_3
  subst q_2
  refine dOk_eq (A := Int32.toInt r_1) (B := 0) rfl (by decide) (fun c_7z c_7 => ?_) (fun c_8z c_8 => ?_)
  · refine dOk_V (ok_X1_seat_s20_n q (q.1 1 2) hT) (fun q_10 h_11 => ?_)
    replace h_11 : (TC q_10) ∧ (cFr [21] [(20, 2)] q q_10) := h_11
    obtain ⟨i_12, i_13⟩ := h_11
    have hFq_10 : cFr [21] [(20, 2)] q q_10 := (cFr.rf (q := q)).t i_13 (by decide) (by decide)
    exact dOk_some (show (TC q_10) ∧ (cFr [21] [(20, 2)] q q_10) from ⟨i_12, hFq_10⟩)
  · refine dOk_V (ok_X1_seat_s20_l q r_1 (q.1 1 2) hT (show ¬ Int32.toInt r_1 = 0 by omega) (show 0 ≤ Int32.toInt r_1 by omega) (show Int32.toInt r_1 ≤ (q.2.2.length : Int) by omega)) (fun q_14 h_15 => ?_)
    replace h_15 : (TC q_14) ∧ (cFr [21] [(20, 2)] q q_14) := h_15
    obtain ⟨i_16, i_17⟩ := h_15
    have hFq_14 : cFr [21] [(20, 2)] q q_14 := (cFr.rf (q := q)).t i_17 (by decide) (by decide)
    exact dOk_some (show (TC q_14) ∧ (cFr [21] [(20, 2)] q q_14) from ⟨i_16, hFq_14⟩)

set_option maxHeartbeats 4000000 in
set_option maxRecDepth 100000 in
theorem ok_X1_setCommon_s20 (q : dK) (p1 : Int32) (p2 : Int32) (hT : TC q) : dOk (zX1_setCommon_s20 q p1 p2) (fun (o : dK) => (TC o) ∧ (cFr [21] [] q o)) := by
  unfold zX1_setCommon_s20
  refine dOk_L (fun q_1 eq_1 => ?_)
  have hTq_1 : TC q_1 := by rw [eq_1]; exact sa_21 hT
  have hFq_1 : cFr [21] [] q q_1 := by rw [eq_1]; exact (cFr.rf (q := q)).i (by decide)
  refine dOk_L (fun q_2 eq_2 => ?_)
  have hTq_2 : TC q_2 := by rw [eq_2]; exact sa_21 hTq_1
  have hFq_2 : cFr [21] [] q q_2 := by rw [eq_2]; exact hFq_1.i (by decide)
  exact dOk_some (show (TC q_2) ∧ (cFr [21] [] q q_2) from ⟨hTq_2, hFq_2⟩)

set_option maxHeartbeats 4000000 in
set_option maxRecDepth 100000 in
theorem ok_X1_setGrip_s20 (q : dK) (p1 : Int32) (p2 : Int32) (p3 : Int32) (p4 : Int32) (hT : TC q) : dOk (zX1_setGrip_s20 q p1 p2 p3 p4) (fun (o : dK) => (TC o) ∧ (cFr [21] [] q o) ∧ (Int32.toInt (o.1 21 0) = Int32.toInt p1)) := by
  unfold zX1_setGrip_s20
  refine dOk_L (fun q_1 eq_1 => ?_)
  have hTq_1 : TC q_1 := by rw [eq_1]; exact sa_21 hT
  have hFq_1 : cFr [21] [] q q_1 := by rw [eq_1]; exact (cFr.rf (q := q)).i (by decide)
  refine dOk_L (fun q_2 eq_2 => ?_)
  have hTq_2 : TC q_2 := by rw [eq_2]; exact sa_21 hTq_1
  have hFq_2 : cFr [21] [] q q_2 := by rw [eq_2]; exact hFq_1.i (by decide)
  refine dOk_L (fun q_3 eq_3 => ?_)
  have hTq_3 : TC q_3 := by rw [eq_3]; exact sa_21 hTq_2
  have hFq_3 : cFr [21] [] q q_3 := by rw [eq_3]; exact hFq_2.i (by decide)
  refine dOk_L (fun q_4 eq_4 => ?_)
  have hTq_4 : TC q_4 := by rw [eq_4]; exact sa_21 hTq_3
  have hFq_4 : cFr [21] [] q q_4 := by rw [eq_4]; exact hFq_3.i (by decide)
  refine dOk_L (fun q_5 eq_5 => ?_)
  have hTq_5 : TC q_5 := by rw [eq_5]; exact sa_21 hTq_4
  have hFq_5 : cFr [21] [] q q_5 := by rw [eq_5]; exact hFq_4.i (by decide)
  refine dOk_L (fun q_6 eq_6 => ?_)
  have hTq_6 : TC q_6 := by rw [eq_6]; exact sa_21 hTq_5
  have hFq_6 : cFr [21] [] q q_6 := by rw [eq_6]; exact hFq_5.i (by decide)
  have w_7 : Int32.toInt (q_1.1 21 0) = Int32.toInt p1 := by rw [eq_1, cui_e]
  have w_8 : Int32.toInt (q_2.1 21 0) = Int32.toInt (q_1.1 21 0) := by rw [eq_2, cui_n (by decide)]
  have w_9 : Int32.toInt (q_3.1 21 0) = Int32.toInt (q_2.1 21 0) := by rw [eq_3, cui_n (by decide)]
  have w_10 : Int32.toInt (q_4.1 21 0) = Int32.toInt (q_3.1 21 0) := by rw [eq_4, cui_n (by decide)]
  have w_11 : Int32.toInt (q_5.1 21 0) = Int32.toInt (q_4.1 21 0) := by rw [eq_5, cui_n (by decide)]
  have w_12 : Int32.toInt (q_6.1 21 0) = Int32.toInt (q_5.1 21 0) := by rw [eq_6, cui_n (by decide)]
  exact dOk_some (show (TC q_6) ∧ (cFr [21] [] q q_6) ∧ (Int32.toInt (q_6.1 21 0) = Int32.toInt p1) from ⟨hTq_6, hFq_6, by omega⟩)

set_option maxHeartbeats 4000000 in
set_option maxRecDepth 100000 in
theorem ok_X1_setTurn_s20_s2 (q : dK) (p2 : Int32) (hT : TC q) : dOk (zX1_setTurn_s20_s2 q p2) (fun (o : dK) => (TC o) ∧ (cFr [21] [] q o) ∧ (Int32.toInt (o.1 21 0) = Int32.toInt p2)) := by
  unfold zX1_setTurn_s20_s2
  have f_1 : 0 ≤ Int32.toInt (q.1 2 2) ∧ Int32.toInt (q.1 2 2) ≤ 6 := rg_2_2 hT
  have f_2 : 0 ≤ Int32.toInt (q.1 2 4) ∧ Int32.toInt (q.1 2 4) ≤ 1023 := rg_2_4 hT
  refine dOk_V (ok_X1_setCommon_s20 q (q.1 2 2) (q.1 2 4) hT) (fun q_3 h_4 => ?_)
  replace h_4 : (TC q_3) ∧ (cFr [21] [] q q_3) := h_4
  obtain ⟨i_5, i_6⟩ := h_4
  have hFq_3 : cFr [21] [] q q_3 := (cFr.rf (q := q)).t i_6 (by decide) (by decide)
  refine dOk_B (ok_X8_tell_s2 q_3 0 0 i_5) (fun r_7 q_8 h_9 => ?_)
  replace h_9 : (q_8 = q_3) ∧ (-1 ≤ Int32.toInt r_7 ∧ Int32.toInt r_7 ≤ 7) := h_9
  obtain ⟨i_10, i_11⟩ := h_9
  subst q_8
  refine dOk_B (ok_X8_tell_s2 q_3 p2 0 i_5) (fun r_12 q_13 h_14 => ?_)
  replace h_14 : (q_13 = q_3) ∧ (-1 ≤ Int32.toInt r_12 ∧ Int32.toInt r_12 ≤ 7) := h_14
  obtain ⟨i_15, i_16⟩ := h_14
  subst q_13
  refine dOk_B (ok_X8_tell_s2 q_3 0 1 i_5) (fun r_17 q_18 h_19 => ?_)
  replace h_19 : (q_18 = q_3) ∧ (-1 ≤ Int32.toInt r_17 ∧ Int32.toInt r_17 ≤ 7) := h_19
  obtain ⟨i_20, i_21⟩ := h_19
  subst q_18
  refine dOk_V (ok_X1_setGrip_s20 q_3 p2 r_7 r_12 r_17 i_5) (fun q_22 h_23 => ?_)
  replace h_23 : (TC q_22) ∧ (cFr [21] [] q_3 q_22) ∧ (Int32.toInt (q_22.1 21 0) = Int32.toInt p2) := h_23
  obtain ⟨i_24, i_25, i_26⟩ := h_23
  have hFq_22 : cFr [21] [] q q_22 := hFq_3.t i_25 (by decide) (by decide)
  exact dOk_some (show (TC q_22) ∧ (cFr [21] [] q q_22) ∧ (Int32.toInt (q_22.1 21 0) = Int32.toInt p2) from ⟨i_24, hFq_22, by omega⟩)

set_option maxHeartbeats 4000000 in
set_option maxRecDepth 100000 in
theorem ok_X1_setTurn_s20_s15 (q : dK) (p2 : Int32) (hT : TC q) : dOk (zX1_setTurn_s20_s15 q p2) (fun (o : dK) => (TC o) ∧ (cFr [21] [] q o) ∧ (Int32.toInt (o.1 21 0) = Int32.toInt p2)) := by
  unfold zX1_setTurn_s20_s15
  have f_1 : 0 ≤ Int32.toInt (q.1 15 2) ∧ Int32.toInt (q.1 15 2) ≤ 6 := rg_15_2 hT
  have f_2 : 0 ≤ Int32.toInt (q.1 15 4) ∧ Int32.toInt (q.1 15 4) ≤ 1023 := rg_15_4 hT
  refine dOk_V (ok_X1_setCommon_s20 q (q.1 15 2) (q.1 15 4) hT) (fun q_3 h_4 => ?_)
  replace h_4 : (TC q_3) ∧ (cFr [21] [] q q_3) := h_4
  obtain ⟨i_5, i_6⟩ := h_4
  have hFq_3 : cFr [21] [] q q_3 := (cFr.rf (q := q)).t i_6 (by decide) (by decide)
  refine dOk_B (ok_X8_tell_s15 q_3 0 0 i_5) (fun r_7 q_8 h_9 => ?_)
  replace h_9 : (q_8 = q_3) ∧ (-1 ≤ Int32.toInt r_7 ∧ Int32.toInt r_7 ≤ 7) := h_9
  obtain ⟨i_10, i_11⟩ := h_9
  subst q_8
  refine dOk_B (ok_X8_tell_s15 q_3 p2 0 i_5) (fun r_12 q_13 h_14 => ?_)
  replace h_14 : (q_13 = q_3) ∧ (-1 ≤ Int32.toInt r_12 ∧ Int32.toInt r_12 ≤ 7) := h_14
  obtain ⟨i_15, i_16⟩ := h_14
  subst q_13
  refine dOk_B (ok_X8_tell_s15 q_3 0 1 i_5) (fun r_17 q_18 h_19 => ?_)
  replace h_19 : (q_18 = q_3) ∧ (-1 ≤ Int32.toInt r_17 ∧ Int32.toInt r_17 ≤ 7) := h_19
  obtain ⟨i_20, i_21⟩ := h_19
  subst q_18
  refine dOk_V (ok_X1_setGrip_s20 q_3 p2 r_7 r_12 r_17 i_5) (fun q_22 h_23 => ?_)
  replace h_23 : (TC q_22) ∧ (cFr [21] [] q_3 q_22) ∧ (Int32.toInt (q_22.1 21 0) = Int32.toInt p2) := h_23
  obtain ⟨i_24, i_25, i_26⟩ := h_23
  have hFq_22 : cFr [21] [] q q_22 := hFq_3.t i_25 (by decide) (by decide)
  exact dOk_some (show (TC q_22) ∧ (cFr [21] [] q q_22) ∧ (Int32.toInt (q_22.1 21 0) = Int32.toInt p2) from ⟨i_24, hFq_22, by omega⟩)
