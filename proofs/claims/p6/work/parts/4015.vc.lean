set_option maxHeartbeats 4000000 in
set_option maxRecDepth 100000 in
theorem ok_bricks (q : dS) (hT : TS q) : dOk (zX10_bricks q) (fun (o : Int32 × dS) => (o.2 = q)) := by
  unfold zX10_bricks
  exact dOk_some (show (q = q) from rfl)

set_option maxHeartbeats 4000000 in
set_option maxRecDepth 100000 in
theorem ok_fault (q : dS) (hT : TS q) : dOk (zX10_fault q) (fun (o : Int32 × dS) => (o.2 = q)) := by
  unfold zX10_fault
  exact dOk_some (show (q = q) from rfl)

set_option maxHeartbeats 4000000 in
set_option maxRecDepth 100000 in
theorem ok_stopped (q : dS) (hT : TS q) : dOk (zX10_stopped q) (fun (o : Int32 × dS) => (o.2 = q)) := by
  unfold zX10_stopped
  exact dOk_some (show (q = q) from rfl)

set_option maxHeartbeats 4000000 in
set_option maxRecDepth 100000 in
theorem ok_status (q : dS) (hT : TS q) : dOk (zX10_status q) (fun (o : Int32 × dS) => (o.2 = q)) := by
  unfold zX10_status
  exact dOk_some (show (q = q) from rfl)

set_option maxHeartbeats 4000000 in
set_option maxRecDepth 100000 in
theorem ok_feed (q : dS) (p1 : Int32) (p2 : Int32) (p3 : Int32) (p4 : Int32) (p5 : Int32) (hT : TS q) : dOk (zX10_feed q p1 p2 p3 p4 p5) (fun (o : Int32 × dS) => (TS o.2) ∧ (dFr [7, 8] [13] q o.2) ∧ ((Int32.toInt (q.1 0 13) ≤ 380 ∧ Int32.toInt (o.2.1 0 13) = Int32.toInt (q.1 0 13) + 20 ∧ Int32.toInt o.1 = Int32.toInt (o.2.1 0 13)) ∨ (380 < Int32.toInt (q.1 0 13) ∧ Int32.toInt (o.2.1 0 13) = Int32.toInt (q.1 0 13) ∧ Int32.toInt o.1 = -1))) := by
  unfold zX10_feed
  have f_1 : 0 ≤ Int32.toInt (q.1 0 13) ∧ Int32.toInt (q.1 0 13) ≤ 400 := hT.1 0 13
  try have t_2 : Int32.toInt (q.1 0 13 + 20) = Int32.toInt (q.1 0 13) + 20 := ti_add rfl (by decide) (by omega) (by omega)
  refine dOk_le (A := Int32.toInt (q.1 0 13 + 20)) (B := 400) rfl (by decide) (fun c_3 => ?_) (fun c_4 => ?_)
  · refine dOk_L (fun q_5 eq_5 => ?_)
    have hTq_5 : TS q_5 := by rw [eq_5]; exact ts_any hT rfl
    have hFq_5 : dFr [7, 8] [13] q q_5 := by rw [eq_5]; exact (dFr.rf (q := q)).i (by decide) (by decide)
    refine dOk_L (fun q_6 eq_6 => ?_)
    have hTq_6 : TS q_6 := by rw [eq_6]; exact ts_any hTq_5 rfl
    have hFq_6 : dFr [7, 8] [13] q q_6 := by rw [eq_6]; exact hFq_5.i (by decide) (by decide)
    refine dOk_L (fun q_7 eq_7 => ?_)
    have hTq_7 : TS q_7 := by rw [eq_7]; exact ts_any hTq_6 rfl
    have hFq_7 : dFr [7, 8] [13] q q_7 := by rw [eq_7]; exact hFq_6.i (by decide) (by decide)
    refine dOk_L (fun q_8 eq_8 => ?_)
    have hTq_8 : TS q_8 := by rw [eq_8]; exact ts_any hTq_7 rfl
    have hFq_8 : dFr [7, 8] [13] q q_8 := by rw [eq_8]; exact hFq_7.i (by decide) (by decide)
    refine dOk_L (fun q_9 eq_9 => ?_)
    have hTq_9 : TS q_9 := by rw [eq_9]; exact ts_any hTq_8 rfl
    have hFq_9 : dFr [7, 8] [13] q q_9 := by rw [eq_9]; exact hFq_8.i (by decide) (by decide)
    unfold zX10_feed_55
    refine dFix_ok (fun (a : dS × Int32) => (TS a.1) ∧ (dFr [7] [] q_9 a.1) ∧ (0 ≤ Int32.toInt a.2) ∧ (Int32.toInt a.2 ≤ 20)) (fun (a : dS × Int32) => (20 - Int32.toInt a.2).toNat) ?_ _ ?_ _ (dF_gt ?_)
    · intro a ha k_11 hk_10
      obtain ⟨q_12, x6_13⟩ := a
      replace ha : (TS q_12) ∧ (dFr [7] [] q_9 q_12) ∧ (0 ≤ Int32.toInt x6_13) ∧ (Int32.toInt x6_13 ≤ 20) := ha
      obtain ⟨a_14, a_15, a_16, a_17⟩ := ha
      show dOk (zX10_feed_55b  (fun q x6 => k_11 (q, x6)) q_12 x6_13) _
      unfold zX10_feed_55b
      have hFq_12 : dFr [7, 8] [13] q q_12 := hFq_9.t a_15 (by decide) (by decide)
      refine dOk_le (A := 20) (B := Int32.toInt x6_13) (by decide) rfl (fun c_18 => ?_) (fun c_19 => ?_)
      · refine dOk_L (fun q_20 eq_20 => ?_)
        have f_21 : 0 ≤ Int32.toInt (q_12.1 0 13) ∧ Int32.toInt (q_12.1 0 13) ≤ 400 := a_14.1 0 13
        have f_22 : 0 ≤ Int32.toInt (q_9.1 0 13) ∧ Int32.toInt (q_9.1 0 13) ≤ 400 := hTq_9.1 0 13
        have f_23 : 0 ≤ Int32.toInt (q_8.1 0 13) ∧ Int32.toInt (q_8.1 0 13) ≤ 400 := hTq_8.1 0 13
        have f_24 : 0 ≤ Int32.toInt (q_7.1 0 13) ∧ Int32.toInt (q_7.1 0 13) ≤ 400 := hTq_7.1 0 13
        have f_25 : 0 ≤ Int32.toInt (q_6.1 0 13) ∧ Int32.toInt (q_6.1 0 13) ≤ 400 := hTq_6.1 0 13
        have f_26 : 0 ≤ Int32.toInt (q_5.1 0 13) ∧ Int32.toInt (q_5.1 0 13) ≤ 400 := hTq_5.1 0 13
        have w_27 : Int32.toInt (q_5.1 0 13) = Int32.toInt (q.1 0 13) := by rw [eq_5, dui_o (by decide)]
        have w_28 : Int32.toInt (q_6.1 0 13) = Int32.toInt (q_5.1 0 13) := by rw [eq_6, dui_o (by decide)]
        have w_29 : Int32.toInt (q_7.1 0 13) = Int32.toInt (q_6.1 0 13) := by rw [eq_7, dui_o (by decide)]
        have w_30 : Int32.toInt (q_8.1 0 13) = Int32.toInt (q_7.1 0 13) := by rw [eq_8, dui_o (by decide)]
        have w_31 : Int32.toInt (q_9.1 0 13) = Int32.toInt (q_8.1 0 13) := by rw [eq_9, dui_o (by decide)]
        have w_32 : Int32.toInt (q_12.1 0 13) = Int32.toInt (q_9.1 0 13) := by rw [a_15.2 13 (by decide)]
        try have t_33 : Int32.toInt (q_12.1 0 13 + 20) = Int32.toInt (q_12.1 0 13) + 20 := ti_add rfl (by decide) (by omega) (by omega)
        have hTq_20 : TS q_20 := by rw [eq_20]; exact ts_f a_14 (show 0 ≤ Int32.toInt (q_12.1 0 13 + 20) by omega) (show Int32.toInt (q_12.1 0 13 + 20) ≤ 400 by omega)
        have hFq_20 : dFr [7, 8] [13] q q_20 := by rw [eq_20]; exact hFq_12.f (by decide)
        have f_34 : 0 ≤ Int32.toInt (q_20.1 0 13) ∧ Int32.toInt (q_20.1 0 13) ≤ 400 := hTq_20.1 0 13
        have w_35 : Int32.toInt (q_20.1 0 13) = Int32.toInt (q_12.1 0 13 + 20) := by rw [eq_20, dui_e]
        exact dOk_some (show (TS q_20) ∧ (dFr [7, 8] [13] q q_20) ∧ ((Int32.toInt (q.1 0 13) ≤ 380 ∧ Int32.toInt (q_20.1 0 13) = Int32.toInt (q.1 0 13) + 20 ∧ Int32.toInt (q_20.1 0 13) = Int32.toInt (q_20.1 0 13)) ∨ (380 < Int32.toInt (q.1 0 13) ∧ Int32.toInt (q_20.1 0 13) = Int32.toInt (q.1 0 13) ∧ Int32.toInt (q_20.1 0 13) = -1)) from ⟨hTq_20, hFq_20, by omega⟩)
      · try have t_36 : Int32.toInt (x6_13 / 4) = Int32.toInt x6_13 / 4 := ti_div rfl (by decide) (by omega) (by omega)
        refine dOk_G (dg_ok (show 0 ≤ Int32.toInt (x6_13 / 4) by omega) (show Int32.toInt (x6_13 / 4) < ((5 : Nat) : Int) by omega)) ?_
        have n_37 : ((Int32.toNatClampNeg (x6_13 / 4) : Nat) : Int) = Int32.toInt (x6_13 / 4) := cl_eq (by omega)
        refine dOk_L (fun v_38 ev_38 => ?_)
        try have t_40 : Int32.toInt (x6_13 - x6_13 / 4 * 4) = Int32.toInt x6_13 % 4 := ti_rem rfl (by decide) (by omega) (by omega)
        try have t_41 : Int32.toInt (8 * (x6_13 - x6_13 / 4 * 4)) = 8 * Int32.toInt (x6_13 - x6_13 / 4 * 4) := ti_mul (by decide) rfl (by omega) (by omega)
        try have t_42 : Int32.toInt (24 - 8 * (x6_13 - x6_13 / 4 * 4)) = 24 - Int32.toInt (8 * (x6_13 - x6_13 / 4 * 4)) := ti_sub (by decide) rfl (by omega) (by omega)
        refine dOk_L (fun v_39 ev_39 => ?_)
        have w_43 : Int32.toInt v_39 = Int32.toInt (v_38 >>> ((24 - 8 * (x6_13 - x6_13 / 4 * 4) : Int32) &&& 31)) := by rw [ev_39]
        have f_44 : 0 ≤ Int32.toInt (q_12.1 0 13) ∧ Int32.toInt (q_12.1 0 13) ≤ 400 := a_14.1 0 13
        have f_45 : 0 ≤ Int32.toInt (q_9.1 0 13) ∧ Int32.toInt (q_9.1 0 13) ≤ 400 := hTq_9.1 0 13
        have f_46 : 0 ≤ Int32.toInt (q_8.1 0 13) ∧ Int32.toInt (q_8.1 0 13) ≤ 400 := hTq_8.1 0 13
        have f_47 : 0 ≤ Int32.toInt (q_7.1 0 13) ∧ Int32.toInt (q_7.1 0 13) ≤ 400 := hTq_7.1 0 13
        have f_48 : 0 ≤ Int32.toInt (q_6.1 0 13) ∧ Int32.toInt (q_6.1 0 13) ≤ 400 := hTq_6.1 0 13
        have f_49 : 0 ≤ Int32.toInt (q_5.1 0 13) ∧ Int32.toInt (q_5.1 0 13) ≤ 400 := hTq_5.1 0 13
        have w_50 : Int32.toInt (q_5.1 0 13) = Int32.toInt (q.1 0 13) := by rw [eq_5, dui_o (by decide)]
        have w_51 : Int32.toInt (q_6.1 0 13) = Int32.toInt (q_5.1 0 13) := by rw [eq_6, dui_o (by decide)]
        have w_52 : Int32.toInt (q_7.1 0 13) = Int32.toInt (q_6.1 0 13) := by rw [eq_7, dui_o (by decide)]
        have w_53 : Int32.toInt (q_8.1 0 13) = Int32.toInt (q_7.1 0 13) := by rw [eq_8, dui_o (by decide)]
        have w_54 : Int32.toInt (q_9.1 0 13) = Int32.toInt (q_8.1 0 13) := by rw [eq_9, dui_o (by decide)]
        have w_55 : Int32.toInt (q_12.1 0 13) = Int32.toInt (q_9.1 0 13) := by rw [a_15.2 13 (by decide)]
        try have t_56 : Int32.toInt (q_12.1 0 13 + x6_13) = Int32.toInt (q_12.1 0 13) + Int32.toInt x6_13 := ti_add rfl rfl (by omega) (by omega)
        refine dOk_G (dg_ok (show 0 ≤ Int32.toInt (q_12.1 0 13 + x6_13) by omega) (show Int32.toInt (q_12.1 0 13 + x6_13) < ((400 : Nat) : Int) by omega)) ?_
        have n_57 : ((Int32.toNatClampNeg (q_12.1 0 13 + x6_13) : Nat) : Int) = Int32.toInt (q_12.1 0 13 + x6_13) := cl_eq (by omega)
        refine dOk_L (fun q_58 eq_58 => ?_)
        have hTq_58 : TS q_58 := by rw [eq_58]; exact ts_any a_14 rfl
        have hFq_58 : dFr [7, 8] [13] q q_58 := by rw [eq_58]; exact hFq_12.i (by decide) (by decide)
        try have t_59 : Int32.toInt (x6_13 + 1) = Int32.toInt x6_13 + 1 := ti_add rfl (by decide) (by omega) (by omega)
        exact hk_10 (q_58, (x6_13 + 1)) (show (TS q_58) ∧ (dFr [7] [] q_9 q_58) ∧ (0 ≤ Int32.toInt (x6_13 + 1)) ∧ (Int32.toInt (x6_13 + 1) ≤ 20) from ⟨hTq_58, (by rw [eq_58]; exact (((dFr.rf : dFr [7] [] q_9 q_9).t a_15 (by decide) (by decide)) : dFr [7] [] q_9 q_12).i (by decide) (by decide)), by omega, by omega⟩) (show (20 - Int32.toInt (x6_13 + 1)).toNat < (20 - Int32.toInt x6_13).toNat by omega)
    · exact (show (TS q_9) ∧ (dFr [7] [] q_9 q_9) ∧ (0 ≤ (0 : Int)) ∧ ((0 : Int) ≤ 20) from ⟨hTq_9, dFr.rf, by omega, by omega⟩)
    · show (20 - (0 : Int)).toNat < 1000000000000
      omega
  · exact dOk_some (show (TS q) ∧ (dFr [7, 8] [13] q q) ∧ ((Int32.toInt (q.1 0 13) ≤ 380 ∧ Int32.toInt (q.1 0 13) = Int32.toInt (q.1 0 13) + 20 ∧ (-1 : Int) = Int32.toInt (q.1 0 13)) ∨ (380 < Int32.toInt (q.1 0 13) ∧ Int32.toInt (q.1 0 13) = Int32.toInt (q.1 0 13) ∧ (-1 : Int) = -1)) from ⟨hT, (dFr.rf (q := q)), by omega⟩)

set_option maxHeartbeats 4000000 in
set_option maxRecDepth 100000 in
theorem ok_end (q : dS) (p1 : Int32) (hT : TS q) : dOk (zX10_end q p1) (fun (o : Int32 × dS) => (TS o.2) ∧ (dFr [] [13] q o.2) ∧ ((0 ≤ Int32.toInt p1 ∧ Int32.toInt p1 ≤ Int32.toInt (q.1 0 13) ∧ Int32.toInt (o.2.1 0 13) = Int32.toInt p1 ∧ Int32.toInt o.1 = Int32.toInt p1) ∨ ((Int32.toInt p1 < 0 ∨ Int32.toInt (q.1 0 13) < Int32.toInt p1) ∧ Int32.toInt (o.2.1 0 13) = Int32.toInt (q.1 0 13) ∧ Int32.toInt o.1 = -1))) := by
  unfold zX10_end
  have f_1 : 0 ≤ Int32.toInt (q.1 0 13) ∧ Int32.toInt (q.1 0 13) ≤ 400 := hT.1 0 13
  refine dOk_V (ok_lies p1 0 (q.1 0 13)) (fun r_2 h_3 => ?_)
  replace h_3 : ((Int32.toInt r_2 = 1 ∧ (0 : Int) ≤ Int32.toInt p1 ∧ Int32.toInt p1 ≤ Int32.toInt (q.1 0 13)) ∨ (Int32.toInt r_2 = 0 ∧ (Int32.toInt p1 < (0 : Int) ∨ Int32.toInt (q.1 0 13) < Int32.toInt p1))) := h_3
  have i_4 := h_3
  refine dOk_eq (A := Int32.toInt r_2) (B := 0) rfl (by decide) (fun c_5z c_5 => ?_) (fun c_6z c_6 => ?_)
  · exact dOk_some (show (TS q) ∧ (dFr [] [13] q q) ∧ ((0 ≤ Int32.toInt p1 ∧ Int32.toInt p1 ≤ Int32.toInt (q.1 0 13) ∧ Int32.toInt (q.1 0 13) = Int32.toInt p1 ∧ (-1 : Int) = Int32.toInt p1) ∨ ((Int32.toInt p1 < 0 ∨ Int32.toInt (q.1 0 13) < Int32.toInt p1) ∧ Int32.toInt (q.1 0 13) = Int32.toInt (q.1 0 13) ∧ (-1 : Int) = -1)) from ⟨hT, (dFr.rf (q := q)), by omega⟩)
  · refine dOk_L (fun q_8 eq_8 => ?_)
    have hTq_8 : TS q_8 := by rw [eq_8]; exact ts_f hT (show 0 ≤ Int32.toInt p1 by omega) (show Int32.toInt p1 ≤ 400 by omega)
    have hFq_8 : dFr [] [13] q q_8 := by rw [eq_8]; exact (dFr.rf (q := q)).f (by decide)
    have f_9 : 0 ≤ Int32.toInt (q_8.1 0 13) ∧ Int32.toInt (q_8.1 0 13) ≤ 400 := hTq_8.1 0 13
    have w_10 : Int32.toInt (q_8.1 0 13) = Int32.toInt p1 := by rw [eq_8, dui_e]
    exact dOk_some (show (TS q_8) ∧ (dFr [] [13] q q_8) ∧ ((0 ≤ Int32.toInt p1 ∧ Int32.toInt p1 ≤ Int32.toInt (q.1 0 13) ∧ Int32.toInt (q_8.1 0 13) = Int32.toInt p1 ∧ Int32.toInt p1 = Int32.toInt p1) ∨ ((Int32.toInt p1 < 0 ∨ Int32.toInt (q.1 0 13) < Int32.toInt p1) ∧ Int32.toInt (q_8.1 0 13) = Int32.toInt (q.1 0 13) ∧ Int32.toInt p1 = -1)) from ⟨hTq_8, hFq_8, by omega⟩)

set_option maxHeartbeats 4000000 in
set_option maxRecDepth 100000 in
theorem ok_isSmall (p1 : Int32) : dOk (zX10_isSmall p1) (fun (o : Int32) => ((Int32.toInt o = 1 ∧ 97 ≤ Int32.toInt p1 ∧ Int32.toInt p1 ≤ 122) ∨ (Int32.toInt o = 0 ∧ (Int32.toInt p1 < 97 ∨ 122 < Int32.toInt p1)))) := by
  unfold zX10_isSmall
  refine dOk_lt (A := Int32.toInt p1) (B := 97) rfl (by decide) (fun c_1 => ?_) (fun c_2 => ?_)
  · unfold zX10_isSmall_16
    unfold zX10_isSmall_17
    refine dOk_G (dbl_ok (show (0 : Int) = 0 ∨ (0 : Int) = 1 by omega)) ?_
    exact dOk_some (show (((0 : Int) = 1 ∧ 97 ≤ Int32.toInt p1 ∧ Int32.toInt p1 ≤ 122) ∨ ((0 : Int) = 0 ∧ (Int32.toInt p1 < 97 ∨ 122 < Int32.toInt p1))) from (by omega))
  · refine dOk_lt (A := 122) (B := Int32.toInt p1) (by decide) rfl (fun c_3 => ?_) (fun c_4 => ?_)
    · unfold zX10_isSmall_16
      unfold zX10_isSmall_17
      refine dOk_G (dbl_ok (show (0 : Int) = 0 ∨ (0 : Int) = 1 by omega)) ?_
      exact dOk_some (show (((0 : Int) = 1 ∧ 97 ≤ Int32.toInt p1 ∧ Int32.toInt p1 ≤ 122) ∨ ((0 : Int) = 0 ∧ (Int32.toInt p1 < 97 ∨ 122 < Int32.toInt p1))) from (by omega))
    · unfold zX10_isSmall_17
      refine dOk_G (dbl_ok (show (1 : Int) = 0 ∨ (1 : Int) = 1 by omega)) ?_
      exact dOk_some (show (((1 : Int) = 1 ∧ 97 ≤ Int32.toInt p1 ∧ Int32.toInt p1 ≤ 122) ∨ ((1 : Int) = 0 ∧ (Int32.toInt p1 < 97 ∨ 122 < Int32.toInt p1))) from (by omega))

set_option maxHeartbeats 4000000 in
set_option maxRecDepth 100000 in
theorem ok_isDigit (p1 : Int32) : dOk (zX10_isDigit p1) (fun (o : Int32) => ((Int32.toInt o = 1 ∧ 48 ≤ Int32.toInt p1 ∧ Int32.toInt p1 ≤ 57) ∨ (Int32.toInt o = 0 ∧ (Int32.toInt p1 < 48 ∨ 57 < Int32.toInt p1)))) := by
  unfold zX10_isDigit
  refine dOk_lt (A := Int32.toInt p1) (B := 48) rfl (by decide) (fun c_1 => ?_) (fun c_2 => ?_)
  · unfold zX10_isDigit_16
    unfold zX10_isDigit_17
    refine dOk_G (dbl_ok (show (0 : Int) = 0 ∨ (0 : Int) = 1 by omega)) ?_
    exact dOk_some (show (((0 : Int) = 1 ∧ 48 ≤ Int32.toInt p1 ∧ Int32.toInt p1 ≤ 57) ∨ ((0 : Int) = 0 ∧ (Int32.toInt p1 < 48 ∨ 57 < Int32.toInt p1))) from (by omega))
  · refine dOk_lt (A := 57) (B := Int32.toInt p1) (by decide) rfl (fun c_3 => ?_) (fun c_4 => ?_)
    · unfold zX10_isDigit_16
      unfold zX10_isDigit_17
      refine dOk_G (dbl_ok (show (0 : Int) = 0 ∨ (0 : Int) = 1 by omega)) ?_
      exact dOk_some (show (((0 : Int) = 1 ∧ 48 ≤ Int32.toInt p1 ∧ Int32.toInt p1 ≤ 57) ∨ ((0 : Int) = 0 ∧ (Int32.toInt p1 < 48 ∨ 57 < Int32.toInt p1))) from (by omega))
    · unfold zX10_isDigit_17
      refine dOk_G (dbl_ok (show (1 : Int) = 0 ∨ (1 : Int) = 1 by omega)) ?_
      exact dOk_some (show (((1 : Int) = 1 ∧ 48 ≤ Int32.toInt p1 ∧ Int32.toInt p1 ≤ 57) ∨ ((1 : Int) = 0 ∧ (Int32.toInt p1 < 48 ∨ 57 < Int32.toInt p1))) from (by omega))
