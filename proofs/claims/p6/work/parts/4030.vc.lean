set_option maxHeartbeats 4000000 in
set_option maxRecDepth 100000 in
theorem ok_small (p1 : Int64) : dOk (zX10_small p1) (fun (o : Int32) => (True)) := by
  unfold zX10_small
  refine dOk_lt rfl rfl (fun c9 => ?_) (fun c9 => ?_)
  · unfold zX10_small_14
    unfold zX10_small_20
    exact dOk_some (show (True) from trivial)
  · refine dOk_le rfl rfl (fun c9 => ?_) (fun c9 => ?_)
    · unfold zX10_small_20
      exact dOk_some (show (True) from trivial)
    · unfold zX10_small_14
      unfold zX10_small_20
      exact dOk_some (show (True) from trivial)

set_option maxHeartbeats 4000000 in
set_option maxRecDepth 100000 in
theorem ok_obeys (q : dS) (hT : TS q) : dOk (zX10_obeys q) (fun (o : Int32 × dS) => (TS o.2) ∧ (dFk [2, 12, 13, 14] [22, 23, 24, 25, 28, 32] q o.2) ∧ (-3 ≤ Int32.toInt o.1)) := by
  unfold zX10_obeys
  refine dOk_eq (A := Int32.toInt (q.1 0 49)) (B := 23) rfl (by decide) (fun c_1z c_1 => ?_) (fun c_2z c_2 => ?_)
  · refine dOk_V (ok_small (q.2 0 52)) (fun r_4 h_5 => ?_)
    replace h_5 : (True) := h_5
    have i_6 := h_5
    refine dOk_B (ok_rightsKept q r_4 hT) (fun r_7 q_8 h_9 => ?_)
    replace h_9 : (TS q_8) ∧ (dFk [2, 14] [32] q q_8) ∧ (-3 ≤ Int32.toInt r_7 ∧ Int32.toInt r_7 ≤ 99) := h_9
    obtain ⟨i_10, i_11, i_12⟩ := h_9
    have hFq_8 : dFk [2, 12, 13, 14] [22, 23, 24, 25, 28, 32] q q_8 := (dFk.rf (q := q)).t i_11 (by decide) (by decide)
    exact dOk_some (show (TS q_8) ∧ (dFk [2, 12, 13, 14] [22, 23, 24, 25, 28, 32] q q_8) ∧ (-3 ≤ Int32.toInt r_7) from ⟨i_10, hFq_8, by omega⟩)
  · refine dOk_eq (A := Int32.toInt (q.1 0 49)) (B := 24) rfl (by decide) (fun c_13z c_13 => ?_) (fun c_14z c_14 => ?_)
    · refine dOk_V (ok_small (q.2 0 52)) (fun r_16 h_17 => ?_)
      replace h_17 : (True) := h_17
      have i_18 := h_17
      refine dOk_B (ok_swapsKept q r_16 hT) (fun r_19 q_20 h_21 => ?_)
      replace h_21 : (TS q_20) ∧ (dFk [2, 14] [32] q q_20) ∧ (-3 ≤ Int32.toInt r_19 ∧ Int32.toInt r_19 ≤ 99) := h_21
      obtain ⟨i_22, i_23, i_24⟩ := h_21
      have hFq_20 : dFk [2, 12, 13, 14] [22, 23, 24, 25, 28, 32] q q_20 := (dFk.rf (q := q)).t i_23 (by decide) (by decide)
      exact dOk_some (show (TS q_20) ∧ (dFk [2, 12, 13, 14] [22, 23, 24, 25, 28, 32] q q_20) ∧ (-3 ≤ Int32.toInt r_19) from ⟨i_22, hFq_20, by omega⟩)
    · refine dOk_eq (A := Int32.toInt (q.1 0 49)) (B := 25) rfl (by decide) (fun c_25z c_25 => ?_) (fun c_26z c_26 => ?_)
      · refine dOk_B (ok_passesKept q hT) (fun r_28 q_29 h_30 => ?_)
        replace h_30 : (TS q_29) ∧ (dFk [2, 12, 13, 14] [22, 23, 24, 25, 32] q q_29) ∧ (-3 ≤ Int32.toInt r_28) := h_30
        obtain ⟨i_31, i_32, i_33⟩ := h_30
        have hFq_29 : dFk [2, 12, 13, 14] [22, 23, 24, 25, 28, 32] q q_29 := (dFk.rf (q := q)).t i_32 (by decide) (by decide)
        exact dOk_some (show (TS q_29) ∧ (dFk [2, 12, 13, 14] [22, 23, 24, 25, 28, 32] q q_29) ∧ (-3 ≤ Int32.toInt r_28) from ⟨i_31, hFq_29, by omega⟩)
      · refine dOk_V (ok_small (q.2 0 52)) (fun r_34 h_35 => ?_)
        replace h_35 : (True) := h_35
        have i_36 := h_35
        refine dOk_B (ok_turnsKept q r_34 hT) (fun r_37 q_38 h_39 => ?_)
        replace h_39 : (TS q_38) ∧ (dFk [2, 12, 14] [22, 23, 24, 25, 32] q q_38) ∧ (-3 ≤ Int32.toInt r_37 ∧ Int32.toInt r_37 ≤ 99) := h_39
        obtain ⟨i_40, i_41, i_42⟩ := h_39
        have hFq_38 : dFk [2, 12, 13, 14] [22, 23, 24, 25, 28, 32] q q_38 := (dFk.rf (q := q)).t i_41 (by decide) (by decide)
        refine dOk_le (A := 0) (B := Int32.toInt r_37) (by decide) rfl (fun c_43 => ?_) (fun c_44 => ?_)
        · unfold zX10_obeys_86
          refine dOk_L (fun q_45 eq_45 => ?_)
          have hTq_45 : TS q_45 := by rw [eq_45]; exact ts_f i_40 (ti_rg _).1 (ti_rg _).2
          have hFq_45 : dFk [2, 12, 13, 14] [22, 23, 24, 25, 28, 32] q q_45 := by rw [eq_45]; exact hFq_38.f (by decide)
          exact dOk_some (show (TS q_45) ∧ (dFk [2, 12, 13, 14] [22, 23, 24, 25, 28, 32] q q_45) ∧ (-3 ≤ Int32.toInt r_37) from ⟨hTq_45, hFq_45, by omega⟩)
        · unfold zX10_obeys_86
          refine dOk_L (fun q_46 eq_46 => ?_)
          have w_47 : Int32.toInt (q_38.1 0 28) = Int32.toInt (q.1 0 28) := by rw [i_41.1.2 28 (by decide)]
          have hTq_46 : TS q_46 := by rw [eq_46]; exact ts_f i_40 (ti_rg _).1 (ti_rg _).2
          have hFq_46 : dFk [2, 12, 13, 14] [22, 23, 24, 25, 28, 32] q q_46 := by rw [eq_46]; exact hFq_38.f (by decide)
          exact dOk_some (show (TS q_46) ∧ (dFk [2, 12, 13, 14] [22, 23, 24, 25, 28, 32] q q_46) ∧ (-3 ≤ Int32.toInt r_37) from ⟨hTq_46, hFq_46, by omega⟩)
