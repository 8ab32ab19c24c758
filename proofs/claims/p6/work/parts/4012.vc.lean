set_option maxHeartbeats 4000000 in
set_option maxRecDepth 100000 in
theorem ok_floor (q : dS) (p1 : Int32) (p2 : Int32) (hT : TS q) : dOk (zX10_floor q p1 p2) (fun (o : Int32 × dS) => (TS o.2) ∧ (dFr [1, 2] [0, 32] q o.2) ∧ (Int32.toInt (o.2.1 2 30) = Int32.toInt (q.1 2 30)) ∧ (Int32.toInt (o.2.1 2 26) = Int32.toInt (q.1 2 26))) := by
  unfold zX10_floor
  refine dOk_V (ok_isRank p1) (fun r_1 h_2 => ?_)
  replace h_2 : ((Int32.toInt r_1 = 1 ∧ 0 ≤ Int32.toInt p1 ∧ Int32.toInt p1 ≤ 5) ∨ (Int32.toInt r_1 = 0 ∧ (Int32.toInt p1 < 0 ∨ 5 < Int32.toInt p1))) := h_2
  have i_3 := h_2
  refine dOk_eq (A := Int32.toInt r_1) (B := 0) rfl (by decide) (fun c_4z c_4 => ?_) (fun c_5z c_5 => ?_)
  · unfold zX10_floor_14
    refine dOk_B (ok_refuses q (-1) hT (show (-6) ≤ (-1 : Int) by omega) (show (-1 : Int) ≤ 0 by omega)) (fun r_7 q_8 h_9 => ?_)
    replace h_9 : (TS q_8) ∧ (dFr [1] [0] q q_8) ∧ (Int32.toInt r_7 = (-1 : Int)) := h_9
    obtain ⟨i_10, i_11, i_12⟩ := h_9
    have hFq_8 : dFr [1, 2] [0, 32] q q_8 := (dFr.rf (q := q)).t i_11 (by decide) (by decide)
    have f_13 : 0 ≤ Int32.toInt (q_8.1 2 30) ∧ Int32.toInt (q_8.1 2 30) ≤ 6 := i_10.1 2 30
    have f_14 : 0 ≤ Int32.toInt (q.1 2 30) ∧ Int32.toInt (q.1 2 30) ≤ 6 := hT.1 2 30
    have w_15 : Int32.toInt (q_8.1 2 30) = Int32.toInt (q.1 2 30) := by rw [i_11.1 2 (by decide) (by decide)]
    have f_16 : 0 ≤ Int32.toInt (q_8.1 2 26) ∧ Int32.toInt (q_8.1 2 26) ≤ 10 := i_10.1 2 26
    have f_17 : 0 ≤ Int32.toInt (q.1 2 26) ∧ Int32.toInt (q.1 2 26) ≤ 10 := hT.1 2 26
    have w_18 : Int32.toInt (q_8.1 2 26) = Int32.toInt (q.1 2 26) := by rw [i_11.1 2 (by decide) (by decide)]
    exact dOk_some (show (TS q_8) ∧ (dFr [1, 2] [0, 32] q q_8) ∧ (Int32.toInt (q_8.1 2 30) = Int32.toInt (q.1 2 30)) ∧ (Int32.toInt (q_8.1 2 26) = Int32.toInt (q.1 2 26)) from ⟨i_10, hFq_8, by omega, by omega⟩)
  · refine dOk_V (ok_isBit p2) (fun r_19 h_20 => ?_)
    replace h_20 : ((Int32.toInt r_19 = 1 ∧ 0 ≤ Int32.toInt p2 ∧ Int32.toInt p2 ≤ 1) ∨ (Int32.toInt r_19 = 0 ∧ (Int32.toInt p2 < 0 ∨ 1 < Int32.toInt p2))) := h_20
    have i_21 := h_20
    refine dOk_eq (A := Int32.toInt r_19) (B := 0) rfl (by decide) (fun c_22z c_22 => ?_) (fun c_23z c_23 => ?_)
    · unfold zX10_floor_14
      refine dOk_B (ok_refuses q (-1) hT (show (-6) ≤ (-1 : Int) by omega) (show (-1 : Int) ≤ 0 by omega)) (fun r_25 q_26 h_27 => ?_)
      replace h_27 : (TS q_26) ∧ (dFr [1] [0] q q_26) ∧ (Int32.toInt r_25 = (-1 : Int)) := h_27
      obtain ⟨i_28, i_29, i_30⟩ := h_27
      have hFq_26 : dFr [1, 2] [0, 32] q q_26 := (dFr.rf (q := q)).t i_29 (by decide) (by decide)
      have f_31 : 0 ≤ Int32.toInt (q_26.1 2 30) ∧ Int32.toInt (q_26.1 2 30) ≤ 6 := i_28.1 2 30
      have f_32 : 0 ≤ Int32.toInt (q.1 2 30) ∧ Int32.toInt (q.1 2 30) ≤ 6 := hT.1 2 30
      have w_33 : Int32.toInt (q_26.1 2 30) = Int32.toInt (q.1 2 30) := by rw [i_29.1 2 (by decide) (by decide)]
      have f_34 : 0 ≤ Int32.toInt (q_26.1 2 26) ∧ Int32.toInt (q_26.1 2 26) ≤ 10 := i_28.1 2 26
      have f_35 : 0 ≤ Int32.toInt (q.1 2 26) ∧ Int32.toInt (q.1 2 26) ≤ 10 := hT.1 2 26
      have w_36 : Int32.toInt (q_26.1 2 26) = Int32.toInt (q.1 2 26) := by rw [i_29.1 2 (by decide) (by decide)]
      exact dOk_some (show (TS q_26) ∧ (dFr [1, 2] [0, 32] q q_26) ∧ (Int32.toInt (q_26.1 2 30) = Int32.toInt (q.1 2 30)) ∧ (Int32.toInt (q_26.1 2 26) = Int32.toInt (q.1 2 26)) from ⟨i_28, hFq_26, by omega, by omega⟩)
    · refine dOk_B (ok_placeOf q p1 hT) (fun r_37 q_38 h_39 => ?_)
      replace h_39 : (q_38 = q) ∧ (-1 ≤ Int32.toInt r_37 ∧ Int32.toInt r_37 ≤ 5) := h_39
      obtain ⟨i_40, i_41⟩ := h_39
      subst q_38
      refine dOk_eq (A := Int32.toInt r_37) (B := (-1)) rfl (by decide) (fun c_42z c_42 => ?_) (fun c_43z c_43 => ?_)
      · refine dOk_B (ok_size q hT) (fun r_45 q_46 h_47 => ?_)
        replace h_47 : (q_46 = q) ∧ (Int32.toInt r_45 = Int32.toInt (q.1 2 29)) ∧ (0 ≤ Int32.toInt r_45 ∧ Int32.toInt r_45 ≤ 6) := h_47
        obtain ⟨i_48, i_49, i_50⟩ := h_47
        subst q_46
        have f_51 : 0 ≤ Int32.toInt (q.1 2 29) ∧ Int32.toInt (q.1 2 29) ≤ 6 := hT.1 2 29
        refine dOk_eq (A := Int32.toInt r_45) (B := 6) rfl (by decide) (fun c_52z c_52 => ?_) (fun c_53z c_53 => ?_)
        · refine dOk_B (ok_refuses q (-5) hT (show (-6) ≤ (-5 : Int) by omega) (show (-5 : Int) ≤ 0 by omega)) (fun r_55 q_56 h_57 => ?_)
          replace h_57 : (TS q_56) ∧ (dFr [1] [0] q q_56) ∧ (Int32.toInt r_55 = (-5 : Int)) := h_57
          obtain ⟨i_58, i_59, i_60⟩ := h_57
          have hFq_56 : dFr [1, 2] [0, 32] q q_56 := (dFr.rf (q := q)).t i_59 (by decide) (by decide)
          have f_61 : 0 ≤ Int32.toInt (q_56.1 2 30) ∧ Int32.toInt (q_56.1 2 30) ≤ 6 := i_58.1 2 30
          have f_62 : 0 ≤ Int32.toInt (q.1 2 30) ∧ Int32.toInt (q.1 2 30) ≤ 6 := hT.1 2 30
          have w_63 : Int32.toInt (q_56.1 2 30) = Int32.toInt (q.1 2 30) := by rw [i_59.1 2 (by decide) (by decide)]
          have f_64 : 0 ≤ Int32.toInt (q_56.1 2 26) ∧ Int32.toInt (q_56.1 2 26) ≤ 10 := i_58.1 2 26
          have f_65 : 0 ≤ Int32.toInt (q.1 2 26) ∧ Int32.toInt (q.1 2 26) ≤ 10 := hT.1 2 26
          have w_66 : Int32.toInt (q_56.1 2 26) = Int32.toInt (q.1 2 26) := by rw [i_59.1 2 (by decide) (by decide)]
          exact dOk_some (show (TS q_56) ∧ (dFr [1, 2] [0, 32] q q_56) ∧ (Int32.toInt (q_56.1 2 30) = Int32.toInt (q.1 2 30)) ∧ (Int32.toInt (q_56.1 2 26) = Int32.toInt (q.1 2 26)) from ⟨i_58, hFq_56, by omega, by omega⟩)
        · refine dOk_V (ok_adds q p1 p2 hT (show Int32.toInt (q.1 2 29) < 6 by omega) (show 0 ≤ Int32.toInt p1 ∧ Int32.toInt p1 ≤ 5 by omega) (show 0 ≤ Int32.toInt p2 ∧ Int32.toInt p2 ≤ 1 by omega)) (fun q_67 h_68 => ?_)
          replace h_68 : (TS q_67) ∧ (dFr [2] [] q q_67) ∧ (Int32.toInt (q_67.1 2 29) = Int32.toInt (q.1 2 29) + 1) ∧ (Int32.toInt (q_67.1 2 30) = Int32.toInt (q.1 2 30)) ∧ (Int32.toInt (q_67.1 2 26) = Int32.toInt (q.1 2 26)) := h_68
          obtain ⟨i_69, i_70, i_71, i_72, i_73⟩ := h_68
          have hFq_67 : dFr [1, 2] [0, 32] q q_67 := (dFr.rf (q := q)).t i_70 (by decide) (by decide)
          have f_74 : 0 ≤ Int32.toInt (q_67.1 2 29) ∧ Int32.toInt (q_67.1 2 29) ≤ 6 := i_69.1 2 29
          have f_75 : 0 ≤ Int32.toInt (q_67.1 2 30) ∧ Int32.toInt (q_67.1 2 30) ≤ 6 := i_69.1 2 30
          have f_76 : 0 ≤ Int32.toInt (q.1 2 30) ∧ Int32.toInt (q.1 2 30) ≤ 6 := hT.1 2 30
          have f_77 : 0 ≤ Int32.toInt (q_67.1 2 26) ∧ Int32.toInt (q_67.1 2 26) ≤ 10 := i_69.1 2 26
          have f_78 : 0 ≤ Int32.toInt (q.1 2 26) ∧ Int32.toInt (q.1 2 26) ≤ 10 := hT.1 2 26
          refine dOk_B (ok_size q_67 i_69) (fun r_79 q_80 h_81 => ?_)
          replace h_81 : (q_80 = q_67) ∧ (Int32.toInt r_79 = Int32.toInt (q_67.1 2 29)) ∧ (0 ≤ Int32.toInt r_79 ∧ Int32.toInt r_79 ≤ 6) := h_81
          obtain ⟨i_82, i_83, i_84⟩ := h_81
          subst q_80
          try have t_85 : Int32.toInt (r_79 - 1) = Int32.toInt r_79 - 1 := ti_sub rfl (by decide) (by omega) (by omega)
          refine dOk_B (ok_settled q_67 (r_79 - 1) i_69) (fun r_86 q_87 h_88 => ?_)
          replace h_88 : (TS q_87) ∧ (dFr [] [0, 32] q_67 q_87) ∧ (Int32.toInt r_86 = Int32.toInt (r_79 - 1)) := h_88
          obtain ⟨i_89, i_90, i_91⟩ := h_88
          have hFq_87 : dFr [1, 2] [0, 32] q q_87 := hFq_67.t i_90 (by decide) (by decide)
          have f_92 : 0 ≤ Int32.toInt (q_87.1 2 30) ∧ Int32.toInt (q_87.1 2 30) ≤ 6 := i_89.1 2 30
          have w_93 : Int32.toInt (q_87.1 2 30) = Int32.toInt (q_67.1 2 30) := by rw [i_90.1 2 (by decide) (by decide)]
          have f_94 : 0 ≤ Int32.toInt (q_87.1 2 26) ∧ Int32.toInt (q_87.1 2 26) ≤ 10 := i_89.1 2 26
          have w_95 : Int32.toInt (q_87.1 2 26) = Int32.toInt (q_67.1 2 26) := by rw [i_90.1 2 (by decide) (by decide)]
          exact dOk_some (show (TS q_87) ∧ (dFr [1, 2] [0, 32] q q_87) ∧ (Int32.toInt (q_87.1 2 30) = Int32.toInt (q.1 2 30)) ∧ (Int32.toInt (q_87.1 2 26) = Int32.toInt (q.1 2 26)) from ⟨i_89, hFq_87, by omega, by omega⟩)
      · refine dOk_B (ok_refuses q (-3) hT (show (-6) ≤ (-3 : Int) by omega) (show (-3 : Int) ≤ 0 by omega)) (fun r_96 q_97 h_98 => ?_)
        replace h_98 : (TS q_97) ∧ (dFr [1] [0] q q_97) ∧ (Int32.toInt r_96 = (-3 : Int)) := h_98
        obtain ⟨i_99, i_100, i_101⟩ := h_98
        have hFq_97 : dFr [1, 2] [0, 32] q q_97 := (dFr.rf (q := q)).t i_100 (by decide) (by decide)
        have f_102 : 0 ≤ Int32.toInt (q_97.1 2 30) ∧ Int32.toInt (q_97.1 2 30) ≤ 6 := i_99.1 2 30
        have f_103 : 0 ≤ Int32.toInt (q.1 2 30) ∧ Int32.toInt (q.1 2 30) ≤ 6 := hT.1 2 30
        have w_104 : Int32.toInt (q_97.1 2 30) = Int32.toInt (q.1 2 30) := by rw [i_100.1 2 (by decide) (by decide)]
        have f_105 : 0 ≤ Int32.toInt (q_97.1 2 26) ∧ Int32.toInt (q_97.1 2 26) ≤ 10 := i_99.1 2 26
        have f_106 : 0 ≤ Int32.toInt (q.1 2 26) ∧ Int32.toInt (q.1 2 26) ≤ 10 := hT.1 2 26
        have w_107 : Int32.toInt (q_97.1 2 26) = Int32.toInt (q.1 2 26) := by rw [i_100.1 2 (by decide) (by decide)]
        exact dOk_some (show (TS q_97) ∧ (dFr [1, 2] [0, 32] q q_97) ∧ (Int32.toInt (q_97.1 2 30) = Int32.toInt (q.1 2 30)) ∧ (Int32.toInt (q_97.1 2 26) = Int32.toInt (q.1 2 26)) from ⟨i_99, hFq_97, by omega, by omega⟩)

set_option maxHeartbeats 4000000 in
set_option maxRecDepth 100000 in
theorem ok_setsAsked (q : dS) (p1 : Int32) (p2 : Int32) (p3 : Int32) (hT : TS q) : dOk (zX10_setsAsked q p1 p2 p3) (fun (o : dS) => (TS o) ∧ (dFr [12] [] q o) ∧ (Int32.toInt (o.1 12 0) = Int32.toInt (q.1 12 0)) ∧ (Int32.toInt (o.1 12 1) = Int32.toInt (q.1 12 1)) ∧ (Int32.toInt (o.1 12 2) = Int32.toInt (q.1 12 2))) := by
  unfold zX10_setsAsked
  refine dOk_B (ok_size q hT) (fun r_1 q_2 h_3 => ?_)
  replace h_3 : (q_2 = q) ∧ (Int32.toInt r_1 = Int32.toInt (q.1 2 29)) ∧ (0 ≤ Int32.toInt r_1 ∧ Int32.toInt r_1 ≤ 6) := h_3
  obtain ⟨i_4, i_5, i_6⟩ := h_3
  subst q_2
  have f_7 : 0 ≤ Int32.toInt (q.1 2 29) ∧ Int32.toInt (q.1 2 29) ≤ 6 := hT.1 2 29
  refine dOk_L (fun q_8 eq_8 => ?_)
  have hTq_8 : TS q_8 := by rw [eq_8]; exact ts_any hT rfl
  have hFq_8 : dFr [12] [] q q_8 := by rw [eq_8]; exact (dFr.rf (q := q)).i (by decide) (by decide)
  refine dOk_L (fun q_9 eq_9 => ?_)
  have hTq_9 : TS q_9 := by rw [eq_9]; exact ts_any hTq_8 rfl
  have hFq_9 : dFr [12] [] q q_9 := by rw [eq_9]; exact hFq_8.i (by decide) (by decide)
  refine dOk_L (fun q_10 eq_10 => ?_)
  have hTq_10 : TS q_10 := by rw [eq_10]; exact ts_any hTq_9 rfl
  have hFq_10 : dFr [12] [] q q_10 := by rw [eq_10]; exact hFq_9.i (by decide) (by decide)
  refine dOk_L (fun q_11 eq_11 => ?_)
  have f_12 : 0 ≤ Int32.toInt (q_10.1 2 27) ∧ Int32.toInt (q_10.1 2 27) ≤ 9 := hTq_10.1 2 27
  have f_13 : 0 ≤ Int32.toInt (q_9.1 2 27) ∧ Int32.toInt (q_9.1 2 27) ≤ 9 := hTq_9.1 2 27
  have f_14 : 0 ≤ Int32.toInt (q_8.1 2 27) ∧ Int32.toInt (q_8.1 2 27) ≤ 9 := hTq_8.1 2 27
  have f_15 : 0 ≤ Int32.toInt (q.1 2 27) ∧ Int32.toInt (q.1 2 27) ≤ 9 := hT.1 2 27
  have w_16 : Int32.toInt (q_8.1 2 27) = Int32.toInt (q.1 2 27) := by rw [eq_8, dui_o (by decide)]
  have w_17 : Int32.toInt (q_9.1 2 27) = Int32.toInt (q_8.1 2 27) := by rw [eq_9, dui_o (by decide)]
  have w_18 : Int32.toInt (q_10.1 2 27) = Int32.toInt (q_9.1 2 27) := by rw [eq_10, dui_o (by decide)]
  have hTq_11 : TS q_11 := by rw [eq_11]; exact ts_any hTq_10 rfl
  have hFq_11 : dFr [12] [] q q_11 := by rw [eq_11]; exact hFq_10.i (by decide) (by decide)
  refine dOk_L (fun q_19 eq_19 => ?_)
  have hTq_19 : TS q_19 := by rw [eq_19]; exact ts_any hTq_11 rfl
  have hFq_19 : dFr [12] [] q q_19 := by rw [eq_19]; exact hFq_11.i (by decide) (by decide)
  refine dOk_L (fun q_20 eq_20 => ?_)
  have f_21 : 0 ≤ Int32.toInt (q_19.1 2 13) ∧ Int32.toInt (q_19.1 2 13) ≤ 999 := hTq_19.1 2 13
  have f_22 : 0 ≤ Int32.toInt (q_11.1 2 13) ∧ Int32.toInt (q_11.1 2 13) ≤ 999 := hTq_11.1 2 13
  have f_23 : 0 ≤ Int32.toInt (q_10.1 2 13) ∧ Int32.toInt (q_10.1 2 13) ≤ 999 := hTq_10.1 2 13
  have f_24 : 0 ≤ Int32.toInt (q_9.1 2 13) ∧ Int32.toInt (q_9.1 2 13) ≤ 999 := hTq_9.1 2 13
  have f_25 : 0 ≤ Int32.toInt (q_8.1 2 13) ∧ Int32.toInt (q_8.1 2 13) ≤ 999 := hTq_8.1 2 13
  have f_26 : 0 ≤ Int32.toInt (q.1 2 13) ∧ Int32.toInt (q.1 2 13) ≤ 999 := hT.1 2 13
  have w_27 : Int32.toInt (q_8.1 2 13) = Int32.toInt (q.1 2 13) := by rw [eq_8, dui_o (by decide)]
  have w_28 : Int32.toInt (q_9.1 2 13) = Int32.toInt (q_8.1 2 13) := by rw [eq_9, dui_o (by decide)]
  have w_29 : Int32.toInt (q_10.1 2 13) = Int32.toInt (q_9.1 2 13) := by rw [eq_10, dui_o (by decide)]
  have w_30 : Int32.toInt (q_11.1 2 13) = Int32.toInt (q_10.1 2 13) := by rw [eq_11, dui_o (by decide)]
  have w_31 : Int32.toInt (q_19.1 2 13) = Int32.toInt (q_11.1 2 13) := by rw [eq_19, dui_o (by decide)]
  have hTq_20 : TS q_20 := by rw [eq_20]; exact ts_any hTq_19 rfl
  have hFq_20 : dFr [12] [] q q_20 := by rw [eq_20]; exact hFq_19.i (by decide) (by decide)
  have w_32 : Int32.toInt (q_8.1 12 0) = Int32.toInt (q.1 12 0) := by rw [eq_8, dui_n (by decide)]
  have w_33 : Int32.toInt (q_9.1 12 0) = Int32.toInt (q_8.1 12 0) := by rw [eq_9, dui_n (by decide)]
  have w_34 : Int32.toInt (q_10.1 12 0) = Int32.toInt (q_9.1 12 0) := by rw [eq_10, dui_n (by decide)]
  have w_35 : Int32.toInt (q_11.1 12 0) = Int32.toInt (q_10.1 12 0) := by rw [eq_11, dui_n (by decide)]
  have w_36 : Int32.toInt (q_19.1 12 0) = Int32.toInt (q_11.1 12 0) := by rw [eq_19, dui_n (by decide)]
  have w_37 : Int32.toInt (q_20.1 12 0) = Int32.toInt (q_19.1 12 0) := by rw [eq_20, dui_n (by decide)]
  have w_38 : Int32.toInt (q_8.1 12 1) = Int32.toInt (q.1 12 1) := by rw [eq_8, dui_n (by decide)]
  have w_39 : Int32.toInt (q_9.1 12 1) = Int32.toInt (q_8.1 12 1) := by rw [eq_9, dui_n (by decide)]
  have w_40 : Int32.toInt (q_10.1 12 1) = Int32.toInt (q_9.1 12 1) := by rw [eq_10, dui_n (by decide)]
  have w_41 : Int32.toInt (q_11.1 12 1) = Int32.toInt (q_10.1 12 1) := by rw [eq_11, dui_n (by decide)]
  have w_42 : Int32.toInt (q_19.1 12 1) = Int32.toInt (q_11.1 12 1) := by rw [eq_19, dui_n (by decide)]
  have w_43 : Int32.toInt (q_20.1 12 1) = Int32.toInt (q_19.1 12 1) := by rw [eq_20, dui_n (by decide)]
  have w_44 : Int32.toInt (q_8.1 12 2) = Int32.toInt (q.1 12 2) := by rw [eq_8, dui_n (by decide)]
  have w_45 : Int32.toInt (q_9.1 12 2) = Int32.toInt (q_8.1 12 2) := by rw [eq_9, dui_n (by decide)]
  have w_46 : Int32.toInt (q_10.1 12 2) = Int32.toInt (q_9.1 12 2) := by rw [eq_10, dui_n (by decide)]
  have w_47 : Int32.toInt (q_11.1 12 2) = Int32.toInt (q_10.1 12 2) := by rw [eq_11, dui_n (by decide)]
  have w_48 : Int32.toInt (q_19.1 12 2) = Int32.toInt (q_11.1 12 2) := by rw [eq_19, dui_n (by decide)]
  have w_49 : Int32.toInt (q_20.1 12 2) = Int32.toInt (q_19.1 12 2) := by rw [eq_20, dui_n (by decide)]
  exact dOk_some (show (TS q_20) ∧ (dFr [12] [] q q_20) ∧ (Int32.toInt (q_20.1 12 0) = Int32.toInt (q.1 12 0)) ∧ (Int32.toInt (q_20.1 12 1) = Int32.toInt (q.1 12 1)) ∧ (Int32.toInt (q_20.1 12 2) = Int32.toInt (q.1 12 2)) from ⟨hTq_20, hFq_20, by omega, by omega, by omega⟩)

set_option maxHeartbeats 4000000 in
set_option maxRecDepth 100000 in
theorem ok_setsFloor (q : dS) (p1 : Int32) (hT : TS q) (hp0 : 0 ≤ Int32.toInt p1) (hp1 : Int32.toInt p1 < 6) : dOk (zX10_setsFloor q p1) (fun (o : dS) => (TS o) ∧ (dFr [12] [] q o)) := by
  unfold zX10_setsFloor
  refine dOk_L (fun q_1 eq_1 => ?_)
  have hTq_1 : TS q_1 := by rw [eq_1]; exact ts_any hT rfl
  have hFq_1 : dFr [12] [] q q_1 := by rw [eq_1]; exact (dFr.rf (q := q)).i (by decide) (by decide)
  refine dOk_L (fun q_2 eq_2 => ?_)
  have hTq_2 : TS q_2 := by rw [eq_2]; exact ts_any hTq_1 rfl
  have hFq_2 : dFr [12] [] q q_2 := by rw [eq_2]; exact hFq_1.i (by decide) (by decide)
  refine dOk_L (fun q_3 eq_3 => ?_)
  have hTq_3 : TS q_3 := by rw [eq_3]; exact ts_any hTq_2 rfl
  have hFq_3 : dFr [12] [] q q_3 := by rw [eq_3]; exact hFq_2.i (by decide) (by decide)
  try have t_4 : Int32.toInt (0 + p1) = 0 + Int32.toInt p1 := ti_add (by decide) rfl (by omega) (by omega)
  refine dOk_G (dg_ok (show 0 ≤ Int32.toInt (0 + p1) by omega) (show Int32.toInt (0 + p1) < ((5640 : Nat) : Int) by omega)) ?_
  have n_5 : ((Int32.toNatClampNeg (0 + p1) : Nat) : Int) = Int32.toInt (0 + p1) := cl_eq (by omega)
  refine dOk_L (fun v_6 ev_6 => ?_)
  try have g_7 : klo (Int32.toNatClampNeg (0 + p1)) ≤ Int32.toInt v_6 ∧ Int32.toInt v_6 ≤ khi (Int32.toNatClampNeg (0 + p1)) := by rw [ev_6]; exact te_k hTq_3 _
  try have f_8 : 0 ≤ Int32.toInt v_6 ∧ Int32.toInt v_6 ≤ 5 := by rw [ev_6]; exact te_2r hTq_3 (by omega) (by omega)
  try have f_9 : 0 ≤ Int32.toInt v_6 ∧ Int32.toInt v_6 ≤ 1 := by rw [ev_6]; exact te_2h hTq_3 (by omega) (by omega)
  try have f_10 : 0 ≤ Int32.toInt v_6 ∧ Int32.toInt v_6 ≤ 5 := by rw [ev_6]; exact te_2s hTq_3 (by omega) (by omega)
  try have f_11 : 0 ≤ Int32.toInt v_6 ∧ Int32.toInt v_6 ≤ 400 := by rw [ev_6]; exact te_2z hTq_3 (by omega) (by omega)
  try have t_12 : Int32.toInt (6 + p1) = 6 + Int32.toInt p1 := ti_add (by decide) rfl (by omega) (by omega)
  refine dOk_G (dg_ok (show 0 ≤ Int32.toInt (6 + p1) by omega) (show Int32.toInt (6 + p1) < ((5640 : Nat) : Int) by omega)) ?_
  have n_13 : ((Int32.toNatClampNeg (6 + p1) : Nat) : Int) = Int32.toInt (6 + p1) := cl_eq (by omega)
  refine dOk_L (fun v_14 ev_14 => ?_)
  try have g_15 : klo (Int32.toNatClampNeg (6 + p1)) ≤ Int32.toInt v_14 ∧ Int32.toInt v_14 ≤ khi (Int32.toNatClampNeg (6 + p1)) := by rw [ev_14]; exact te_k hTq_3 _
  try have f_16 : 0 ≤ Int32.toInt v_14 ∧ Int32.toInt v_14 ≤ 5 := by rw [ev_14]; exact te_2r hTq_3 (by omega) (by omega)
  try have f_17 : 0 ≤ Int32.toInt v_14 ∧ Int32.toInt v_14 ≤ 1 := by rw [ev_14]; exact te_2h hTq_3 (by omega) (by omega)
  try have f_18 : 0 ≤ Int32.toInt v_14 ∧ Int32.toInt v_14 ≤ 5 := by rw [ev_14]; exact te_2s hTq_3 (by omega) (by omega)
  try have f_19 : 0 ≤ Int32.toInt v_14 ∧ Int32.toInt v_14 ≤ 400 := by rw [ev_14]; exact te_2z hTq_3 (by omega) (by omega)
  refine dOk_V (ok_setsAsked q_3 v_6 p1 v_14 hTq_3) (fun q_20 h_21 => ?_)
  replace h_21 : (TS q_20) ∧ (dFr [12] [] q_3 q_20) ∧ (Int32.toInt (q_20.1 12 0) = Int32.toInt (q_3.1 12 0)) ∧ (Int32.toInt (q_20.1 12 1) = Int32.toInt (q_3.1 12 1)) ∧ (Int32.toInt (q_20.1 12 2) = Int32.toInt (q_3.1 12 2)) := h_21
  obtain ⟨i_22, i_23, i_24, i_25, i_26⟩ := h_21
  have hFq_20 : dFr [12] [] q q_20 := hFq_3.t i_23 (by decide) (by decide)
  have w_27 : Int32.toInt (q_1.1 12 0) = (-1 : Int) := by rw [eq_1, dui_e]; decide
  have w_28 : Int32.toInt (q_2.1 12 0) = Int32.toInt (q_1.1 12 0) := by rw [eq_2, dui_n (by decide)]
  have w_29 : Int32.toInt (q_3.1 12 0) = Int32.toInt (q_2.1 12 0) := by rw [eq_3, dui_n (by decide)]
  have w_30 : Int32.toInt (q_2.1 12 1) = (-1 : Int) := by rw [eq_2, dui_e]; decide
  have w_31 : Int32.toInt (q_3.1 12 1) = Int32.toInt (q_2.1 12 1) := by rw [eq_3, dui_n (by decide)]
  have w_32 : Int32.toInt (q_3.1 12 2) = (-1 : Int) := by rw [eq_3, dui_e]; decide
  exact dOk_some (show (TS q_20) ∧ (dFr [12] [] q q_20) from ⟨i_22, hFq_20⟩)

set_option maxHeartbeats 4000000 in
set_option maxRecDepth 100000 in
theorem ok_sign (p1 : Int32) (hp0 : 0 ≤ Int32.toInt p1 ∧ Int32.toInt p1 ≤ 255) : dOk (zX10_sign p1) (fun (o : Int32) => (Int32.toInt o = Int32.toInt p1 + 100)) := by
  unfold zX10_sign
  try have t_1 : Int32.toInt (100 + p1) = 100 + Int32.toInt p1 := ti_add (by decide) rfl (by omega) (by omega)
  exact dOk_some (show (Int32.toInt (100 + p1) = Int32.toInt p1 + 100) from (by omega))

set_option maxHeartbeats 4000000 in
set_option maxRecDepth 100000 in
theorem ok_lessThan (q : dS) (p1 : Int32) (hT : TS q) : dOk (zX10_lessThan q p1) (fun (o : Int32 × dS) => (o.2 = q) ∧ (0 ≤ Int32.toInt o.1 ∧ Int32.toInt o.1 ≤ 6)) := by
  unfold zX10_lessThan
  unfold zX10_lessThan_4
  refine dFix_ok (fun (a : dS × Int32 × Int32 × Int32) => (a.1 = q) ∧ (a.2.1 = p1) ∧ (0 ≤ Int32.toInt a.2.2.2) ∧ (Int32.toInt a.2.2.2 ≤ 6) ∧ (0 ≤ Int32.toInt a.2.2.1) ∧ (Int32.toInt a.2.2.1 ≤ Int32.toInt a.2.2.2)) (fun (a : dS × Int32 × Int32 × Int32) => (6 - Int32.toInt a.2.2.2).toNat) ?_ _ ?_ _ (dF_gt ?_)
  · intro a ha k_2 hk_1
    obtain ⟨q_3, x1_4, x2_5, x3_6⟩ := a
    replace ha : (q_3 = q) ∧ (x1_4 = p1) ∧ (0 ≤ Int32.toInt x3_6) ∧ (Int32.toInt x3_6 ≤ 6) ∧ (0 ≤ Int32.toInt x2_5) ∧ (Int32.toInt x2_5 ≤ Int32.toInt x3_6) := ha
    obtain ⟨a_7, a_8, a_9, a_10, a_11, a_12⟩ := ha
    show dOk (zX10_lessThan_4b  (fun q x1 x2 x3 => k_2 (q, x1, x2, x3)) q_3 x1_4 x2_5 x3_6) _
    unfold zX10_lessThan_4b
    subst q_3
    subst x1_4
    refine dOk_B (ok_size q hT) (fun r_13 q_14 h_15 => ?_)
    replace h_15 : (q_14 = q) ∧ (Int32.toInt r_13 = Int32.toInt (q.1 2 29)) ∧ (0 ≤ Int32.toInt r_13 ∧ Int32.toInt r_13 ≤ 6) := h_15
    obtain ⟨i_16, i_17, i_18⟩ := h_15
    subst q_14
    have f_19 : 0 ≤ Int32.toInt (q.1 2 29) ∧ Int32.toInt (q.1 2 29) ≤ 6 := hT.1 2 29
    refine dOk_le (A := Int32.toInt r_13) (B := Int32.toInt x3_6) rfl rfl (fun c_20 => ?_) (fun c_21 => ?_)
    · exact dOk_some (show (q = q) ∧ (0 ≤ Int32.toInt x2_5 ∧ Int32.toInt x2_5 ≤ 6) from ⟨rfl, by omega⟩)
    · try have t_22 : Int32.toInt (0 + x3_6) = 0 + Int32.toInt x3_6 := ti_add (by decide) rfl (by omega) (by omega)
      refine dOk_G (dg_ok (show 0 ≤ Int32.toInt (0 + x3_6) by omega) (show Int32.toInt (0 + x3_6) < ((5640 : Nat) : Int) by omega)) ?_
      have n_23 : ((Int32.toNatClampNeg (0 + x3_6) : Nat) : Int) = Int32.toInt (0 + x3_6) := cl_eq (by omega)
      refine dOk_L (fun v_24 ev_24 => ?_)
      try have g_25 : klo (Int32.toNatClampNeg (0 + x3_6)) ≤ Int32.toInt v_24 ∧ Int32.toInt v_24 ≤ khi (Int32.toNatClampNeg (0 + x3_6)) := by rw [ev_24]; exact te_k hT _
      try have f_26 : 0 ≤ Int32.toInt v_24 ∧ Int32.toInt v_24 ≤ 5 := by rw [ev_24]; exact te_2r hT (by omega) (by omega)
      try have f_27 : 0 ≤ Int32.toInt v_24 ∧ Int32.toInt v_24 ≤ 1 := by rw [ev_24]; exact te_2h hT (by omega) (by omega)
      try have f_28 : 0 ≤ Int32.toInt v_24 ∧ Int32.toInt v_24 ≤ 5 := by rw [ev_24]; exact te_2s hT (by omega) (by omega)
      try have f_29 : 0 ≤ Int32.toInt v_24 ∧ Int32.toInt v_24 ≤ 400 := by rw [ev_24]; exact te_2z hT (by omega) (by omega)
      refine dOk_le (A := Int32.toInt p1) (B := Int32.toInt v_24) rfl rfl (fun c_30 => ?_) (fun c_31 => ?_)
      · unfold zX10_lessThan_30
        try have t_32 : Int32.toInt (x2_5 + 0) = Int32.toInt x2_5 + 0 := ti_add rfl (by decide) (by omega) (by omega)
        try have t_33 : Int32.toInt (x3_6 + 1) = Int32.toInt x3_6 + 1 := ti_add rfl (by decide) (by omega) (by omega)
        exact hk_1 (q, p1, (x2_5 + 0), (x3_6 + 1)) (show (q = q) ∧ (p1 = p1) ∧ (0 ≤ Int32.toInt (x3_6 + 1)) ∧ (Int32.toInt (x3_6 + 1) ≤ 6) ∧ (0 ≤ Int32.toInt (x2_5 + 0)) ∧ (Int32.toInt (x2_5 + 0) ≤ Int32.toInt (x3_6 + 1)) from ⟨rfl, rfl, by omega, by omega, by omega, by omega⟩) (show (6 - Int32.toInt (x3_6 + 1)).toNat < (6 - Int32.toInt x3_6).toNat by omega)
      · unfold zX10_lessThan_30
        try have t_34 : Int32.toInt (x2_5 + 1) = Int32.toInt x2_5 + 1 := ti_add rfl (by decide) (by omega) (by omega)
        try have t_35 : Int32.toInt (x3_6 + 1) = Int32.toInt x3_6 + 1 := ti_add rfl (by decide) (by omega) (by omega)
        exact hk_1 (q, p1, (x2_5 + 1), (x3_6 + 1)) (show (q = q) ∧ (p1 = p1) ∧ (0 ≤ Int32.toInt (x3_6 + 1)) ∧ (Int32.toInt (x3_6 + 1) ≤ 6) ∧ (0 ≤ Int32.toInt (x2_5 + 1)) ∧ (Int32.toInt (x2_5 + 1) ≤ Int32.toInt (x3_6 + 1)) from ⟨rfl, rfl, by omega, by omega, by omega, by omega⟩) (show (6 - Int32.toInt (x3_6 + 1)).toNat < (6 - Int32.toInt x3_6).toNat by omega)
  · exact (show (q = q) ∧ (p1 = p1) ∧ (0 ≤ (0 : Int)) ∧ ((0 : Int) ≤ 6) ∧ (0 ≤ (0 : Int)) ∧ ((0 : Int) ≤ (0 : Int)) from ⟨rfl, rfl, by omega, by omega, by omega, by omega⟩)
  · show (6 - (0 : Int)).toNat < 1000000000000
    omega
