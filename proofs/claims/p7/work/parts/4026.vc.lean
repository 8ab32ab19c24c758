set_option maxHeartbeats 4000000 in
set_option maxRecDepth 100000 in
theorem ok_paysNow (q : dS) (hT : TS q) : dOk (zX10_paysNow q) (fun (o : Int32 × dS) => (TS o.2) ∧ (dFr [] [22, 23, 24, 25] q o.2) ∧ ((0 ≤ Int32.toInt (q.1 12 0) ∧ Int32.toInt (q.1 12 0) ≤ 99) → 0 ≤ Int32.toInt o.1 ∧ Int32.toInt o.1 ≤ 99)) := by
  unfold zX10_paysNow
  refine dOk_B (ok_tells q 1 (q.1 12 0) hT) (fun r_1 q_2 h_3 => ?_)
  replace h_3 : (TS q_2) ∧ (dFr [] [22, 23, 24, 25] q q_2) ∧ ((0 ≤ Int32.toInt (q.1 12 0) ∧ Int32.toInt (q.1 12 0) ≤ 99) → 0 ≤ Int32.toInt r_1 ∧ Int32.toInt r_1 ≤ 99) := h_3
  obtain ⟨i_4, i_5, i_6⟩ := h_3
  have hFq_2 : dFr [] [22, 23, 24, 25] q q_2 := (dFr.rf (q := q)).t i_5 (by decide) (by decide)
  exact dOk_some (show (TS q_2) ∧ (dFr [] [22, 23, 24, 25] q q_2) ∧ ((0 ≤ Int32.toInt (q.1 12 0) ∧ Int32.toInt (q.1 12 0) ≤ 99) → 0 ≤ Int32.toInt r_1 ∧ Int32.toInt r_1 ≤ 99) from ⟨i_4, hFq_2, by omega⟩)

set_option maxHeartbeats 4000000 in
set_option maxRecDepth 100000 in
theorem ok_isNow (q : dS) (p1 : Int32) (hT : TS q) : dOk (zX10_isNow q p1) (fun (o : Int32 × dS) => (TS o.2) ∧ (dFr [] [22, 23, 24, 25] q o.2) ∧ ((Int32.toInt o.1 = 0 ∨ Int32.toInt o.1 = 1))) := by
  unfold zX10_isNow
  refine dOk_B (ok_tells q p1 0 hT) (fun r_1 q_2 h_3 => ?_)
  replace h_3 : (TS q_2) ∧ (dFr [] [22, 23, 24, 25] q q_2) ∧ ((0 ≤ (0 : Int) ∧ (0 : Int) ≤ 99) → 0 ≤ Int32.toInt r_1 ∧ Int32.toInt r_1 ≤ 99) := h_3
  obtain ⟨i_4, i_5, i_6⟩ := h_3
  have hFq_2 : dFr [] [22, 23, 24, 25] q q_2 := (dFr.rf (q := q)).t i_5 (by decide) (by decide)
  refine dOk_eq (A := Int32.toInt r_1) (B := 1) rfl (by decide) (fun c_7z c_7 => ?_) (fun c_8z c_8 => ?_)
  · unfold zX10_isNow_15
    refine dOk_G (dbl_ok (show (1 : Int) = 0 ∨ (1 : Int) = 1 by omega)) ?_
    exact dOk_some (show (TS q_2) ∧ (dFr [] [22, 23, 24, 25] q q_2) ∧ (((1 : Int) = 0 ∨ (1 : Int) = 1)) from ⟨i_4, hFq_2, by omega⟩)
  · unfold zX10_isNow_15
    refine dOk_G (dbl_ok (show (0 : Int) = 0 ∨ (0 : Int) = 1 by omega)) ?_
    exact dOk_some (show (TS q_2) ∧ (dFr [] [22, 23, 24, 25] q q_2) ∧ (((0 : Int) = 0 ∨ (0 : Int) = 1)) from ⟨i_4, hFq_2, by omega⟩)

set_option maxHeartbeats 4000000 in
set_option maxRecDepth 100000 in
theorem ok_tipsAt (q : dS) (p1 : Int32) (hT : TS q) (hp0 : 0 ≤ Int32.toInt p1) (hp1 : Int32.toInt p1 < 6) : dOk (zX10_tipsAt q p1) (fun (o : Int32 × dS) => (TS o.2) ∧ (dFr [12] [22, 23, 24, 25] q o.2) ∧ ((Int32.toInt o.1 = 0 ∨ Int32.toInt o.1 = 1))) := by
  unfold zX10_tipsAt
  refine dOk_V (ok_setsFloor q p1 hT (show 0 ≤ Int32.toInt p1 by omega) (show Int32.toInt p1 < 6 by omega)) (fun q_1 h_2 => ?_)
  replace h_2 : (TS q_1) ∧ (dFr [12] [] q q_1) := h_2
  obtain ⟨i_3, i_4⟩ := h_2
  have hFq_1 : dFr [12] [22, 23, 24, 25] q q_1 := (dFr.rf (q := q)).t i_4 (by decide) (by decide)
  refine dOk_B (ok_isNow q_1 3 i_3) (fun r_5 q_6 h_7 => ?_)
  replace h_7 : (TS q_6) ∧ (dFr [] [22, 23, 24, 25] q_1 q_6) ∧ ((Int32.toInt r_5 = 0 ∨ Int32.toInt r_5 = 1)) := h_7
  obtain ⟨i_8, i_9, i_10⟩ := h_7
  have hFq_6 : dFr [12] [22, 23, 24, 25] q q_6 := hFq_1.t i_9 (by decide) (by decide)
  refine dOk_G (dbl_ok (show Int32.toInt r_5 = 0 ∨ Int32.toInt r_5 = 1 by omega)) ?_
  exact dOk_some (show (TS q_6) ∧ (dFr [12] [22, 23, 24, 25] q q_6) ∧ ((Int32.toInt r_5 = 0 ∨ Int32.toInt r_5 = 1)) from ⟨i_8, hFq_6, by omega⟩)

set_option maxHeartbeats 4000000 in
set_option maxRecDepth 100000 in
theorem ok_canTurn (q : dS) (p1 : Int32) (hT : TS q) (hp0 : 1 ≤ Int32.toInt p1) : dOk (zX10_canTurn q p1) (fun (o : Int32 × dS) => (TS o.2) ∧ (dFr [12] [22, 23, 24, 25] q o.2) ∧ ((Int32.toInt o.1 = 1 ∧ Int32.toInt p1 ≤ Int32.toInt (q.1 2 29)) ∨ Int32.toInt o.1 = 0)) := by
  unfold zX10_canTurn
  refine dOk_B (ok_size q hT) (fun r_1 q_2 h_3 => ?_)
  replace h_3 : (q_2 = q) ∧ (Int32.toInt r_1 = Int32.toInt (q.1 2 29)) ∧ (0 ≤ Int32.toInt r_1 ∧ Int32.toInt r_1 ≤ 6) := h_3
  obtain ⟨i_4, i_5, i_6⟩ := h_3
  subst q_2
  have f_7 : 0 ≤ Int32.toInt (q.1 2 29) ∧ Int32.toInt (q.1 2 29) ≤ 6 := hT.1 2 29
  refine dOk_le (A := Int32.toInt p1) (B := Int32.toInt r_1) rfl rfl (fun c_8 => ?_) (fun c_9 => ?_)
  · refine dOk_B (ok_rankBelow q p1 hT (show 0 ≤ Int32.toInt p1 by omega)) (fun r_10 q_11 h_12 => ?_)
    replace h_12 : (q_11 = q) ∧ (-1 ≤ Int32.toInt r_10 ∧ Int32.toInt r_10 ≤ 5) := h_12
    obtain ⟨i_13, i_14⟩ := h_12
    subst q_11
    have f_15 : 0 ≤ Int32.toInt (q.1 2 0) ∧ Int32.toInt (q.1 2 0) ≤ 5 := hT.1 2 0
    have f_16 : 0 ≤ Int32.toInt (q.1 2 6) ∧ Int32.toInt (q.1 2 6) ≤ 1 := hT.1 2 6
    refine dOk_V (ok_setsTurn q p1 (q.1 2 0) r_10 (q.1 2 6) hT) (fun q_17 h_18 => ?_)
    replace h_18 : (TS q_17) ∧ (dFr [12] [] q q_17) ∧ (Int32.toInt (q_17.1 12 0) = Int32.toInt p1) := h_18
    obtain ⟨i_19, i_20, i_21⟩ := h_18
    have hFq_17 : dFr [12] [22, 23, 24, 25] q q_17 := (dFr.rf (q := q)).t i_20 (by decide) (by decide)
    refine dOk_B (ok_isNow q_17 2 i_19) (fun r_22 q_23 h_24 => ?_)
    replace h_24 : (TS q_23) ∧ (dFr [] [22, 23, 24, 25] q_17 q_23) ∧ ((Int32.toInt r_22 = 0 ∨ Int32.toInt r_22 = 1)) := h_24
    obtain ⟨i_25, i_26, i_27⟩ := h_24
    have hFq_23 : dFr [12] [22, 23, 24, 25] q q_23 := hFq_17.t i_26 (by decide) (by decide)
    refine dOk_eq (A := Int32.toInt r_22) (B := 0) rfl (by decide) (fun c_28z c_28 => ?_) (fun c_29z c_29 => ?_)
    · unfold zX10_canTurn_46
      refine dOk_G (dbl_ok (show (1 : Int) = 0 ∨ (1 : Int) = 1 by omega)) ?_
      exact dOk_some (show (TS q_23) ∧ (dFr [12] [22, 23, 24, 25] q q_23) ∧ (((1 : Int) = 1 ∧ Int32.toInt p1 ≤ Int32.toInt (q.1 2 29)) ∨ (1 : Int) = 0) from ⟨i_25, hFq_23, by omega⟩)
    · unfold zX10_canTurn_46
      refine dOk_G (dbl_ok (show (0 : Int) = 0 ∨ (0 : Int) = 1 by omega)) ?_
      exact dOk_some (show (TS q_23) ∧ (dFr [12] [22, 23, 24, 25] q q_23) ∧ (((0 : Int) = 1 ∧ Int32.toInt p1 ≤ Int32.toInt (q.1 2 29)) ∨ (0 : Int) = 0) from ⟨i_25, hFq_23, by omega⟩)
  · exact dOk_some (show (TS q) ∧ (dFr [12] [22, 23, 24, 25] q q) ∧ (((0 : Int) = 1 ∧ Int32.toInt p1 ≤ Int32.toInt (q.1 2 29)) ∨ (0 : Int) = 0) from ⟨hT, (dFr.rf (q := q)), by omega⟩)

set_option maxHeartbeats 4000000 in
set_option maxRecDepth 100000 in
theorem ok_turns (q : dS) (p1 : Int32) (hT : TS q) (hp0 : 1 ≤ Int32.toInt p1) (hp1 : Int32.toInt p1 ≤ Int32.toInt (q.1 2 29)) : dOk (zX10_turns q p1) (fun (o : Int32 × dS) => (TS o.2) ∧ (dFk [2, 12] [22, 23, 24, 25] q o.2) ∧ (0 ≤ Int32.toInt o.1 ∧ Int32.toInt o.1 ≤ 99) ∧ (Int32.toInt (o.2.1 2 29) = Int32.toInt (q.1 2 29)) ∧ (Int32.toInt (o.2.1 2 13) = Int32.toInt (q.1 2 13))) := by
  unfold zX10_turns
  refine dOk_B (ok_rankBelow q p1 hT (show 0 ≤ Int32.toInt p1 by omega)) (fun r_1 q_2 h_3 => ?_)
  replace h_3 : (q_2 = q) ∧ (-1 ≤ Int32.toInt r_1 ∧ Int32.toInt r_1 ≤ 5) := h_3
  obtain ⟨i_4, i_5⟩ := h_3
  subst q_2
  have f_6 : 0 ≤ Int32.toInt (q.1 2 0) ∧ Int32.toInt (q.1 2 0) ≤ 5 := hT.1 2 0
  have f_7 : 0 ≤ Int32.toInt (q.1 2 6) ∧ Int32.toInt (q.1 2 6) ≤ 1 := hT.1 2 6
  refine dOk_V (ok_setsTurn q p1 (q.1 2 0) r_1 (q.1 2 6) hT) (fun q_8 h_9 => ?_)
  replace h_9 : (TS q_8) ∧ (dFr [12] [] q q_8) ∧ (Int32.toInt (q_8.1 12 0) = Int32.toInt p1) := h_9
  obtain ⟨i_10, i_11, i_12⟩ := h_9
  have hFq_8 : dFk [2, 12] [22, 23, 24, 25] q q_8 := (dFk.rf (q := q)).tr i_11 (by decide) (by decide) (by decide)
  refine dOk_B (ok_paysNow q_8 i_10) (fun r_13 q_14 h_15 => ?_)
  replace h_15 : (TS q_14) ∧ (dFr [] [22, 23, 24, 25] q_8 q_14) ∧ ((0 ≤ Int32.toInt (q_8.1 12 0) ∧ Int32.toInt (q_8.1 12 0) ≤ 99) → 0 ≤ Int32.toInt r_13 ∧ Int32.toInt r_13 ≤ 99) := h_15
  obtain ⟨i_16, i_17, i_18⟩ := h_15
  have hFq_14 : dFk [2, 12] [22, 23, 24, 25] q q_14 := hFq_8.tr i_17 (by decide) (by decide) (by decide)
  unfold zX10_turns_30
  refine dFix_ok (fun (a : dS × Int32 × Int32 × Int32) => (TS a.1) ∧ (dFk [2] [] q_14 a.1) ∧ (a.2.1 = p1) ∧ (a.2.2.1 = r_13) ∧ (0 ≤ Int32.toInt a.2.2.2) ∧ (Int32.toInt a.2.2.2 ≤ 6) ∧ (Int32.toInt (a.1.1 2 29) = Int32.toInt (q_14.1 2 29)) ∧ (Int32.toInt (a.1.1 2 13) = Int32.toInt (q_14.1 2 13))) (fun (a : dS × Int32 × Int32 × Int32) => (6 - Int32.toInt a.2.2.2).toNat) ?_ _ ?_ _ (dF_gt ?_)
  · intro a ha k_20 hk_19
    obtain ⟨q_21, x1_22, x2_23, x3_24⟩ := a
    replace ha : (TS q_21) ∧ (dFk [2] [] q_14 q_21) ∧ (x1_22 = p1) ∧ (x2_23 = r_13) ∧ (0 ≤ Int32.toInt x3_24) ∧ (Int32.toInt x3_24 ≤ 6) ∧ (Int32.toInt (q_21.1 2 29) = Int32.toInt (q_14.1 2 29)) ∧ (Int32.toInt (q_21.1 2 13) = Int32.toInt (q_14.1 2 13)) := ha
    obtain ⟨a_25, a_26, a_27, a_28, a_29, a_30, a_31, a_32⟩ := ha
    show dOk (zX10_turns_30b  (fun q x1 x2 x3 => k_20 (q, x1, x2, x3)) q_21 x1_22 x2_23 x3_24) _
    unfold zX10_turns_30b
    have hFq_21 : dFk [2, 12] [22, 23, 24, 25] q q_21 := hFq_14.t a_26 (by decide) (by decide)
    subst x1_22
    subst x2_23
    have f_33 : 0 ≤ Int32.toInt (q_21.1 2 29) ∧ Int32.toInt (q_21.1 2 29) ≤ 6 := a_25.1 2 29
    have f_34 : 0 ≤ Int32.toInt (q_14.1 2 29) ∧ Int32.toInt (q_14.1 2 29) ≤ 6 := i_16.1 2 29
    have f_35 : 0 ≤ Int32.toInt (q_8.1 2 29) ∧ Int32.toInt (q_8.1 2 29) ≤ 6 := i_10.1 2 29
    have f_36 : 0 ≤ Int32.toInt (q.1 2 29) ∧ Int32.toInt (q.1 2 29) ≤ 6 := hT.1 2 29
    have w_37 : Int32.toInt (q_8.1 2 29) = Int32.toInt (q.1 2 29) := by rw [i_11.1 2 (by decide) (by decide)]
    have w_38 : Int32.toInt (q_14.1 2 29) = Int32.toInt (q_8.1 2 29) := by rw [i_17.1 2 (by decide) (by decide)]
    have f_39 : 0 ≤ Int32.toInt (q_21.1 2 13) ∧ Int32.toInt (q_21.1 2 13) ≤ 999 := a_25.1 2 13
    have f_40 : 0 ≤ Int32.toInt (q_14.1 2 13) ∧ Int32.toInt (q_14.1 2 13) ≤ 999 := i_16.1 2 13
    have f_41 : 0 ≤ Int32.toInt (q_8.1 2 13) ∧ Int32.toInt (q_8.1 2 13) ≤ 999 := i_10.1 2 13
    have f_42 : 0 ≤ Int32.toInt (q.1 2 13) ∧ Int32.toInt (q.1 2 13) ≤ 999 := hT.1 2 13
    have w_43 : Int32.toInt (q_8.1 2 13) = Int32.toInt (q.1 2 13) := by rw [i_11.1 2 (by decide) (by decide)]
    have w_44 : Int32.toInt (q_14.1 2 13) = Int32.toInt (q_8.1 2 13) := by rw [i_17.1 2 (by decide) (by decide)]
    try have t_45 : Int32.toInt (p1 - 1) = Int32.toInt p1 - 1 := ti_sub rfl (by decide) (by omega) (by omega)
    try have t_46 : Int32.toInt (2 * x3_24) = 2 * Int32.toInt x3_24 := ti_mul (by decide) rfl (by omega) (by omega)
    refine dOk_le (A := Int32.toInt (p1 - 1)) (B := Int32.toInt (2 * x3_24)) rfl rfl (fun c_47 => ?_) (fun c_48 => ?_)
    · unfold zX10_turns_57
      refine dFix_ok (fun (a : dS × Int32 × Int32 × Int32) => (TS a.1) ∧ (dFk [2] [] q_21 a.1) ∧ (a.2.1 = p1) ∧ (a.2.2.1 = r_13) ∧ (0 ≤ Int32.toInt a.2.2.2) ∧ (Int32.toInt a.2.2.2 ≤ 6) ∧ (Int32.toInt (a.1.1 2 29) = Int32.toInt (q_21.1 2 29)) ∧ (Int32.toInt (a.1.1 2 13) = Int32.toInt (q_21.1 2 13))) (fun (a : dS × Int32 × Int32 × Int32) => (6 - Int32.toInt a.2.2.2).toNat) ?_ _ ?_ _ (dF_gt ?_)
      · intro a ha k_50 hk_49
        obtain ⟨q_51, x1_52, x2_53, x3_54⟩ := a
        replace ha : (TS q_51) ∧ (dFk [2] [] q_21 q_51) ∧ (x1_52 = p1) ∧ (x2_53 = r_13) ∧ (0 ≤ Int32.toInt x3_54) ∧ (Int32.toInt x3_54 ≤ 6) ∧ (Int32.toInt (q_51.1 2 29) = Int32.toInt (q_21.1 2 29)) ∧ (Int32.toInt (q_51.1 2 13) = Int32.toInt (q_21.1 2 13)) := ha
        obtain ⟨a_55, a_56, a_57, a_58, a_59, a_60, a_61, a_62⟩ := ha
        show dOk (zX10_turns_57b  (fun q x1 x2 x3 => k_50 (q, x1, x2, x3)) q_51 x1_52 x2_53 x3_54) _
        unfold zX10_turns_57b
        have hFq_51 : dFk [2, 12] [22, 23, 24, 25] q q_51 := hFq_21.t a_56 (by decide) (by decide)
        subst x1_52
        subst x2_53
        have f_63 : 0 ≤ Int32.toInt (q_51.1 2 29) ∧ Int32.toInt (q_51.1 2 29) ≤ 6 := a_55.1 2 29
        have f_64 : 0 ≤ Int32.toInt (q_51.1 2 13) ∧ Int32.toInt (q_51.1 2 13) ≤ 999 := a_55.1 2 13
        refine dOk_le (A := Int32.toInt p1) (B := Int32.toInt x3_54) rfl rfl (fun c_65 => ?_) (fun c_66 => ?_)
        · have f_67 : 0 ≤ Int32.toInt (q_51.1 2 12) ∧ Int32.toInt (q_51.1 2 12) ≤ 9999 := a_55.1 2 12
          try have t_68 : Int32.toInt (q_51.1 2 12 + r_13) = Int32.toInt (q_51.1 2 12) + Int32.toInt r_13 := ti_add rfl rfl (by omega) (by omega)
          refine dOk_V (ok_lesser 9999 (q_51.1 2 12 + r_13)) (fun r_69 h_70 => ?_)
          replace h_70 : (Int32.toInt r_69 ≤ (9999 : Int) ∧ Int32.toInt r_69 ≤ Int32.toInt (q_51.1 2 12 + r_13) ∧ (Int32.toInt r_69 = (9999 : Int) ∨ Int32.toInt r_69 = Int32.toInt (q_51.1 2 12 + r_13))) := h_70
          have i_71 := h_70
          refine dOk_L (fun q_72 eq_72 => ?_)
          have hTq_72 : TS q_72 := by rw [eq_72]; exact ts_set2 a_55 (by omega) (show klo (12) ≤ Int32.toInt r_69 by unfold klo; omega) (show Int32.toInt r_69 ≤ khi (12) by unfold khi; omega)
          have hFq_72 : dFk [2, 12] [22, 23, 24, 25] q q_72 := by rw [eq_72]; exact hFq_51.k (by omega) (by decide)
          have f_73 : 0 ≤ Int32.toInt (q_72.1 2 29) ∧ Int32.toInt (q_72.1 2 29) ≤ 6 := hTq_72.1 2 29
          have w_74 : Int32.toInt (q_72.1 2 29) = Int32.toInt (q_51.1 2 29) := by rw [eq_72, dui_n (by decide)]
          have f_75 : 0 ≤ Int32.toInt (q_72.1 2 13) ∧ Int32.toInt (q_72.1 2 13) ≤ 999 := hTq_72.1 2 13
          have w_76 : Int32.toInt (q_72.1 2 13) = Int32.toInt (q_51.1 2 13) := by rw [eq_72, dui_n (by decide)]
          exact dOk_some (show (TS q_72) ∧ (dFk [2, 12] [22, 23, 24, 25] q q_72) ∧ (0 ≤ Int32.toInt r_13 ∧ Int32.toInt r_13 ≤ 99) ∧ (Int32.toInt (q_72.1 2 29) = Int32.toInt (q.1 2 29)) ∧ (Int32.toInt (q_72.1 2 13) = Int32.toInt (q.1 2 13)) from ⟨hTq_72, hFq_72, by omega, by omega, by omega⟩)
        · try have t_77 : Int32.toInt (6 + x3_54) = 6 + Int32.toInt x3_54 := ti_add (by decide) rfl (by omega) (by omega)
          refine dOk_G (dg_ok (show 0 ≤ Int32.toInt (6 + x3_54) by omega) (show Int32.toInt (6 + x3_54) < ((5640 : Nat) : Int) by omega)) ?_
          have n_78 : ((Int32.toNatClampNeg (6 + x3_54) : Nat) : Int) = Int32.toInt (6 + x3_54) := cl_eq (by omega)
          refine dOk_L (fun v_79 ev_79 => ?_)
          try have g_80 : klo (Int32.toNatClampNeg (6 + x3_54)) ≤ Int32.toInt v_79 ∧ Int32.toInt v_79 ≤ khi (Int32.toNatClampNeg (6 + x3_54)) := by rw [ev_79]; exact te_k a_55 _
          try have f_81 : 0 ≤ Int32.toInt v_79 ∧ Int32.toInt v_79 ≤ 5 := by rw [ev_79]; exact te_2r a_55 (by omega) (by omega)
          try have f_82 : 0 ≤ Int32.toInt v_79 ∧ Int32.toInt v_79 ≤ 1 := by rw [ev_79]; exact te_2h a_55 (by omega) (by omega)
          try have f_83 : 0 ≤ Int32.toInt v_79 ∧ Int32.toInt v_79 ≤ 5 := by rw [ev_79]; exact te_2s a_55 (by omega) (by omega)
          try have f_84 : 0 ≤ Int32.toInt v_79 ∧ Int32.toInt v_79 ≤ 400 := by rw [ev_79]; exact te_2z a_55 (by omega) (by omega)
          refine dOk_G (dg_ok (show 0 ≤ Int32.toInt (6 + x3_54) by omega) (show Int32.toInt (6 + x3_54) < ((5640 : Nat) : Int) by omega)) ?_
          refine dOk_L (fun q_85 eq_85 => ?_)
          try have t_86 : Int32.toInt (1 - v_79) = 1 - Int32.toInt v_79 := ti_sub (by decide) rfl (by omega) (by omega)
          have hTq_85 : TS q_85 := by rw [eq_85]; exact ts_set2 a_55 (by omega) (show klo (Int32.toNatClampNeg (6 + x3_54)) ≤ Int32.toInt (1 - v_79) by unfold klo; omega) (show Int32.toInt (1 - v_79) ≤ khi (Int32.toNatClampNeg (6 + x3_54)) by unfold khi; omega)
          have hFq_85 : dFk [2, 12] [22, 23, 24, 25] q q_85 := by rw [eq_85]; exact hFq_51.k (by omega) (by decide)
          try have t_87 : Int32.toInt (x3_54 + 1) = Int32.toInt x3_54 + 1 := ti_add rfl (by decide) (by omega) (by omega)
          have f_88 : 0 ≤ Int32.toInt (q_85.1 2 29) ∧ Int32.toInt (q_85.1 2 29) ≤ 6 := hTq_85.1 2 29
          try have w_89 : Int32.toInt (q_85.1 2 29) = Int32.toInt (q_51.1 2 29) := by rw [eq_85, dui_n (by omega)]
          have f_90 : 0 ≤ Int32.toInt (q_85.1 2 13) ∧ Int32.toInt (q_85.1 2 13) ≤ 999 := hTq_85.1 2 13
          try have w_91 : Int32.toInt (q_85.1 2 13) = Int32.toInt (q_51.1 2 13) := by rw [eq_85, dui_n (by omega)]
          exact hk_49 (q_85, p1, r_13, (x3_54 + 1)) (show (TS q_85) ∧ (dFk [2] [] q_21 q_85) ∧ (p1 = p1) ∧ (r_13 = r_13) ∧ (0 ≤ Int32.toInt (x3_54 + 1)) ∧ (Int32.toInt (x3_54 + 1) ≤ 6) ∧ (Int32.toInt (q_85.1 2 29) = Int32.toInt (q_21.1 2 29)) ∧ (Int32.toInt (q_85.1 2 13) = Int32.toInt (q_21.1 2 13)) from ⟨hTq_85, (by rw [eq_85]; exact (((dFk.rf : dFk [2] [] q_21 q_21).t a_56 (by decide) (by decide)) : dFk [2] [] q_21 q_51).k (by omega) (by decide)), rfl, rfl, by omega, by omega, by omega, by omega⟩) (show (6 - Int32.toInt (x3_54 + 1)).toNat < (6 - Int32.toInt x3_54).toNat by omega)
      · exact (show (TS q_21) ∧ (dFk [2] [] q_21 q_21) ∧ (p1 = p1) ∧ (r_13 = r_13) ∧ (0 ≤ (0 : Int)) ∧ ((0 : Int) ≤ 6) ∧ (Int32.toInt (q_21.1 2 29) = Int32.toInt (q_21.1 2 29)) ∧ (Int32.toInt (q_21.1 2 13) = Int32.toInt (q_21.1 2 13)) from ⟨a_25, dFk.rf, rfl, rfl, by omega, by omega, by omega, by omega⟩)
      · show (6 - (0 : Int)).toNat < 1000000000000
        omega
    · try have t_92 : Int32.toInt (p1 - 1 - x3_24) = Int32.toInt (p1 - 1) - Int32.toInt x3_24 := ti_sub rfl rfl (by omega) (by omega)
      refine dOk_V (ok_exchanges q_21 x3_24 (p1 - 1 - x3_24) a_25 (show 0 ≤ Int32.toInt x3_24 ∧ Int32.toInt x3_24 ≤ 5 by omega) (show 0 ≤ Int32.toInt (p1 - 1 - x3_24) ∧ Int32.toInt (p1 - 1 - x3_24) ≤ 5 by omega)) (fun q_93 h_94 => ?_)
      replace h_94 : (TS q_93) ∧ (dFk [2] [] q_21 q_93) ∧ (Int32.toInt (q_93.1 2 12) = Int32.toInt (q_21.1 2 12)) ∧ (Int32.toInt (q_93.1 2 13) = Int32.toInt (q_21.1 2 13)) ∧ (Int32.toInt (q_93.1 2 29) = Int32.toInt (q_21.1 2 29)) := h_94
      obtain ⟨i_95, i_96, i_97, i_98, i_99⟩ := h_94
      have hFq_93 : dFk [2, 12] [22, 23, 24, 25] q q_93 := hFq_21.t i_96 (by decide) (by decide)
      have f_100 : 0 ≤ Int32.toInt (q_93.1 2 12) ∧ Int32.toInt (q_93.1 2 12) ≤ 9999 := i_95.1 2 12
      have f_101 : 0 ≤ Int32.toInt (q_21.1 2 12) ∧ Int32.toInt (q_21.1 2 12) ≤ 9999 := a_25.1 2 12
      have f_102 : 0 ≤ Int32.toInt (q_93.1 2 13) ∧ Int32.toInt (q_93.1 2 13) ≤ 999 := i_95.1 2 13
      have f_103 : 0 ≤ Int32.toInt (q_93.1 2 29) ∧ Int32.toInt (q_93.1 2 29) ≤ 6 := i_95.1 2 29
      try have t_104 : Int32.toInt (x3_24 + 1) = Int32.toInt x3_24 + 1 := ti_add rfl (by decide) (by omega) (by omega)
      exact hk_19 (q_93, p1, r_13, (x3_24 + 1)) (show (TS q_93) ∧ (dFk [2] [] q_14 q_93) ∧ (p1 = p1) ∧ (r_13 = r_13) ∧ (0 ≤ Int32.toInt (x3_24 + 1)) ∧ (Int32.toInt (x3_24 + 1) ≤ 6) ∧ (Int32.toInt (q_93.1 2 29) = Int32.toInt (q_14.1 2 29)) ∧ (Int32.toInt (q_93.1 2 13) = Int32.toInt (q_14.1 2 13)) from ⟨i_95, ((((dFk.rf : dFk [2] [] q_14 q_14).t a_26 (by decide) (by decide)) : dFk [2] [] q_14 q_21).t i_96 (by decide) (by decide)), rfl, rfl, by omega, by omega, by omega, by omega⟩) (show (6 - Int32.toInt (x3_24 + 1)).toNat < (6 - Int32.toInt x3_24).toNat by omega)
  · have f_105 : 0 ≤ Int32.toInt (q_14.1 2 29) ∧ Int32.toInt (q_14.1 2 29) ≤ 6 := i_16.1 2 29
    have f_106 : 0 ≤ Int32.toInt (q_8.1 2 29) ∧ Int32.toInt (q_8.1 2 29) ≤ 6 := i_10.1 2 29
    have f_107 : 0 ≤ Int32.toInt (q.1 2 29) ∧ Int32.toInt (q.1 2 29) ≤ 6 := hT.1 2 29
    have w_108 : Int32.toInt (q_8.1 2 29) = Int32.toInt (q.1 2 29) := by rw [i_11.1 2 (by decide) (by decide)]
    have w_109 : Int32.toInt (q_14.1 2 29) = Int32.toInt (q_8.1 2 29) := by rw [i_17.1 2 (by decide) (by decide)]
    have f_110 : 0 ≤ Int32.toInt (q_14.1 2 13) ∧ Int32.toInt (q_14.1 2 13) ≤ 999 := i_16.1 2 13
    have f_111 : 0 ≤ Int32.toInt (q_8.1 2 13) ∧ Int32.toInt (q_8.1 2 13) ≤ 999 := i_10.1 2 13
    have f_112 : 0 ≤ Int32.toInt (q.1 2 13) ∧ Int32.toInt (q.1 2 13) ≤ 999 := hT.1 2 13
    have w_113 : Int32.toInt (q_8.1 2 13) = Int32.toInt (q.1 2 13) := by rw [i_11.1 2 (by decide) (by decide)]
    have w_114 : Int32.toInt (q_14.1 2 13) = Int32.toInt (q_8.1 2 13) := by rw [i_17.1 2 (by decide) (by decide)]
    exact (show (TS q_14) ∧ (dFk [2] [] q_14 q_14) ∧ (p1 = p1) ∧ (r_13 = r_13) ∧ (0 ≤ (0 : Int)) ∧ ((0 : Int) ≤ 6) ∧ (Int32.toInt (q_14.1 2 29) = Int32.toInt (q_14.1 2 29)) ∧ (Int32.toInt (q_14.1 2 13) = Int32.toInt (q_14.1 2 13)) from ⟨i_16, dFk.rf, rfl, rfl, by omega, by omega, by omega, by omega⟩)
  · show (6 - (0 : Int)).toNat < 1000000000000
    omega

set_option maxHeartbeats 4000000 in
set_option maxRecDepth 100000 in
theorem ok_yearPasses (q : dS) (hT : TS q) (hp0 : Int32.toInt (q.1 2 13) < 999) : dOk (zX10_yearPasses q) (fun (o : Int32 × dS) => (TS o.2) ∧ (dFk [2, 12, 13] [22, 23, 24, 25] q o.2) ∧ (0 ≤ Int32.toInt o.1) ∧ (Int32.toInt (o.2.1 2 29) = Int32.toInt (q.1 2 29))) := by
  unfold zX10_yearPasses
  unfold zX10_yearPasses_4
  refine dFix_ok (fun (a : dS × Int32 × Int32) => (TS a.1) ∧ (dFk [12, 13] [22, 23, 24, 25] q a.1) ∧ (a.2.1 = 0) ∧ (0 ≤ Int32.toInt a.2.2) ∧ (Int32.toInt a.2.2 ≤ 6)) (fun (a : dS × Int32 × Int32) => (6 - Int32.toInt a.2.2).toNat) ?_ _ ?_ _ (dF_gt ?_)
  · intro a ha k_2 hk_1
    obtain ⟨q_3, x1_4, x2_5⟩ := a
    replace ha : (TS q_3) ∧ (dFk [12, 13] [22, 23, 24, 25] q q_3) ∧ (x1_4 = 0) ∧ (0 ≤ Int32.toInt x2_5) ∧ (Int32.toInt x2_5 ≤ 6) := ha
    obtain ⟨a_6, a_7, a_8, a_9, a_10⟩ := ha
    show dOk (zX10_yearPasses_4b  (fun q x1 x2 => k_2 (q, x1, x2)) q_3 x1_4 x2_5) _
    unfold zX10_yearPasses_4b
    have hFq_3 : dFk [2, 12, 13] [22, 23, 24, 25] q q_3 := (dFk.rf (q := q)).t a_7 (by decide) (by decide)
    subst x1_4
    refine dOk_B (ok_size q_3 a_6) (fun r_11 q_12 h_13 => ?_)
    replace h_13 : (q_12 = q_3) ∧ (Int32.toInt r_11 = Int32.toInt (q_3.1 2 29)) ∧ (0 ≤ Int32.toInt r_11 ∧ Int32.toInt r_11 ≤ 6) := h_13
    obtain ⟨i_14, i_15, i_16⟩ := h_13
    subst q_12
    have f_17 : 0 ≤ Int32.toInt (q_3.1 2 29) ∧ Int32.toInt (q_3.1 2 29) ≤ 6 := a_6.1 2 29
    have f_18 : 0 ≤ Int32.toInt (q.1 2 29) ∧ Int32.toInt (q.1 2 29) ≤ 6 := hT.1 2 29
    have w_19 : Int32.toInt (q_3.1 2 29) = Int32.toInt (q.1 2 29) := by rw [a_7.1.1 2 (by decide) (by decide)]
    refine dOk_le (A := Int32.toInt r_11) (B := Int32.toInt x2_5) rfl rfl (fun c_20 => ?_) (fun c_21 => ?_)
    · unfold zX10_yearPasses_31
      refine dFix_ok (fun (a : dS × Int32 × Int32) => (TS a.1) ∧ (dFk [2] [] q_3 a.1) ∧ (0 ≤ Int32.toInt a.2.2) ∧ (Int32.toInt a.2.2 ≤ 6) ∧ (Int32.toInt (a.1.1 2 29) = Int32.toInt (q_3.1 2 29)) ∧ (Int32.toInt (a.1.1 2 13) = Int32.toInt (q_3.1 2 13)) ∧ (0 ≤ Int32.toInt a.2.1) ∧ (Int32.toInt a.2.1 ≤ Int32.toInt a.2.2)) (fun (a : dS × Int32 × Int32) => (6 - Int32.toInt a.2.2).toNat) ?_ _ ?_ _ (dF_gt ?_)
      · intro a ha k_23 hk_22
        obtain ⟨q_24, x1_25, x2_26⟩ := a
        replace ha : (TS q_24) ∧ (dFk [2] [] q_3 q_24) ∧ (0 ≤ Int32.toInt x2_26) ∧ (Int32.toInt x2_26 ≤ 6) ∧ (Int32.toInt (q_24.1 2 29) = Int32.toInt (q_3.1 2 29)) ∧ (Int32.toInt (q_24.1 2 13) = Int32.toInt (q_3.1 2 13)) ∧ (0 ≤ Int32.toInt x1_25) ∧ (Int32.toInt x1_25 ≤ Int32.toInt x2_26) := ha
        obtain ⟨a_27, a_28, a_29, a_30, a_31, a_32, a_33, a_34⟩ := ha
        show dOk (zX10_yearPasses_31b  (fun q x1 x2 => k_23 (q, x1, x2)) q_24 x1_25 x2_26) _
        unfold zX10_yearPasses_31b
        have hFq_24 : dFk [2, 12, 13] [22, 23, 24, 25] q q_24 := hFq_3.t a_28 (by decide) (by decide)
        have f_35 : 0 ≤ Int32.toInt (q_24.1 2 29) ∧ Int32.toInt (q_24.1 2 29) ≤ 6 := a_27.1 2 29
        have f_36 : 0 ≤ Int32.toInt (q_24.1 2 13) ∧ Int32.toInt (q_24.1 2 13) ≤ 999 := a_27.1 2 13
        have f_37 : 0 ≤ Int32.toInt (q_3.1 2 13) ∧ Int32.toInt (q_3.1 2 13) ≤ 999 := a_6.1 2 13
        have f_38 : 0 ≤ Int32.toInt (q.1 2 13) ∧ Int32.toInt (q.1 2 13) ≤ 999 := hT.1 2 13
        have w_39 : Int32.toInt (q_3.1 2 13) = Int32.toInt (q.1 2 13) := by rw [a_7.1.1 2 (by decide) (by decide)]
        refine dOk_B (ok_size q_24 a_27) (fun r_40 q_41 h_42 => ?_)
        replace h_42 : (q_41 = q_24) ∧ (Int32.toInt r_40 = Int32.toInt (q_24.1 2 29)) ∧ (0 ≤ Int32.toInt r_40 ∧ Int32.toInt r_40 ≤ 6) := h_42
        obtain ⟨i_43, i_44, i_45⟩ := h_42
        subst q_41
        refine dOk_le (A := Int32.toInt r_40) (B := Int32.toInt x2_26) rfl rfl (fun c_46 => ?_) (fun c_47 => ?_)
        · refine dOk_L (fun q_48 eq_48 => ?_)
          try have t_49 : Int32.toInt (q_24.1 2 13 + 1) = Int32.toInt (q_24.1 2 13) + 1 := ti_add rfl (by decide) (by omega) (by omega)
          have hTq_48 : TS q_48 := by rw [eq_48]; exact ts_set2 a_27 (by omega) (show klo (13) ≤ Int32.toInt (q_24.1 2 13 + 1) by unfold klo; omega) (show Int32.toInt (q_24.1 2 13 + 1) ≤ khi (13) by unfold khi; omega)
          have hFq_48 : dFk [2, 12, 13] [22, 23, 24, 25] q q_48 := by rw [eq_48]; exact hFq_24.k (by omega) (by decide)
          have f_50 : 0 ≤ Int32.toInt (q_48.1 2 29) ∧ Int32.toInt (q_48.1 2 29) ≤ 6 := hTq_48.1 2 29
          have w_51 : Int32.toInt (q_48.1 2 29) = Int32.toInt (q_24.1 2 29) := by rw [eq_48, dui_n (by decide)]
          exact dOk_some (show (TS q_48) ∧ (dFk [2, 12, 13] [22, 23, 24, 25] q q_48) ∧ (0 ≤ Int32.toInt x1_25) ∧ (Int32.toInt (q_48.1 2 29) = Int32.toInt (q.1 2 29)) from ⟨hTq_48, hFq_48, by omega, by omega⟩)
        · refine dOk_G (dg_ok (show 0 ≤ Int32.toInt x2_26 by omega) (show Int32.toInt x2_26 < ((6 : Nat) : Int) by omega)) ?_
          have n_52 : ((Int32.toNatClampNeg x2_26 : Nat) : Int) = Int32.toInt x2_26 := cl_eq (by omega)
          refine dOk_L (fun v_53 ev_53 => ?_)
          refine dOk_eq (A := Int32.toInt v_53) (B := 0) rfl (by decide) (fun c_54z c_54 => ?_) (fun c_55z c_55 => ?_)
          · try have t_57 : Int32.toInt (6 + x2_26) = 6 + Int32.toInt x2_26 := ti_add (by decide) rfl (by omega) (by omega)
            refine dOk_G (dg_ok (show 0 ≤ Int32.toInt (6 + x2_26) by omega) (show Int32.toInt (6 + x2_26) < ((5640 : Nat) : Int) by omega)) ?_
            have n_58 : ((Int32.toNatClampNeg (6 + x2_26) : Nat) : Int) = Int32.toInt (6 + x2_26) := cl_eq (by omega)
            refine dOk_L (fun v_59 ev_59 => ?_)
            try have g_60 : klo (Int32.toNatClampNeg (6 + x2_26)) ≤ Int32.toInt v_59 ∧ Int32.toInt v_59 ≤ khi (Int32.toNatClampNeg (6 + x2_26)) := by rw [ev_59]; exact te_k a_27 _
            try have f_61 : 0 ≤ Int32.toInt v_59 ∧ Int32.toInt v_59 ≤ 5 := by rw [ev_59]; exact te_2r a_27 (by omega) (by omega)
            try have f_62 : 0 ≤ Int32.toInt v_59 ∧ Int32.toInt v_59 ≤ 1 := by rw [ev_59]; exact te_2h a_27 (by omega) (by omega)
            try have f_63 : 0 ≤ Int32.toInt v_59 ∧ Int32.toInt v_59 ≤ 5 := by rw [ev_59]; exact te_2s a_27 (by omega) (by omega)
            try have f_64 : 0 ≤ Int32.toInt v_59 ∧ Int32.toInt v_59 ≤ 400 := by rw [ev_59]; exact te_2z a_27 (by omega) (by omega)
            unfold zX10_yearPasses_79
            refine dOk_G (dg_ok (show 0 ≤ Int32.toInt (6 + x2_26) by omega) (show Int32.toInt (6 + x2_26) < ((5640 : Nat) : Int) by omega)) ?_
            refine dOk_L (fun q_65 eq_65 => ?_)
            have hTq_65 : TS q_65 := by rw [eq_65]; first | exact ts_2c a_27 (by omega) (show Int32.toNatClampNeg (6 + x2_26) = Int32.toNatClampNeg (6 + x2_26) by omega) g_60 | exact ts_set2 a_27 (by omega) (show klo (Int32.toNatClampNeg (6 + x2_26)) ≤ Int32.toInt v_59 by unfold klo; omega) (show Int32.toInt v_59 ≤ khi (Int32.toNatClampNeg (6 + x2_26)) by unfold khi; omega)
            have hFq_65 : dFk [2, 12, 13] [22, 23, 24, 25] q q_65 := by rw [eq_65]; exact hFq_24.k (by omega) (by decide)
            refine dOk_G (dg_ok (show 0 ≤ Int32.toInt x2_26 by omega) (show Int32.toInt x2_26 < ((6 : Nat) : Int) by omega)) ?_
            refine dOk_L (fun v_66 ev_66 => ?_)
            refine dOk_eq (A := Int32.toInt v_66) (B := 0) rfl (by decide) (fun c_67z c_67 => ?_) (fun c_68z c_68 => ?_)
            · unfold zX10_yearPasses_95
              try have t_70 : Int32.toInt (x1_25 + 0) = Int32.toInt x1_25 + 0 := ti_add rfl (by decide) (by omega) (by omega)
              try have t_71 : Int32.toInt (x2_26 + 1) = Int32.toInt x2_26 + 1 := ti_add rfl (by decide) (by omega) (by omega)
              have f_72 : 0 ≤ Int32.toInt (q_65.1 2 29) ∧ Int32.toInt (q_65.1 2 29) ≤ 6 := hTq_65.1 2 29
              try have w_73 : Int32.toInt (q_65.1 2 29) = Int32.toInt (q_24.1 2 29) := by rw [eq_65, dui_n (by omega)]
              have f_74 : 0 ≤ Int32.toInt (q_65.1 2 13) ∧ Int32.toInt (q_65.1 2 13) ≤ 999 := hTq_65.1 2 13
              try have w_75 : Int32.toInt (q_65.1 2 13) = Int32.toInt (q_24.1 2 13) := by rw [eq_65, dui_n (by omega)]
              exact hk_22 (q_65, (x1_25 + 0), (x2_26 + 1)) (show (TS q_65) ∧ (dFk [2] [] q_3 q_65) ∧ (0 ≤ Int32.toInt (x2_26 + 1)) ∧ (Int32.toInt (x2_26 + 1) ≤ 6) ∧ (Int32.toInt (q_65.1 2 29) = Int32.toInt (q_3.1 2 29)) ∧ (Int32.toInt (q_65.1 2 13) = Int32.toInt (q_3.1 2 13)) ∧ (0 ≤ Int32.toInt (x1_25 + 0)) ∧ (Int32.toInt (x1_25 + 0) ≤ Int32.toInt (x2_26 + 1)) from ⟨hTq_65, (by rw [eq_65]; exact (((dFk.rf : dFk [2] [] q_3 q_3).t a_28 (by decide) (by decide)) : dFk [2] [] q_3 q_24).k (by omega) (by decide)), by omega, by omega, by omega, by omega, by omega, by omega⟩) (show (6 - Int32.toInt (x2_26 + 1)).toNat < (6 - Int32.toInt x2_26).toNat by omega)
            · unfold zX10_yearPasses_95
              try have t_76 : Int32.toInt (x1_25 + 1) = Int32.toInt x1_25 + 1 := ti_add rfl (by decide) (by omega) (by omega)
              try have t_77 : Int32.toInt (x2_26 + 1) = Int32.toInt x2_26 + 1 := ti_add rfl (by decide) (by omega) (by omega)
              have f_78 : 0 ≤ Int32.toInt (q_65.1 2 29) ∧ Int32.toInt (q_65.1 2 29) ≤ 6 := hTq_65.1 2 29
              try have w_79 : Int32.toInt (q_65.1 2 29) = Int32.toInt (q_24.1 2 29) := by rw [eq_65, dui_n (by omega)]
              have f_80 : 0 ≤ Int32.toInt (q_65.1 2 13) ∧ Int32.toInt (q_65.1 2 13) ≤ 999 := hTq_65.1 2 13
              try have w_81 : Int32.toInt (q_65.1 2 13) = Int32.toInt (q_24.1 2 13) := by rw [eq_65, dui_n (by omega)]
              exact hk_22 (q_65, (x1_25 + 1), (x2_26 + 1)) (show (TS q_65) ∧ (dFk [2] [] q_3 q_65) ∧ (0 ≤ Int32.toInt (x2_26 + 1)) ∧ (Int32.toInt (x2_26 + 1) ≤ 6) ∧ (Int32.toInt (q_65.1 2 29) = Int32.toInt (q_3.1 2 29)) ∧ (Int32.toInt (q_65.1 2 13) = Int32.toInt (q_3.1 2 13)) ∧ (0 ≤ Int32.toInt (x1_25 + 1)) ∧ (Int32.toInt (x1_25 + 1) ≤ Int32.toInt (x2_26 + 1)) from ⟨hTq_65, (by rw [eq_65]; exact (((dFk.rf : dFk [2] [] q_3 q_3).t a_28 (by decide) (by decide)) : dFk [2] [] q_3 q_24).k (by omega) (by decide)), by omega, by omega, by omega, by omega, by omega, by omega⟩) (show (6 - Int32.toInt (x2_26 + 1)).toNat < (6 - Int32.toInt x2_26).toNat by omega)
          · try have t_82 : Int32.toInt (6 + x2_26) = 6 + Int32.toInt x2_26 := ti_add (by decide) rfl (by omega) (by omega)
            refine dOk_G (dg_ok (show 0 ≤ Int32.toInt (6 + x2_26) by omega) (show Int32.toInt (6 + x2_26) < ((5640 : Nat) : Int) by omega)) ?_
            have n_83 : ((Int32.toNatClampNeg (6 + x2_26) : Nat) : Int) = Int32.toInt (6 + x2_26) := cl_eq (by omega)
            refine dOk_L (fun v_84 ev_84 => ?_)
            try have g_85 : klo (Int32.toNatClampNeg (6 + x2_26)) ≤ Int32.toInt v_84 ∧ Int32.toInt v_84 ≤ khi (Int32.toNatClampNeg (6 + x2_26)) := by rw [ev_84]; exact te_k a_27 _
            try have f_86 : 0 ≤ Int32.toInt v_84 ∧ Int32.toInt v_84 ≤ 5 := by rw [ev_84]; exact te_2r a_27 (by omega) (by omega)
            try have f_87 : 0 ≤ Int32.toInt v_84 ∧ Int32.toInt v_84 ≤ 1 := by rw [ev_84]; exact te_2h a_27 (by omega) (by omega)
            try have f_88 : 0 ≤ Int32.toInt v_84 ∧ Int32.toInt v_84 ≤ 5 := by rw [ev_84]; exact te_2s a_27 (by omega) (by omega)
            try have f_89 : 0 ≤ Int32.toInt v_84 ∧ Int32.toInt v_84 ≤ 400 := by rw [ev_84]; exact te_2z a_27 (by omega) (by omega)
            unfold zX10_yearPasses_79
            refine dOk_G (dg_ok (show 0 ≤ Int32.toInt (6 + x2_26) by omega) (show Int32.toInt (6 + x2_26) < ((5640 : Nat) : Int) by omega)) ?_
            refine dOk_L (fun q_90 eq_90 => ?_)
            try have t_91 : Int32.toInt (1 - v_84) = 1 - Int32.toInt v_84 := ti_sub (by decide) rfl (by omega) (by omega)
            have hTq_90 : TS q_90 := by rw [eq_90]; exact ts_set2 a_27 (by omega) (show klo (Int32.toNatClampNeg (6 + x2_26)) ≤ Int32.toInt (1 - v_84) by unfold klo; omega) (show Int32.toInt (1 - v_84) ≤ khi (Int32.toNatClampNeg (6 + x2_26)) by unfold khi; omega)
            have hFq_90 : dFk [2, 12, 13] [22, 23, 24, 25] q q_90 := by rw [eq_90]; exact hFq_24.k (by omega) (by decide)
            refine dOk_G (dg_ok (show 0 ≤ Int32.toInt x2_26 by omega) (show Int32.toInt x2_26 < ((6 : Nat) : Int) by omega)) ?_
            refine dOk_L (fun v_92 ev_92 => ?_)
            refine dOk_eq (A := Int32.toInt v_92) (B := 0) rfl (by decide) (fun c_93z c_93 => ?_) (fun c_94z c_94 => ?_)
            · unfold zX10_yearPasses_95
              try have t_96 : Int32.toInt (x1_25 + 0) = Int32.toInt x1_25 + 0 := ti_add rfl (by decide) (by omega) (by omega)
              try have t_97 : Int32.toInt (x2_26 + 1) = Int32.toInt x2_26 + 1 := ti_add rfl (by decide) (by omega) (by omega)
              have f_98 : 0 ≤ Int32.toInt (q_90.1 2 29) ∧ Int32.toInt (q_90.1 2 29) ≤ 6 := hTq_90.1 2 29
              try have w_99 : Int32.toInt (q_90.1 2 29) = Int32.toInt (q_24.1 2 29) := by rw [eq_90, dui_n (by omega)]
              have f_100 : 0 ≤ Int32.toInt (q_90.1 2 13) ∧ Int32.toInt (q_90.1 2 13) ≤ 999 := hTq_90.1 2 13
              try have w_101 : Int32.toInt (q_90.1 2 13) = Int32.toInt (q_24.1 2 13) := by rw [eq_90, dui_n (by omega)]
              exact hk_22 (q_90, (x1_25 + 0), (x2_26 + 1)) (show (TS q_90) ∧ (dFk [2] [] q_3 q_90) ∧ (0 ≤ Int32.toInt (x2_26 + 1)) ∧ (Int32.toInt (x2_26 + 1) ≤ 6) ∧ (Int32.toInt (q_90.1 2 29) = Int32.toInt (q_3.1 2 29)) ∧ (Int32.toInt (q_90.1 2 13) = Int32.toInt (q_3.1 2 13)) ∧ (0 ≤ Int32.toInt (x1_25 + 0)) ∧ (Int32.toInt (x1_25 + 0) ≤ Int32.toInt (x2_26 + 1)) from ⟨hTq_90, (by rw [eq_90]; exact (((dFk.rf : dFk [2] [] q_3 q_3).t a_28 (by decide) (by decide)) : dFk [2] [] q_3 q_24).k (by omega) (by decide)), by omega, by omega, by omega, by omega, by omega, by omega⟩) (show (6 - Int32.toInt (x2_26 + 1)).toNat < (6 - Int32.toInt x2_26).toNat by omega)
            · unfold zX10_yearPasses_95
              try have t_102 : Int32.toInt (x1_25 + 1) = Int32.toInt x1_25 + 1 := ti_add rfl (by decide) (by omega) (by omega)
              try have t_103 : Int32.toInt (x2_26 + 1) = Int32.toInt x2_26 + 1 := ti_add rfl (by decide) (by omega) (by omega)
              have f_104 : 0 ≤ Int32.toInt (q_90.1 2 29) ∧ Int32.toInt (q_90.1 2 29) ≤ 6 := hTq_90.1 2 29
              try have w_105 : Int32.toInt (q_90.1 2 29) = Int32.toInt (q_24.1 2 29) := by rw [eq_90, dui_n (by omega)]
              have f_106 : 0 ≤ Int32.toInt (q_90.1 2 13) ∧ Int32.toInt (q_90.1 2 13) ≤ 999 := hTq_90.1 2 13
              try have w_107 : Int32.toInt (q_90.1 2 13) = Int32.toInt (q_24.1 2 13) := by rw [eq_90, dui_n (by omega)]
              exact hk_22 (q_90, (x1_25 + 1), (x2_26 + 1)) (show (TS q_90) ∧ (dFk [2] [] q_3 q_90) ∧ (0 ≤ Int32.toInt (x2_26 + 1)) ∧ (Int32.toInt (x2_26 + 1) ≤ 6) ∧ (Int32.toInt (q_90.1 2 29) = Int32.toInt (q_3.1 2 29)) ∧ (Int32.toInt (q_90.1 2 13) = Int32.toInt (q_3.1 2 13)) ∧ (0 ≤ Int32.toInt (x1_25 + 1)) ∧ (Int32.toInt (x1_25 + 1) ≤ Int32.toInt (x2_26 + 1)) from ⟨hTq_90, (by rw [eq_90]; exact (((dFk.rf : dFk [2] [] q_3 q_3).t a_28 (by decide) (by decide)) : dFk [2] [] q_3 q_24).k (by omega) (by decide)), by omega, by omega, by omega, by omega, by omega, by omega⟩) (show (6 - Int32.toInt (x2_26 + 1)).toNat < (6 - Int32.toInt x2_26).toNat by omega)
      · have f_108 : 0 ≤ Int32.toInt (q_3.1 2 13) ∧ Int32.toInt (q_3.1 2 13) ≤ 999 := a_6.1 2 13
        have f_109 : 0 ≤ Int32.toInt (q.1 2 13) ∧ Int32.toInt (q.1 2 13) ≤ 999 := hT.1 2 13
        have w_110 : Int32.toInt (q_3.1 2 13) = Int32.toInt (q.1 2 13) := by rw [a_7.1.1 2 (by decide) (by decide)]
        exact (show (TS q_3) ∧ (dFk [2] [] q_3 q_3) ∧ (0 ≤ (0 : Int)) ∧ ((0 : Int) ≤ 6) ∧ (Int32.toInt (q_3.1 2 29) = Int32.toInt (q_3.1 2 29)) ∧ (Int32.toInt (q_3.1 2 13) = Int32.toInt (q_3.1 2 13)) ∧ (0 ≤ (0 : Int)) ∧ ((0 : Int) ≤ (0 : Int)) from ⟨a_6, dFk.rf, by omega, by omega, by omega, by omega, by omega, by omega⟩)
      · show (6 - (0 : Int)).toNat < 1000000000000
        omega
    · refine dOk_B (ok_tipsAt q_3 x2_5 a_6 (show 0 ≤ Int32.toInt x2_5 by omega) (show Int32.toInt x2_5 < 6 by omega)) (fun r_111 q_112 h_113 => ?_)
      replace h_113 : (TS q_112) ∧ (dFr [12] [22, 23, 24, 25] q_3 q_112) ∧ ((Int32.toInt r_111 = 0 ∨ Int32.toInt r_111 = 1)) := h_113
      obtain ⟨i_114, i_115, i_116⟩ := h_113
      have hFq_112 : dFk [2, 12, 13] [22, 23, 24, 25] q q_112 := hFq_3.tr i_115 (by decide) (by decide) (by decide)
      refine dOk_G (dg_ok (show 0 ≤ Int32.toInt x2_5 by omega) (show Int32.toInt x2_5 < ((6 : Nat) : Int) by omega)) ?_
      have n_117 : ((Int32.toNatClampNeg x2_5 : Nat) : Int) = Int32.toInt x2_5 := cl_eq (by omega)
      refine dOk_L (fun q_118 eq_118 => ?_)
      have hTq_118 : TS q_118 := by rw [eq_118]; exact ts_any i_114 rfl
      have hFq_118 : dFk [2, 12, 13] [22, 23, 24, 25] q q_118 := by rw [eq_118]; exact hFq_112.i (by decide) (by decide) (by decide)
      try have t_119 : Int32.toInt (x2_5 + 1) = Int32.toInt x2_5 + 1 := ti_add rfl (by decide) (by omega) (by omega)
      exact hk_1 (q_118, 0, (x2_5 + 1)) (show (TS q_118) ∧ (dFk [12, 13] [22, 23, 24, 25] q q_118) ∧ (0 = 0) ∧ (0 ≤ Int32.toInt (x2_5 + 1)) ∧ (Int32.toInt (x2_5 + 1) ≤ 6) from ⟨hTq_118, (by rw [eq_118]; exact (((((dFk.rf : dFk [12, 13] [22, 23, 24, 25] q q).t a_7 (by decide) (by decide)) : dFk [12, 13] [22, 23, 24, 25] q q_3).tr i_115 (by decide) (by decide) (by decide)) : dFk [12, 13] [22, 23, 24, 25] q q_112).i (by decide) (by decide) (by decide)), rfl, by omega, by omega⟩) (show (6 - Int32.toInt (x2_5 + 1)).toNat < (6 - Int32.toInt x2_5).toNat by omega)
  · exact (show (TS q) ∧ (dFk [12, 13] [22, 23, 24, 25] q q) ∧ (0 = 0) ∧ (0 ≤ (0 : Int)) ∧ ((0 : Int) ≤ 6) from ⟨hT, dFk.rf, rfl, by omega, by omega⟩)
  · show (6 - (0 : Int)).toNat < 1000000000000
    omega
