set_option maxHeartbeats 4000000 in
set_option maxRecDepth 100000 in
theorem ok_paysNow (q : dS) (hT : TS q) : dOk (zX10_paysNow q) (fun (o : Int32 × dS) => (TS o.2) ∧ (dFr [] [22, 23, 24, 25] q o.2) ∧ ((0 ≤ Int32.toInt (q.1 12 0) ∧ Int32.toInt (q.1 12 0) ≤ 99) → 0 ≤ Int32.toInt o.1 ∧ Int32.toInt o.1 ≤ 99)) := by
  unfold zX10_paysNow
  refine dOk_B (ok_tells q 1 (q.1 12 0) hT) (fun r_1 q_2 h_3 => ?_)
  replace h_3 : (TS q_2) ∧ (dFr [] [22, 23, 24, 25] q q_2) ∧ ((0 ≤ Int32.toInt (q.1 12 0) ∧ Int32.toInt (q.1 12 0) ≤ 99) → 0 ≤ Int32.toInt r_1 ∧ Int32.toInt r_1 ≤ 99) := h_3
  obtain ⟨i_4, i_5, i_6⟩ := h_3
  have hFq_2 : dFr [] [22, 23, 24, 25] q q_2 := (dFr.rf (q := q)).t i_5 (by decide) (by decide)
  exact dOk_some (show (TS q_2) ∧ (dFr [] [22, 23, 24, 25] q q_2) ∧ ((0 ≤ Int32.toInt (q.1 12 0) ∧ Int32.toInt (q.1 12 0) ≤ 99) → 0 ≤ Int32.toInt r_1 ∧ Int32.toInt r_1 ≤ 99) from ⟨i_4, hFq_2, by omega⟩)

set_option maxHeartbeats 4000000 in
set_option maxRecDepth 100000 in
theorem ok_isNow (q : dS) (p1 : Int32) (hT : TS q) : dOk (zX10_isNow q p1) (fun (o : Int32 × dS) => (TS o.2) ∧ (dFr [] [22, 23, 24, 25] q o.2) ∧ ((Int32.toInt o.1 = 0 ∨ Int32.toInt o.1 = 1))) := by
  unfold zX10_isNow
  refine dOk_B (ok_tells q p1 0 hT) (fun r_1 q_2 h_3 => ?_)
  replace h_3 : (TS q_2) ∧ (dFr [] [22, 23, 24, 25] q q_2) ∧ ((0 ≤ (0 : Int) ∧ (0 : Int) ≤ 99) → 0 ≤ Int32.toInt r_1 ∧ Int32.toInt r_1 ≤ 99) := h_3
  obtain ⟨i_4, i_5, i_6⟩ := h_3
  have hFq_2 : dFr [] [22, 23, 24, 25] q q_2 := (dFr.rf (q := q)).t i_5 (by decide) (by decide)
  refine dOk_eq (A := Int32.toInt r_1) (B := 1) rfl (by decide) (fun c_7z c_7 => ?_) (fun c_8z c_8 => ?_)
  · unfold zX10_isNow_15
    refine dOk_G (dbl_ok (show (1 : Int) = 0 ∨ (1 : Int) = 1 by omega)) ?_
    exact dOk_some (show (TS q_2) ∧ (dFr [] [22, 23, 24, 25] q q_2) ∧ (((1 : Int) = 0 ∨ (1 : Int) = 1)) from ⟨i_4, hFq_2, by omega⟩)
  · unfold zX10_isNow_15
    refine dOk_G (dbl_ok (show (0 : Int) = 0 ∨ (0 : Int) = 1 by omega)) ?_
    exact dOk_some (show (TS q_2) ∧ (dFr [] [22, 23, 24, 25] q q_2) ∧ (((0 : Int) = 0 ∨ (0 : Int) = 1)) from ⟨i_4, hFq_2, by omega⟩)

set_option maxHeartbeats 4000000 in
set_option maxRecDepth 100000 in
theorem ok_tipsAt (q : dS) (p1 : Int32) (hT : TS q) (hp0 : 0 ≤ Int32.toInt p1) (hp1 : Int32.toInt p1 < 6) : dOk (zX10_tipsAt q p1) (fun (o : Int32 × dS) => (TS o.2) ∧ (dFr [12] [22, 23, 24, 25] q o.2) ∧ ((Int32.toInt o.1 = 0 ∨ Int32.toInt o.1 = 1))) := by
  unfold zX10_tipsAt
  refine dOk_V (ok_setsFloor q p1 hT (show 0 ≤ Int32.toInt p1 by omega) (show Int32.toInt p1 < 6 by omega)) (fun q_1 h_2 => ?_)
  replace h_2 : (TS q_1) ∧ (dFr [12] [] q q_1) := h_2
  obtain ⟨i_3, i_4⟩ := h_2
  have hFq_1 : dFr [12] [22, 23, 24, 25] q q_1 := (dFr.rf (q := q)).t i_4 (by decide) (by decide)
  refine dOk_B (ok_isNow q_1 3 i_3) (fun r_5 q_6 h_7 => ?_)
  replace h_7 : (TS q_6) ∧ (dFr [] [22, 23, 24, 25] q_1 q_6) ∧ ((Int32.toInt r_5 = 0 ∨ Int32.toInt r_5 = 1)) := h_7
  obtain ⟨i_8, i_9, i_10⟩ := h_7
  have hFq_6 : dFr [12] [22, 23, 24, 25] q q_6 := hFq_1.t i_9 (by decide) (by decide)
  refine dOk_G (dbl_ok (show Int32.toInt r_5 = 0 ∨ Int32.toInt r_5 = 1 by omega)) ?_
  exact dOk_some (show (TS q_6) ∧ (dFr [12] [22, 23, 24, 25] q q_6) ∧ ((Int32.toInt r_5 = 0 ∨ Int32.toInt r_5 = 1)) from ⟨i_8, hFq_6, by omega⟩)

set_option maxHeartbeats 4000000 in
set_option maxRecDepth 100000 in
theorem ok_canTurn (q : dS) (p1 : Int32) (hT : TS q) (hp0 : 1 ≤ Int32.toInt p1) : dOk (zX10_canTurn q p1) (fun (o : Int32 × dS) => (TS o.2) ∧ (dFr [12] [22, 23, 24, 25] q o.2) ∧ ((Int32.toInt o.1 = 1 ∧ Int32.toInt p1 ≤ Int32.toInt (q.1 2 29)) ∨ Int32.toInt o.1 = 0)) := by
  unfold zX10_canTurn
  refine dOk_B (ok_size q hT) (fun r_1 q_2 h_3 => ?_)
  replace h_3 : (q_2 = q) ∧ (Int32.toInt r_1 = Int32.toInt (q.1 2 29)) ∧ (0 ≤ Int32.toInt r_1 ∧ Int32.toInt r_1 ≤ 6) := h_3
  obtain ⟨i_4, i_5, i_6⟩ := h_3
  subst q_2
  have f_7 : 0 ≤ Int32.toInt (q.1 2 29) ∧ Int32.toInt (q.1 2 29) ≤ 6 := hT.1 2 29
  refine dOk_le (A := Int32.toInt p1) (B := Int32.toInt r_1) rfl rfl (fun c_8 => ?_) (fun c_9 => ?_)
  · refine dOk_B (ok_rankBelow q p1 hT (show 0 ≤ Int32.toInt p1 by omega)) (fun r_10 q_11 h_12 => ?_)
    replace h_12 : (q_11 = q) ∧ (-1 ≤ Int32.toInt r_10 ∧ Int32.toInt r_10 ≤ 5) := h_12
    obtain ⟨i_13, i_14⟩ := h_12
    subst q_11
    have f_15 : 0 ≤ Int32.toInt (q.1 2 0) ∧ Int32.toInt (q.1 2 0) ≤ 5 := hT.1 2 0
    have f_16 : 0 ≤ Int32.toInt (q.1 2 6) ∧ Int32.toInt (q.1 2 6) ≤ 1 := hT.1 2 6
    refine dOk_V (ok_setsTurn q p1 (q.1 2 0) r_10 (q.1 2 6) hT) (fun q_17 h_18 => ?_)
    replace h_18 : (TS q_17) ∧ (dFr [12] [] q q_17) ∧ (Int32.toInt (q_17.1 12 0) = Int32.toInt p1) := h_18
    obtain ⟨i_19, i_20, i_21⟩ := h_18
    have hFq_17 : dFr [12] [22, 23, 24, 25] q q_17 := (dFr.rf (q := q)).t i_20 (by decide) (by decide)
    refine dOk_B (ok_isNow q_17 2 i_19) (fun r_22 q_23 h_24 => ?_)
    replace h_24 : (TS q_23) ∧ (dFr [] [22, 23, 24, 25] q_17 q_23) ∧ ((Int32.toInt r_22 = 0 ∨ Int32.toInt r_22 = 1)) := h_24
    obtain ⟨i_25, i_26, i_27⟩ := h_24
    have hFq_23 : dFr [12] [22, 23, 24, 25] q q_23 := hFq_17.t i_26 (by decide) (by decide)
    refine dOk_eq (A := Int32.toInt r_22) (B := 0) rfl (by decide) (fun c_28z c_28 => ?_) (fun c_29z c_29 => ?_)
    · unfold zX10_canTurn_46
      refine dOk_G (dbl_ok (show (1 : Int) = 0 ∨ (1 : Int) = 1 by omega)) ?_
      exact dOk_some (show (TS q_23) ∧ (dFr [12] [22, 23, 24, 25] q q_23) ∧ (((1 : Int) = 1 ∧ Int32.toInt p1 ≤ Int32.toInt (q.1 2 29)) ∨ (1 : Int) = 0) from ⟨i_25, hFq_23, by omega⟩)
    · unfold zX10_canTurn_46
      refine dOk_G (dbl_ok (show (0 : Int) = 0 ∨ (0 : Int) = 1 by omega)) ?_
      exact dOk_some (show (TS q_23) ∧ (dFr [12] [22, 23, 24, 25] q q_23) ∧ (((0 : Int) = 1 ∧ Int32.toInt p1 ≤ Int32.toInt (q.1 2 29)) ∨ (0 : Int) = 0) from ⟨i_25, hFq_23, by omega⟩)
  · exact dOk_some (show (TS q) ∧ (dFr [12] [22, 23, 24, 25] q q) ∧ (((0 : Int) = 1 ∧ Int32.toInt p1 ≤ Int32.toInt (q.1 2 29)) ∨ (0 : Int) = 0) from ⟨hT, (dFr.rf (q := q)), by omega⟩)

set_option maxHeartbeats 4000000 in
set_option maxRecDepth 100000 in
theorem ok_turns (q : dS) (p1 : Int32) (hT : TS q) (hp0 : 1 ≤ Int32.toInt p1) (hp1 : Int32.toInt p1 ≤ Int32.toInt (q.1 2 29)) : dOk (zX10_turns q p1) (fun (o : Int32 × dS) => (TS o.2) ∧ (dFk [2, 12] [22, 23, 24, 25] q o.2) ∧ (0 ≤ Int32.toInt o.1 ∧ Int32.toInt o.1 ≤ 99) ∧ (Int32.toInt (o.2.1 2 29) = Int32.toInt (q.1 2 29)) ∧ (Int32.toInt (o.2.1 2 13) = Int32.toInt (q.1 2 13))) := by
  unfold zX10_turns
  refine dOk_B (ok_rankBelow q p1 hT (show 0 ≤ Int32.toInt p1 by omega)) (fun r_1 q_2 h_3 => ?_)
  replace h_3 : (q_2 = q) ∧ (-1 ≤ Int32.toInt r_1 ∧ Int32.toInt r_1 ≤ 5) := h_3
  obtain ⟨i_4, i_5⟩ := h_3
  subst q_2
  have f_6 : 0 ≤ Int32.toInt (q.1 2 0) ∧ Int32.toInt (q.1 2 0) ≤ 5 := hT.1 2 0
  have f_7 : 0 ≤ Int32.toInt (q.1 2 6) ∧ Int32.toInt (q.1 2 6) ≤ 1 := hT.1 2 6
  refine dOk_V (ok_setsTurn q p1 (q.1 2 0) r_1 (q.1 2 6) hT) (fun q_8 h_9 => ?_)
  replace h_9 : (TS q_8) ∧ (dFr [12] [] q q_8) ∧ (Int32.toInt (q_8.1 12 0) = Int32.toInt p1) := h_9
  obtain ⟨i_10, i_11, i_12⟩ := h_9
  have hFq_8 : dFk [2, 12] [22, 23, 24, 25] q q_8 := (dFk.rf (q := q)).tr i_11 (by decide) (by decide) (by decide)
  refine dOk_B (ok_paysNow q_8 i_10) (fun r_13 q_14 h_15 => ?_)
  replace h_15 : (TS q_14) ∧ (dFr [] [22, 23, 24, 25] q_8 q_14) ∧ ((0 ≤ Int32.toInt (q_8.1 12 0) ∧ Int32.toInt (q_8.1 12 0) ≤ 99) → 0 ≤ Int32.toInt r_13 ∧ Int32.toInt r_13 ≤ 99) := h_15
  obtain ⟨i_16, i_17, i_18⟩ := h_15
  have hFq_14 : dFk [2, 12] [22, 23, 24, 25] q q_14 := hFq_8.tr i_17 (by decide) (by decide) (by decide)
  unfold zX10_turns_30
  refine dFix_ok (fun (a : dS × Int32 × Int32 × Int32) => (TS a.1) ∧ (dFk [2] [] q_14 a.1) ∧ (a.2.1 = p1) ∧ (a.2.2.1 = r_13) ∧ (0 ≤ Int32.toInt a.2.2.2) ∧ (Int32.toInt a.2.2.2 ≤ 6) ∧ (Int32.toInt (a.1.1 2 29) = Int32.toInt (q_14.1 2 29)) ∧ (Int32.toInt (a.1.1 2 13) = Int32.toInt (q_14.1 2 13))) (fun (a : dS × Int32 × Int32 × Int32) => (6 - Int32.toInt a.2.2.2).toNat) ?_ _ ?_ _ (dF_gt ?_)
  · intro a ha k_20 hk_19
    obtain ⟨q_21, x1_22, x2_23, x3_24⟩ := a
    replace ha : (TS q_21) ∧ (dFk [2] [] q_14 q_21) ∧ (x1_22 = p1) ∧ (x2_23 = r_13) ∧ (0 ≤ Int32.toInt x3_24) ∧ (Int32.toInt x3_24 ≤ 6) ∧ (Int32.toInt (q_21.1 2 29) = Int32.toInt (q_14.1 2 29)) ∧ (Int32.toInt (q_21.1 2 13) = Int32.toInt (q_14.1 2 13)) := ha
    obtain ⟨a_25, a_26, a_27, a_28, a_29, a_30, a_31, a_32⟩ := ha
    show dOk (zX10_turns_30b  (fun q x1 x2 x3 => k_20 (q, x1, x2, x3)) q_21 x1_22 x2_23 x3_24) _
    unfold zX10_turns_30b
    have hFq_21 : dFk [2, 12] [22, 23, 24, 25] q q_21 := hFq_14.t a_26 (by decide) (by decide)
    subst x1_22
    subst x2_23
    have f_33 : 0 ≤ Int32.toInt (q_21.1 2 29) ∧ Int32.toInt (q_21.1 2 29) ≤ 6 := a_25.1 2 29
    have f_34 : 0 ≤ Int32.toInt (q_14.1 2 29) ∧ Int32.toInt (q_14.1 2 29) ≤ 6 := i_16.1 2 29
    have f_35 : 0 ≤ Int32.toInt (q_8.1 2 29) ∧ Int32.toInt (q_8.1 2 29) ≤ 6 := i_10.1 2 29
    have f_36 : 0 ≤ Int32.toInt (q.1 2 29) ∧ Int32.toInt (q.1 2 29) ≤ 6 := hT.1 2 29
    have w_37 : Int32.toInt (q_8.1 2 29) = Int32.toInt (q.1 2 29) := by rw [i_11.1 2 (by decide) (by decide)]
    have w_38 : Int32.toInt (q_14.1 2 29) = Int32.toInt (q_8.1 2 29) := by rw [i_17.1 2 (by decide) (by decide)]
    have w_39 : Int32.toInt (q_21.1 2 29) = Int32.toInt (q_14.1 2 29) := by rw [a_26.2 29 (by decide)]
    have f_40 : 0 ≤ Int32.toInt (q_21.1 2 13) ∧ Int32.toInt (q_21.1 2 13) ≤ 999 := a_25.1 2 13
    have f_41 : 0 ≤ Int32.toInt (q_14.1 2 13) ∧ Int32.toInt (q_14.1 2 13) ≤ 999 := i_16.1 2 13
    have f_42 : 0 ≤ Int32.toInt (q_8.1 2 13) ∧ Int32.toInt (q_8.1 2 13) ≤ 999 := i_10.1 2 13
    have f_43 : 0 ≤ Int32.toInt (q.1 2 13) ∧ Int32.toInt (q.1 2 13) ≤ 999 := hT.1 2 13
    have w_44 : Int32.toInt (q_8.1 2 13) = Int32.toInt (q.1 2 13) := by rw [i_11.1 2 (by decide) (by decide)]
    have w_45 : Int32.toInt (q_14.1 2 13) = Int32.toInt (q_8.1 2 13) := by rw [i_17.1 2 (by decide) (by decide)]
    try have t_46 : Int32.toInt (p1 - 1) = Int32.toInt p1 - 1 := ti_sub rfl (by decide) (by omega) (by omega)
    try have t_47 : Int32.toInt (2 * x3_24) = 2 * Int32.toInt x3_24 := ti_mul (by decide) rfl (by omega) (by omega)
    refine dOk_le (A := Int32.toInt (p1 - 1)) (B := Int32.toInt (2 * x3_24)) rfl rfl (fun c_48 => ?_) (fun c_49 => ?_)
    · unfold zX10_turns_57
      refine dFix_ok (fun (a : dS × Int32 × Int32 × Int32) => (TS a.1) ∧ (dFk [2] [] q_21 a.1) ∧ (a.2.1 = p1) ∧ (a.2.2.1 = r_13) ∧ (0 ≤ Int32.toInt a.2.2.2) ∧ (Int32.toInt a.2.2.2 ≤ 6) ∧ (Int32.toInt (a.1.1 2 29) = Int32.toInt (q_21.1 2 29)) ∧ (Int32.toInt (a.1.1 2 13) = Int32.toInt (q_21.1 2 13))) (fun (a : dS × Int32 × Int32 × Int32) => (6 - Int32.toInt a.2.2.2).toNat) ?_ _ ?_ _ (dF_gt ?_)
      · intro a ha k_51 hk_50
        obtain ⟨q_52, x1_53, x2_54, x3_55⟩ := a
        replace ha : (TS q_52) ∧ (dFk [2] [] q_21 q_52) ∧ (x1_53 = p1) ∧ (x2_54 = r_13) ∧ (0 ≤ Int32.toInt x3_55) ∧ (Int32.toInt x3_55 ≤ 6) ∧ (Int32.toInt (q_52.1 2 29) = Int32.toInt (q_21.1 2 29)) ∧ (Int32.toInt (q_52.1 2 13) = Int32.toInt (q_21.1 2 13)) := ha
        obtain ⟨a_56, a_57, a_58, a_59, a_60, a_61, a_62, a_63⟩ := ha
        show dOk (zX10_turns_57b  (fun q x1 x2 x3 => k_51 (q, x1, x2, x3)) q_52 x1_53 x2_54 x3_55) _
        unfold zX10_turns_57b
        have hFq_52 : dFk [2, 12] [22, 23, 24, 25] q q_52 := hFq_21.t a_57 (by decide) (by decide)
        subst x1_53
        subst x2_54
        have f_64 : 0 ≤ Int32.toInt (q_52.1 2 29) ∧ Int32.toInt (q_52.1 2 29) ≤ 6 := a_56.1 2 29
        have w_65 : Int32.toInt (q_52.1 2 29) = Int32.toInt (q_21.1 2 29) := by rw [a_57.2 29 (by decide)]
        have f_66 : 0 ≤ Int32.toInt (q_52.1 2 13) ∧ Int32.toInt (q_52.1 2 13) ≤ 999 := a_56.1 2 13
        refine dOk_le (A := Int32.toInt p1) (B := Int32.toInt x3_55) rfl rfl (fun c_67 => ?_) (fun c_68 => ?_)
        · have f_69 : 0 ≤ Int32.toInt (q_52.1 2 12) ∧ Int32.toInt (q_52.1 2 12) ≤ 9999 := a_56.1 2 12
          try have t_70 : Int32.toInt (q_52.1 2 12 + r_13) = Int32.toInt (q_52.1 2 12) + Int32.toInt r_13 := ti_add rfl rfl (by omega) (by omega)
          refine dOk_V (ok_lesser 9999 (q_52.1 2 12 + r_13)) (fun r_71 h_72 => ?_)
          replace h_72 : (Int32.toInt r_71 ≤ (9999 : Int) ∧ Int32.toInt r_71 ≤ Int32.toInt (q_52.1 2 12 + r_13) ∧ (Int32.toInt r_71 = (9999 : Int) ∨ Int32.toInt r_71 = Int32.toInt (q_52.1 2 12 + r_13))) := h_72
          have i_73 := h_72
          refine dOk_L (fun q_74 eq_74 => ?_)
          have hTq_74 : TS q_74 := by rw [eq_74]; exact ts_set2 a_56 (by omega) (show klo (12) ≤ Int32.toInt r_71 by unfold klo; omega) (show Int32.toInt r_71 ≤ khi (12) by unfold khi; omega)
          have hFq_74 : dFk [2, 12] [22, 23, 24, 25] q q_74 := by rw [eq_74]; exact hFq_52.k (by omega) (by decide)
          have f_75 : 0 ≤ Int32.toInt (q_74.1 2 29) ∧ Int32.toInt (q_74.1 2 29) ≤ 6 := hTq_74.1 2 29
          have w_76 : Int32.toInt (q_74.1 2 29) = Int32.toInt (q_52.1 2 29) := by rw [eq_74, dui_n (by decide)]
          have f_77 : 0 ≤ Int32.toInt (q_74.1 2 13) ∧ Int32.toInt (q_74.1 2 13) ≤ 999 := hTq_74.1 2 13
          have w_78 : Int32.toInt (q_74.1 2 13) = Int32.toInt (q_52.1 2 13) := by rw [eq_74, dui_n (by decide)]
          exact dOk_some (show (TS q_74) ∧ (dFk [2, 12] [22, 23, 24, 25] q q_74) ∧ (0 ≤ Int32.toInt r_13 ∧ Int32.toInt r_13 ≤ 99) ∧ (Int32.toInt (q_74.1 2 29) = Int32.toInt (q.1 2 29)) ∧ (Int32.toInt (q_74.1 2 13) = Int32.toInt (q.1 2 13)) from ⟨hTq_74, hFq_74, by omega, by omega, by omega⟩)
        · try have t_79 : Int32.toInt (6 + x3_55) = 6 + Int32.toInt x3_55 := ti_add (by decide) rfl (by omega) (by omega)
          refine dOk_G (dg_ok (show 0 ≤ Int32.toInt (6 + x3_55) by omega) (show Int32.toInt (6 + x3_55) < ((5640 : Nat) : Int) by omega)) ?_
          have n_80 : ((Int32.toNatClampNeg (6 + x3_55) : Nat) : Int) = Int32.toInt (6 + x3_55) := cl_eq (by omega)
          refine dOk_L (fun v_81 ev_81 => ?_)
          try have g_82 : klo (Int32.toNatClampNeg (6 + x3_55)) ≤ Int32.toInt v_81 ∧ Int32.toInt v_81 ≤ khi (Int32.toNatClampNeg (6 + x3_55)) := by rw [ev_81]; exact te_k a_56 _
          try have f_83 : 0 ≤ Int32.toInt v_81 ∧ Int32.toInt v_81 ≤ 5 := by rw [ev_81]; exact te_2r a_56 (by omega) (by omega)
          try have f_84 : 0 ≤ Int32.toInt v_81 ∧ Int32.toInt v_81 ≤ 1 := by rw [ev_81]; exact te_2h a_56 (by omega) (by omega)
          try have f_85 : 0 ≤ Int32.toInt v_81 ∧ Int32.toInt v_81 ≤ 5 := by rw [ev_81]; exact te_2s a_56 (by omega) (by omega)
          try have f_86 : 0 ≤ Int32.toInt v_81 ∧ Int32.toInt v_81 ≤ 400 := by rw [ev_81]; exact te_2z a_56 (by omega) (by omega)
          refine dOk_G (dg_ok (show 0 ≤ Int32.toInt (6 + x3_55) by omega) (show Int32.toInt (6 + x3_55) < ((5640 : Nat) : Int) by omega)) ?_
          refine dOk_L (fun q_87 eq_87 => ?_)
          try have t_88 : Int32.toInt (1 - v_81) = 1 - Int32.toInt v_81 := ti_sub (by decide) rfl (by omega) (by omega)
          have hTq_87 : TS q_87 := by rw [eq_87]; exact ts_set2 a_56 (by omega) (show klo (Int32.toNatClampNeg (6 + x3_55)) ≤ Int32.toInt (1 - v_81) by unfold klo; omega) (show Int32.toInt (1 - v_81) ≤ khi (Int32.toNatClampNeg (6 + x3_55)) by unfold khi; omega)
          have hFq_87 : dFk [2, 12] [22, 23, 24, 25] q q_87 := by rw [eq_87]; exact hFq_52.k (by omega) (by decide)
          try have t_89 : Int32.toInt (x3_55 + 1) = Int32.toInt x3_55 + 1 := ti_add rfl (by decide) (by omega) (by omega)
          have f_90 : 0 ≤ Int32.toInt (q_87.1 2 29) ∧ Int32.toInt (q_87.1 2 29) ≤ 6 := hTq_87.1 2 29
          try have w_91 : Int32.toInt (q_87.1 2 29) = Int32.toInt (q_52.1 2 29) := by rw [eq_87, dui_n (by omega)]
          have f_92 : 0 ≤ Int32.toInt (q_87.1 2 13) ∧ Int32.toInt (q_87.1 2 13) ≤ 999 := hTq_87.1 2 13
          try have w_93 : Int32.toInt (q_87.1 2 13) = Int32.toInt (q_52.1 2 13) := by rw [eq_87, dui_n (by omega)]
          exact hk_50 (q_87, p1, r_13, (x3_55 + 1)) (show (TS q_87) ∧ (dFk [2] [] q_21 q_87) ∧ (p1 = p1) ∧ (r_13 = r_13) ∧ (0 ≤ Int32.toInt (x3_55 + 1)) ∧ (Int32.toInt (x3_55 + 1) ≤ 6) ∧ (Int32.toInt (q_87.1 2 29) = Int32.toInt (q_21.1 2 29)) ∧ (Int32.toInt (q_87.1 2 13) = Int32.toInt (q_21.1 2 13)) from ⟨hTq_87, (by rw [eq_87]; exact (((dFk.rf : dFk [2] [] q_21 q_21).t a_57 (by decide) (by decide)) : dFk [2] [] q_21 q_52).k (by omega) (by decide)), rfl, rfl, by omega, by omega, by omega, by omega⟩) (show (6 - Int32.toInt (x3_55 + 1)).toNat < (6 - Int32.toInt x3_55).toNat by omega)
      · exact (show (TS q_21) ∧ (dFk [2] [] q_21 q_21) ∧ (p1 = p1) ∧ (r_13 = r_13) ∧ (0 ≤ (0 : Int)) ∧ ((0 : Int) ≤ 6) ∧ (Int32.toInt (q_21.1 2 29) = Int32.toInt (q_21.1 2 29)) ∧ (Int32.toInt (q_21.1 2 13) = Int32.toInt (q_21.1 2 13)) from ⟨a_25, dFk.rf, rfl, rfl, by omega, by omega, by omega, by omega⟩)
      · show (6 - (0 : Int)).toNat < 1000000000000
        omega
    · try have t_94 : Int32.toInt (p1 - 1 - x3_24) = Int32.toInt (p1 - 1) - Int32.toInt x3_24 := ti_sub rfl rfl (by omega) (by omega)
      refine dOk_V (ok_exchanges q_21 x3_24 (p1 - 1 - x3_24) a_25 (show 0 ≤ Int32.toInt x3_24 ∧ Int32.toInt x3_24 ≤ 5 by omega) (show 0 ≤ Int32.toInt (p1 - 1 - x3_24) ∧ Int32.toInt (p1 - 1 - x3_24) ≤ 5 by omega)) (fun q_95 h_96 => ?_)
      replace h_96 : (TS q_95) ∧ (dFk [2] [] q_21 q_95) ∧ (Int32.toInt (q_95.1 2 12) = Int32.toInt (q_21.1 2 12)) ∧ (Int32.toInt (q_95.1 2 13) = Int32.toInt (q_21.1 2 13)) ∧ (Int32.toInt (q_95.1 2 29) = Int32.toInt (q_21.1 2 29)) := h_96
      obtain ⟨i_97, i_98, i_99, i_100, i_101⟩ := h_96
      have hFq_95 : dFk [2, 12] [22, 23, 24, 25] q q_95 := hFq_21.t i_98 (by decide) (by decide)
      have f_102 : 0 ≤ Int32.toInt (q_95.1 2 12) ∧ Int32.toInt (q_95.1 2 12) ≤ 9999 := i_97.1 2 12
      have f_103 : 0 ≤ Int32.toInt (q_21.1 2 12) ∧ Int32.toInt (q_21.1 2 12) ≤ 9999 := a_25.1 2 12
      have f_104 : 0 ≤ Int32.toInt (q_95.1 2 13) ∧ Int32.toInt (q_95.1 2 13) ≤ 999 := i_97.1 2 13
      have f_105 : 0 ≤ Int32.toInt (q_95.1 2 29) ∧ Int32.toInt (q_95.1 2 29) ≤ 6 := i_97.1 2 29
      have w_106 : Int32.toInt (q_95.1 2 29) = Int32.toInt (q_21.1 2 29) := by rw [i_98.2 29 (by decide)]
      try have t_107 : Int32.toInt (x3_24 + 1) = Int32.toInt x3_24 + 1 := ti_add rfl (by decide) (by omega) (by omega)
      exact hk_19 (q_95, p1, r_13, (x3_24 + 1)) (show (TS q_95) ∧ (dFk [2] [] q_14 q_95) ∧ (p1 = p1) ∧ (r_13 = r_13) ∧ (0 ≤ Int32.toInt (x3_24 + 1)) ∧ (Int32.toInt (x3_24 + 1) ≤ 6) ∧ (Int32.toInt (q_95.1 2 29) = Int32.toInt (q_14.1 2 29)) ∧ (Int32.toInt (q_95.1 2 13) = Int32.toInt (q_14.1 2 13)) from ⟨i_97, ((((dFk.rf : dFk [2] [] q_14 q_14).t a_26 (by decide) (by decide)) : dFk [2] [] q_14 q_21).t i_98 (by decide) (by decide)), rfl, rfl, by omega, by omega, by omega, by omega⟩) (show (6 - Int32.toInt (x3_24 + 1)).toNat < (6 - Int32.toInt x3_24).toNat by omega)
  · have f_108 : 0 ≤ Int32.toInt (q_14.1 2 29) ∧ Int32.toInt (q_14.1 2 29) ≤ 6 := i_16.1 2 29
    have f_109 : 0 ≤ Int32.toInt (q_8.1 2 29) ∧ Int32.toInt (q_8.1 2 29) ≤ 6 := i_10.1 2 29
    have f_110 : 0 ≤ Int32.toInt (q.1 2 29) ∧ Int32.toInt (q.1 2 29) ≤ 6 := hT.1 2 29
    have w_111 : Int32.toInt (q_8.1 2 29) = Int32.toInt (q.1 2 29) := by rw [i_11.1 2 (by decide) (by decide)]
    have w_112 : Int32.toInt (q_14.1 2 29) = Int32.toInt (q_8.1 2 29) := by rw [i_17.1 2 (by decide) (by decide)]
    have f_113 : 0 ≤ Int32.toInt (q_14.1 2 13) ∧ Int32.toInt (q_14.1 2 13) ≤ 999 := i_16.1 2 13
    have f_114 : 0 ≤ Int32.toInt (q_8.1 2 13) ∧ Int32.toInt (q_8.1 2 13) ≤ 999 := i_10.1 2 13
    have f_115 : 0 ≤ Int32.toInt (q.1 2 13) ∧ Int32.toInt (q.1 2 13) ≤ 999 := hT.1 2 13
    have w_116 : Int32.toInt (q_8.1 2 13) = Int32.toInt (q.1 2 13) := by rw [i_11.1 2 (by decide) (by decide)]
    have w_117 : Int32.toInt (q_14.1 2 13) = Int32.toInt (q_8.1 2 13) := by rw [i_17.1 2 (by decide) (by decide)]
    exact (show (TS q_14) ∧ (dFk [2] [] q_14 q_14) ∧ (p1 = p1) ∧ (r_13 = r_13) ∧ (0 ≤ (0 : Int)) ∧ ((0 : Int) ≤ 6) ∧ (Int32.toInt (q_14.1 2 29) = Int32.toInt (q_14.1 2 29)) ∧ (Int32.toInt (q_14.1 2 13) = Int32.toInt (q_14.1 2 13)) from ⟨i_16, dFk.rf, rfl, rfl, by omega, by omega, by omega, by omega⟩)
  · show (6 - (0 : Int)).toNat < 1000000000000
    omega

set_option maxHeartbeats 4000000 in
set_option maxRecDepth 100000 in
theorem ok_yearPasses (q : dS) (hT : TS q) (hp0 : Int32.toInt (q.1 2 13) < 999) : dOk (zX10_yearPasses q) (fun (o : Int32 × dS) => (TS o.2) ∧ (dFk [2, 12, 13] [22, 23, 24, 25] q o.2) ∧ (0 ≤ Int32.toInt o.1) ∧ (Int32.toInt (o.2.1 2 29) = Int32.toInt (q.1 2 29))) := by
  unfold zX10_yearPasses
  unfold zX10_yearPasses_4
  refine dFix_ok (fun (a : dS × Int32 × Int32) => (TS a.1) ∧ (dFk [12, 13] [22, 23, 24, 25] q a.1) ∧ (a.2.1 = 0) ∧ (0 ≤ Int32.toInt a.2.2) ∧ (Int32.toInt a.2.2 ≤ 6)) (fun (a : dS × Int32 × Int32) => (6 - Int32.toInt a.2.2).toNat) ?_ _ ?_ _ (dF_gt ?_)
  · intro a ha k_2 hk_1
    obtain ⟨q_3, x1_4, x2_5⟩ := a
    replace ha : (TS q_3) ∧ (dFk [12, 13] [22, 23, 24, 25] q q_3) ∧ (x1_4 = 0) ∧ (0 ≤ Int32.toInt x2_5) ∧ (Int32.toInt x2_5 ≤ 6) := ha
    obtain ⟨a_6, a_7, a_8, a_9, a_10⟩ := ha
    show dOk (zX10_yearPasses_4b  (fun q x1 x2 => k_2 (q, x1, x2)) q_3 x1_4 x2_5) _
    unfold zX10_yearPasses_4b
    have hFq_3 : dFk [2, 12, 13] [22, 23, 24, 25] q q_3 := (dFk.rf (q := q)).t a_7 (by decide) (by decide)
    subst x1_4
    refine dOk_B (ok_size q_3 a_6) (fun r_11 q_12 h_13 => ?_)
    replace h_13 : (q_12 = q_3) ∧ (Int32.toInt r_11 = Int32.toInt (q_3.1 2 29)) ∧ (0 ≤ Int32.toInt r_11 ∧ Int32.toInt r_11 ≤ 6) := h_13
    obtain ⟨i_14, i_15, i_16⟩ := h_13
    subst q_12
    have f_17 : 0 ≤ Int32.toInt (q_3.1 2 29) ∧ Int32.toInt (q_3.1 2 29) ≤ 6 := a_6.1 2 29
    have f_18 : 0 ≤ Int32.toInt (q.1 2 29) ∧ Int32.toInt (q.1 2 29) ≤ 6 := hT.1 2 29
    have w_19 : Int32.toInt (q_3.1 2 29) = Int32.toInt (q.1 2 29) := by rw [a_7.1.1 2 (by decide) (by decide)]
    refine dOk_le (A := Int32.toInt r_11) (B := Int32.toInt x2_5) rfl rfl (fun c_20 => ?_) (fun c_21 => ?_)
    · unfold zX10_yearPasses_31
      refine dFix_ok (fun (a : dS × Int32 × Int32) => (TS a.1) ∧ (dFk [2] [] q_3 a.1) ∧ (0 ≤ Int32.toInt a.2.2) ∧ (Int32.toInt a.2.2 ≤ 6) ∧ (Int32.toInt (a.1.1 2 29) = Int32.toInt (q_3.1 2 29)) ∧ (Int32.toInt (a.1.1 2 13) = Int32.toInt (q_3.1 2 13)) ∧ (0 ≤ Int32.toInt a.2.1) ∧ (Int32.toInt a.2.1 ≤ Int32.toInt a.2.2)) (fun (a : dS × Int32 × Int32) => (6 - Int32.toInt a.2.2).toNat) ?_ _ ?_ _ (dF_gt ?_)
      · intro a ha k_23 hk_22
        obtain ⟨q_24, x1_25, x2_26⟩ := a
        replace ha : (TS q_24) ∧ (dFk [2] [] q_3 q_24) ∧ (0 ≤ Int32.toInt x2_26) ∧ (Int32.toInt x2_26 ≤ 6) ∧ (Int32.toInt (q_24.1 2 29) = Int32.toInt (q_3.1 2 29)) ∧ (Int32.toInt (q_24.1 2 13) = Int32.toInt (q_3.1 2 13)) ∧ (0 ≤ Int32.toInt x1_25) ∧ (Int32.toInt x1_25 ≤ Int32.toInt x2_26) := ha
        obtain ⟨a_27, a_28, a_29, a_30, a_31, a_32, a_33, a_34⟩ := ha
        show dOk (zX10_yearPasses_31b  (fun q x1 x2 => k_23 (q, x1, x2)) q_24 x1_25 x2_26) _
        unfold zX10_yearPasses_31b
        have hFq_24 : dFk [2, 12, 13] [22, 23, 24, 25] q q_24 := hFq_3.t a_28 (by decide) (by decide)
        have f_35 : 0 ≤ Int32.toInt (q_24.1 2 29) ∧ Int32.toInt (q_24.1 2 29) ≤ 6 := a_27.1 2 29
        have w_36 : Int32.toInt (q_24.1 2 29) = Int32.toInt (q_3.1 2 29) := by rw [a_28.2 29 (by decide)]
        have f_37 : 0 ≤ Int32.toInt (q_24.1 2 13) ∧ Int32.toInt (q_24.1 2 13) ≤ 999 := a_27.1 2 13
        have f_38 : 0 ≤ Int32.toInt (q_3.1 2 13) ∧ Int32.toInt (q_3.1 2 13) ≤ 999 := a_6.1 2 13
        have f_39 : 0 ≤ Int32.toInt (q.1 2 13) ∧ Int32.toInt (q.1 2 13) ≤ 999 := hT.1 2 13
        have w_40 : Int32.toInt (q_3.1 2 13) = Int32.toInt (q.1 2 13) := by rw [a_7.1.1 2 (by decide) (by decide)]
        refine dOk_B (ok_size q_24 a_27) (fun r_41 q_42 h_43 => ?_)
        replace h_43 : (q_42 = q_24) ∧ (Int32.toInt r_41 = Int32.toInt (q_24.1 2 29)) ∧ (0 ≤ Int32.toInt r_41 ∧ Int32.toInt r_41 ≤ 6) := h_43
        obtain ⟨i_44, i_45, i_46⟩ := h_43
        subst q_42
        refine dOk_le (A := Int32.toInt r_41) (B := Int32.toInt x2_26) rfl rfl (fun c_47 => ?_) (fun c_48 => ?_)
        · refine dOk_L (fun q_49 eq_49 => ?_)
          try have t_50 : Int32.toInt (q_24.1 2 13 + 1) = Int32.toInt (q_24.1 2 13) + 1 := ti_add rfl (by decide) (by omega) (by omega)
          have hTq_49 : TS q_49 := by rw [eq_49]; exact ts_set2 a_27 (by omega) (show klo (13) ≤ Int32.toInt (q_24.1 2 13 + 1) by unfold klo; omega) (show Int32.toInt (q_24.1 2 13 + 1) ≤ khi (13) by unfold khi; omega)
          have hFq_49 : dFk [2, 12, 13] [22, 23, 24, 25] q q_49 := by rw [eq_49]; exact hFq_24.k (by omega) (by decide)
          have f_51 : 0 ≤ Int32.toInt (q_49.1 2 29) ∧ Int32.toInt (q_49.1 2 29) ≤ 6 := hTq_49.1 2 29
          have w_52 : Int32.toInt (q_49.1 2 29) = Int32.toInt (q_24.1 2 29) := by rw [eq_49, dui_n (by decide)]
          exact dOk_some (show (TS q_49) ∧ (dFk [2, 12, 13] [22, 23, 24, 25] q q_49) ∧ (0 ≤ Int32.toInt x1_25) ∧ (Int32.toInt (q_49.1 2 29) = Int32.toInt (q.1 2 29)) from ⟨hTq_49, hFq_49, by omega, by omega⟩)
        · refine dOk_G (dg_ok (show 0 ≤ Int32.toInt x2_26 by omega) (show Int32.toInt x2_26 < ((6 : Nat) : Int) by omega)) ?_
          have n_53 : ((Int32.toNatClampNeg x2_26 : Nat) : Int) = Int32.toInt x2_26 := cl_eq (by omega)
          refine dOk_L (fun v_54 ev_54 => ?_)
          refine dOk_eq (A := Int32.toInt v_54) (B := 0) rfl (by decide) (fun c_55z c_55 => ?_) (fun c_56z c_56 => ?_)
          · try have t_58 : Int32.toInt (6 + x2_26) = 6 + Int32.toInt x2_26 := ti_add (by decide) rfl (by omega) (by omega)
            refine dOk_G (dg_ok (show 0 ≤ Int32.toInt (6 + x2_26) by omega) (show Int32.toInt (6 + x2_26) < ((5640 : Nat) : Int) by omega)) ?_
            have n_59 : ((Int32.toNatClampNeg (6 + x2_26) : Nat) : Int) = Int32.toInt (6 + x2_26) := cl_eq (by omega)
            refine dOk_L (fun v_60 ev_60 => ?_)
            try have g_61 : klo (Int32.toNatClampNeg (6 + x2_26)) ≤ Int32.toInt v_60 ∧ Int32.toInt v_60 ≤ khi (Int32.toNatClampNeg (6 + x2_26)) := by rw [ev_60]; exact te_k a_27 _
            try have f_62 : 0 ≤ Int32.toInt v_60 ∧ Int32.toInt v_60 ≤ 5 := by rw [ev_60]; exact te_2r a_27 (by omega) (by omega)
            try have f_63 : 0 ≤ Int32.toInt v_60 ∧ Int32.toInt v_60 ≤ 1 := by rw [ev_60]; exact te_2h a_27 (by omega) (by omega)
            try have f_64 : 0 ≤ Int32.toInt v_60 ∧ Int32.toInt v_60 ≤ 5 := by rw [ev_60]; exact te_2s a_27 (by omega) (by omega)
            try have f_65 : 0 ≤ Int32.toInt v_60 ∧ Int32.toInt v_60 ≤ 400 := by rw [ev_60]; exact te_2z a_27 (by omega) (by omega)
            unfold zX10_yearPasses_79
            refine dOk_G (dg_ok (show 0 ≤ Int32.toInt (6 + x2_26) by omega) (show Int32.toInt (6 + x2_26) < ((5640 : Nat) : Int) by omega)) ?_
            refine dOk_L (fun q_66 eq_66 => ?_)
            have hTq_66 : TS q_66 := by rw [eq_66]; first | exact ts_2c a_27 (by omega) (show Int32.toNatClampNeg (6 + x2_26) = Int32.toNatClampNeg (6 + x2_26) by omega) g_61 | exact ts_set2 a_27 (by omega) (show klo (Int32.toNatClampNeg (6 + x2_26)) ≤ Int32.toInt v_60 by unfold klo; omega) (show Int32.toInt v_60 ≤ khi (Int32.toNatClampNeg (6 + x2_26)) by unfold khi; omega)
            have hFq_66 : dFk [2, 12, 13] [22, 23, 24, 25] q q_66 := by rw [eq_66]; exact hFq_24.k (by omega) (by decide)
            refine dOk_G (dg_ok (show 0 ≤ Int32.toInt x2_26 by omega) (show Int32.toInt x2_26 < ((6 : Nat) : Int) by omega)) ?_
            refine dOk_L (fun v_67 ev_67 => ?_)
            refine dOk_eq (A := Int32.toInt v_67) (B := 0) rfl (by decide) (fun c_68z c_68 => ?_) (fun c_69z c_69 => ?_)
            · unfold zX10_yearPasses_95
              try have t_71 : Int32.toInt (x1_25 + 0) = Int32.toInt x1_25 + 0 := ti_add rfl (by decide) (by omega) (by omega)
              try have t_72 : Int32.toInt (x2_26 + 1) = Int32.toInt x2_26 + 1 := ti_add rfl (by decide) (by omega) (by omega)
              have f_73 : 0 ≤ Int32.toInt (q_66.1 2 29) ∧ Int32.toInt (q_66.1 2 29) ≤ 6 := hTq_66.1 2 29
              try have w_74 : Int32.toInt (q_66.1 2 29) = Int32.toInt (q_24.1 2 29) := by rw [eq_66, dui_n (by omega)]
              have f_75 : 0 ≤ Int32.toInt (q_66.1 2 13) ∧ Int32.toInt (q_66.1 2 13) ≤ 999 := hTq_66.1 2 13
              try have w_76 : Int32.toInt (q_66.1 2 13) = Int32.toInt (q_24.1 2 13) := by rw [eq_66, dui_n (by omega)]
              exact hk_22 (q_66, (x1_25 + 0), (x2_26 + 1)) (show (TS q_66) ∧ (dFk [2] [] q_3 q_66) ∧ (0 ≤ Int32.toInt (x2_26 + 1)) ∧ (Int32.toInt (x2_26 + 1) ≤ 6) ∧ (Int32.toInt (q_66.1 2 29) = Int32.toInt (q_3.1 2 29)) ∧ (Int32.toInt (q_66.1 2 13) = Int32.toInt (q_3.1 2 13)) ∧ (0 ≤ Int32.toInt (x1_25 + 0)) ∧ (Int32.toInt (x1_25 + 0) ≤ Int32.toInt (x2_26 + 1)) from ⟨hTq_66, (by rw [eq_66]; exact (((dFk.rf : dFk [2] [] q_3 q_3).t a_28 (by decide) (by decide)) : dFk [2] [] q_3 q_24).k (by omega) (by decide)), by omega, by omega, by omega, by omega, by omega, by omega⟩) (show (6 - Int32.toInt (x2_26 + 1)).toNat < (6 - Int32.toInt x2_26).toNat by omega)
            · unfold zX10_yearPasses_95
              try have t_77 : Int32.toInt (x1_25 + 1) = Int32.toInt x1_25 + 1 := ti_add rfl (by decide) (by omega) (by omega)
              try have t_78 : Int32.toInt (x2_26 + 1) = Int32.toInt x2_26 + 1 := ti_add rfl (by decide) (by omega) (by omega)
              have f_79 : 0 ≤ Int32.toInt (q_66.1 2 29) ∧ Int32.toInt (q_66.1 2 29) ≤ 6 := hTq_66.1 2 29
              try have w_80 : Int32.toInt (q_66.1 2 29) = Int32.toInt (q_24.1 2 29) := by rw [eq_66, dui_n (by omega)]
              have f_81 : 0 ≤ Int32.toInt (q_66.1 2 13) ∧ Int32.toInt (q_66.1 2 13) ≤ 999 := hTq_66.1 2 13
              try have w_82 : Int32.toInt (q_66.1 2 13) = Int32.toInt (q_24.1 2 13) := by rw [eq_66, dui_n (by omega)]
              exact hk_22 (q_66, (x1_25 + 1), (x2_26 + 1)) (show (TS q_66) ∧ (dFk [2] [] q_3 q_66) ∧ (0 ≤ Int32.toInt (x2_26 + 1)) ∧ (Int32.toInt (x2_26 + 1) ≤ 6) ∧ (Int32.toInt (q_66.1 2 29) = Int32.toInt (q_3.1 2 29)) ∧ (Int32.toInt (q_66.1 2 13) = Int32.toInt (q_3.1 2 13)) ∧ (0 ≤ Int32.toInt (x1_25 + 1)) ∧ (Int32.toInt (x1_25 + 1) ≤ Int32.toInt (x2_26 + 1)) from ⟨hTq_66, (by rw [eq_66]; exact (((dFk.rf : dFk [2] [] q_3 q_3).t a_28 (by decide) (by decide)) : dFk [2] [] q_3 q_24).k (by omega) (by decide)), by omega, by omega, by omega, by omega, by omega, by omega⟩) (show (6 - Int32.toInt (x2_26 + 1)).toNat < (6 - Int32.toInt x2_26).toNat by omega)
          · try have t_83 : Int32.toInt (6 + x2_26) = 6 + Int32.toInt x2_26 := ti_add (by decide) rfl (by omega) (by omega)
            refine dOk_G (dg_ok (show 0 ≤ Int32.toInt (6 + x2_26) by omega) (show Int32.toInt (6 + x2_26) < ((5640 : Nat) : Int) by omega)) ?_
            have n_84 : ((Int32.toNatClampNeg (6 + x2_26) : Nat) : Int) = Int32.toInt (6 + x2_26) := cl_eq (by omega)
            refine dOk_L (fun v_85 ev_85 => ?_)
            try have g_86 : klo (Int32.toNatClampNeg (6 + x2_26)) ≤ Int32.toInt v_85 ∧ Int32.toInt v_85 ≤ khi (Int32.toNatClampNeg (6 + x2_26)) := by rw [ev_85]; exact te_k a_27 _
            try have f_87 : 0 ≤ Int32.toInt v_85 ∧ Int32.toInt v_85 ≤ 5 := by rw [ev_85]; exact te_2r a_27 (by omega) (by omega)
            try have f_88 : 0 ≤ Int32.toInt v_85 ∧ Int32.toInt v_85 ≤ 1 := by rw [ev_85]; exact te_2h a_27 (by omega) (by omega)
            try have f_89 : 0 ≤ Int32.toInt v_85 ∧ Int32.toInt v_85 ≤ 5 := by rw [ev_85]; exact te_2s a_27 (by omega) (by omega)
            try have f_90 : 0 ≤ Int32.toInt v_85 ∧ Int32.toInt v_85 ≤ 400 := by rw [ev_85]; exact te_2z a_27 (by omega) (by omega)
            unfold zX10_yearPasses_79
            refine dOk_G (dg_ok (show 0 ≤ Int32.toInt (6 + x2_26) by omega) (show Int32.toInt (6 + x2_26) < ((5640 : Nat) : Int) by omega)) ?_
            refine dOk_L (fun q_91 eq_91 => ?_)
            try have t_92 : Int32.toInt (1 - v_85) = 1 - Int32.toInt v_85 := ti_sub (by decide) rfl (by omega) (by omega)
            have hTq_91 : TS q_91 := by rw [eq_91]; exact ts_set2 a_27 (by omega) (show klo (Int32.toNatClampNeg (6 + x2_26)) ≤ Int32.toInt (1 - v_85) by unfold klo; omega) (show Int32.toInt (1 - v_85) ≤ khi (Int32.toNatClampNeg (6 + x2_26)) by unfold khi; omega)
            have hFq_91 : dFk [2, 12, 13] [22, 23, 24, 25] q q_91 := by rw [eq_91]; exact hFq_24.k (by omega) (by decide)
            refine dOk_G (dg_ok (show 0 ≤ Int32.toInt x2_26 by omega) (show Int32.toInt x2_26 < ((6 : Nat) : Int) by omega)) ?_
            refine dOk_L (fun v_93 ev_93 => ?_)
            refine dOk_eq (A := Int32.toInt v_93) (B := 0) rfl (by decide) (fun c_94z c_94 => ?_) (fun c_95z c_95 => ?_)
            · unfold zX10_yearPasses_95
              try have t_97 : Int32.toInt (x1_25 + 0) = Int32.toInt x1_25 + 0 := ti_add rfl (by decide) (by omega) (by omega)
              try have t_98 : Int32.toInt (x2_26 + 1) = Int32.toInt x2_26 + 1 := ti_add rfl (by decide) (by omega) (by omega)
              have f_99 : 0 ≤ Int32.toInt (q_91.1 2 29) ∧ Int32.toInt (q_91.1 2 29) ≤ 6 := hTq_91.1 2 29
              try have w_100 : Int32.toInt (q_91.1 2 29) = Int32.toInt (q_24.1 2 29) := by rw [eq_91, dui_n (by omega)]
              have f_101 : 0 ≤ Int32.toInt (q_91.1 2 13) ∧ Int32.toInt (q_91.1 2 13) ≤ 999 := hTq_91.1 2 13
              try have w_102 : Int32.toInt (q_91.1 2 13) = Int32.toInt (q_24.1 2 13) := by rw [eq_91, dui_n (by omega)]
              exact hk_22 (q_91, (x1_25 + 0), (x2_26 + 1)) (show (TS q_91) ∧ (dFk [2] [] q_3 q_91) ∧ (0 ≤ Int32.toInt (x2_26 + 1)) ∧ (Int32.toInt (x2_26 + 1) ≤ 6) ∧ (Int32.toInt (q_91.1 2 29) = Int32.toInt (q_3.1 2 29)) ∧ (Int32.toInt (q_91.1 2 13) = Int32.toInt (q_3.1 2 13)) ∧ (0 ≤ Int32.toInt (x1_25 + 0)) ∧ (Int32.toInt (x1_25 + 0) ≤ Int32.toInt (x2_26 + 1)) from ⟨hTq_91, (by rw [eq_91]; exact (((dFk.rf : dFk [2] [] q_3 q_3).t a_28 (by decide) (by decide)) : dFk [2] [] q_3 q_24).k (by omega) (by decide)), by omega, by omega, by omega, by omega, by omega, by omega⟩) (show (6 - Int32.toInt (x2_26 + 1)).toNat < (6 - Int32.toInt x2_26).toNat by omega)
            · unfold zX10_yearPasses_95
              try have t_103 : Int32.toInt (x1_25 + 1) = Int32.toInt x1_25 + 1 := ti_add rfl (by decide) (by omega) (by omega)
              try have t_104 : Int32.toInt (x2_26 + 1) = Int32.toInt x2_26 + 1 := ti_add rfl (by decide) (by omega) (by omega)
              have f_105 : 0 ≤ Int32.toInt (q_91.1 2 29) ∧ Int32.toInt (q_91.1 2 29) ≤ 6 := hTq_91.1 2 29
              try have w_106 : Int32.toInt (q_91.1 2 29) = Int32.toInt (q_24.1 2 29) := by rw [eq_91, dui_n (by omega)]
              have f_107 : 0 ≤ Int32.toInt (q_91.1 2 13) ∧ Int32.toInt (q_91.1 2 13) ≤ 999 := hTq_91.1 2 13
              try have w_108 : Int32.toInt (q_91.1 2 13) = Int32.toInt (q_24.1 2 13) := by rw [eq_91, dui_n (by omega)]
              exact hk_22 (q_91, (x1_25 + 1), (x2_26 + 1)) (show (TS q_91) ∧ (dFk [2] [] q_3 q_91) ∧ (0 ≤ Int32.toInt (x2_26 + 1)) ∧ (Int32.toInt (x2_26 + 1) ≤ 6) ∧ (Int32.toInt (q_91.1 2 29) = Int32.toInt (q_3.1 2 29)) ∧ (Int32.toInt (q_91.1 2 13) = Int32.toInt (q_3.1 2 13)) ∧ (0 ≤ Int32.toInt (x1_25 + 1)) ∧ (Int32.toInt (x1_25 + 1) ≤ Int32.toInt (x2_26 + 1)) from ⟨hTq_91, (by rw [eq_91]; exact (((dFk.rf : dFk [2] [] q_3 q_3).t a_28 (by decide) (by decide)) : dFk [2] [] q_3 q_24).k (by omega) (by decide)), by omega, by omega, by omega, by omega, by omega, by omega⟩) (show (6 - Int32.toInt (x2_26 + 1)).toNat < (6 - Int32.toInt x2_26).toNat by omega)
      · have f_109 : 0 ≤ Int32.toInt (q_3.1 2 13) ∧ Int32.toInt (q_3.1 2 13) ≤ 999 := a_6.1 2 13
        have f_110 : 0 ≤ Int32.toInt (q.1 2 13) ∧ Int32.toInt (q.1 2 13) ≤ 999 := hT.1 2 13
        have w_111 : Int32.toInt (q_3.1 2 13) = Int32.toInt (q.1 2 13) := by rw [a_7.1.1 2 (by decide) (by decide)]
        exact (show (TS q_3) ∧ (dFk [2] [] q_3 q_3) ∧ (0 ≤ (0 : Int)) ∧ ((0 : Int) ≤ 6) ∧ (Int32.toInt (q_3.1 2 29) = Int32.toInt (q_3.1 2 29)) ∧ (Int32.toInt (q_3.1 2 13) = Int32.toInt (q_3.1 2 13)) ∧ (0 ≤ (0 : Int)) ∧ ((0 : Int) ≤ (0 : Int)) from ⟨a_6, dFk.rf, by omega, by omega, by omega, by omega, by omega, by omega⟩)
      · show (6 - (0 : Int)).toNat < 1000000000000
        omega
    · refine dOk_B (ok_tipsAt q_3 x2_5 a_6 (show 0 ≤ Int32.toInt x2_5 by omega) (show Int32.toInt x2_5 < 6 by omega)) (fun r_112 q_113 h_114 => ?_)
      replace h_114 : (TS q_113) ∧ (dFr [12] [22, 23, 24, 25] q_3 q_113) ∧ ((Int32.toInt r_112 = 0 ∨ Int32.toInt r_112 = 1)) := h_114
      obtain ⟨i_115, i_116, i_117⟩ := h_114
      have hFq_113 : dFk [2, 12, 13] [22, 23, 24, 25] q q_113 := hFq_3.tr i_116 (by decide) (by decide) (by decide)
      refine dOk_G (dg_ok (show 0 ≤ Int32.toInt x2_5 by omega) (show Int32.toInt x2_5 < ((6 : Nat) : Int) by omega)) ?_
      have n_118 : ((Int32.toNatClampNeg x2_5 : Nat) : Int) = Int32.toInt x2_5 := cl_eq (by omega)
      refine dOk_L (fun q_119 eq_119 => ?_)
      have hTq_119 : TS q_119 := by rw [eq_119]; exact ts_any i_115 rfl
      have hFq_119 : dFk [2, 12, 13] [22, 23, 24, 25] q q_119 := by rw [eq_119]; exact hFq_113.i (by decide) (by decide) (by decide)
      try have t_120 : Int32.toInt (x2_5 + 1) = Int32.toInt x2_5 + 1 := ti_add rfl (by decide) (by omega) (by omega)
      exact hk_1 (q_119, 0, (x2_5 + 1)) (show (TS q_119) ∧ (dFk [12, 13] [22, 23, 24, 25] q q_119) ∧ (0 = 0) ∧ (0 ≤ Int32.toInt (x2_5 + 1)) ∧ (Int32.toInt (x2_5 + 1) ≤ 6) from ⟨hTq_119, (by rw [eq_119]; exact (((((dFk.rf : dFk [12, 13] [22, 23, 24, 25] q q).t a_7 (by decide) (by decide)) : dFk [12, 13] [22, 23, 24, 25] q q_3).tr i_116 (by decide) (by decide) (by decide)) : dFk [12, 13] [22, 23, 24, 25] q q_113).i (by decide) (by decide) (by decide)), rfl, by omega, by omega⟩) (show (6 - Int32.toInt (x2_5 + 1)).toNat < (6 - Int32.toInt x2_5).toNat by omega)
  · exact (show (TS q) ∧ (dFk [12, 13] [22, 23, 24, 25] q q) ∧ (0 = 0) ∧ (0 ≤ (0 : Int)) ∧ ((0 : Int) ≤ 6) from ⟨hT, dFk.rf, rfl, by omega, by omega⟩)
  · show (6 - (0 : Int)).toNat < 1000000000000
    omega
