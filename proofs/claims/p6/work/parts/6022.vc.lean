set_option maxHeartbeats 4000000 in
set_option maxRecDepth 100000 in
theorem ok_X8_passYear_s2_s20 (q : dK) (hT : TC q) : dOk (zX8_passYear_s2_s20 q) (fun (o : Int32 × dK) => (TC o.2) ∧ (cFr [4, 19, 21] [(2, 4), (18, 1)] q o.2) ∧ (-3 ≤ Int32.toInt o.1 ∧ Int32.toInt o.1 ≤ 63)) := by
  unfold zX8_passYear_s2_s20
  have f_1 : 0 ≤ Int32.toInt (q.1 2 4) ∧ Int32.toInt (q.1 2 4) ≤ 1023 := rg_2_4 hT
  refine dOk_lt (A := Int32.toInt (q.1 2 4)) (B := 999) rfl (by decide) (fun c_2 => ?_) (fun c_3 => ?_)
  · unfold zX8_passYear_s2_s20_17
    refine dFix_ok (fun (a : dK × Int32 × Int32) => (TC a.1) ∧ (cFr [19, 21] [(18, 1)] q a.1) ∧ (0 ≤ Int32.toInt a.2.2) ∧ (Int32.toInt a.2.2 ≤ 6) ∧ (Int32.toInt (a.1.1 2 4) < 999)) (fun (a : dK × Int32 × Int32) => (6 - Int32.toInt a.2.2).toNat) ?_ _ ?_ _ (dF_gt ?_)
    · intro a ha k_5 hk_4
      obtain ⟨q_6, x2_7, x3_8⟩ := a
      replace ha : (TC q_6) ∧ (cFr [19, 21] [(18, 1)] q q_6) ∧ (0 ≤ Int32.toInt x3_8) ∧ (Int32.toInt x3_8 ≤ 6) ∧ (Int32.toInt (q_6.1 2 4) < 999) := ha
      obtain ⟨a_9, a_10, a_11, a_12, a_13⟩ := ha
      show dOk (zX8_passYear_s2_s20_17b  (fun q x2 x3 => k_5 (q, x2, x3)) q_6 x2_7 x3_8) _
      unfold zX8_passYear_s2_s20_17b
      have hFq_6 : cFr [4, 19, 21] [(2, 4), (18, 1)] q q_6 := (cFr.rf (q := q)).t a_10 (by decide) (by decide)
      have f_14 : 0 ≤ Int32.toInt (q_6.1 2 4) ∧ Int32.toInt (q_6.1 2 4) ≤ 1023 := rg_2_4 a_9
      have w_15 : Int32.toInt (q_6.1 2 4) = Int32.toInt (q.1 2 4) := by rw [a_10.1 2 4 (by decide) (by decide)]
      have f_16 : 0 ≤ Int32.toInt (q_6.1 2 2) ∧ Int32.toInt (q_6.1 2 2) ≤ 6 := rg_2_2 a_9
      have f_17 : 0 ≤ Int32.toInt (q.1 2 2) ∧ Int32.toInt (q.1 2 2) ≤ 6 := rg_2_2 hT
      have w_18 : Int32.toInt (q_6.1 2 2) = Int32.toInt (q.1 2 2) := by rw [a_10.1 2 2 (by decide) (by decide)]
      refine dOk_le (A := Int32.toInt (q_6.1 2 2)) (B := Int32.toInt x3_8) rfl rfl (fun c_19 => ?_) (fun c_20 => ?_)
      · unfold zX8_passYear_s2_s20_47
        refine dFix_ok (fun (a : dK × Int32 × Int32) => (TC a.1) ∧ (cFr [4] [] q_6 a.1) ∧ (a.2.1 = x2_7) ∧ (0 ≤ Int32.toInt a.2.2) ∧ (Int32.toInt a.2.2 ≤ 6) ∧ (Int32.toInt (a.1.1 2 4) < 999)) (fun (a : dK × Int32 × Int32) => (6 - Int32.toInt a.2.2).toNat) ?_ _ ?_ _ (dF_gt ?_)
        · intro a ha k_22 hk_21
          obtain ⟨q_23, x2_24, x3_25⟩ := a
          replace ha : (TC q_23) ∧ (cFr [4] [] q_6 q_23) ∧ (x2_24 = x2_7) ∧ (0 ≤ Int32.toInt x3_25) ∧ (Int32.toInt x3_25 ≤ 6) ∧ (Int32.toInt (q_23.1 2 4) < 999) := ha
          obtain ⟨a_26, a_27, a_28, a_29, a_30, a_31⟩ := ha
          show dOk (zX8_passYear_s2_s20_47b  (fun q x2 x3 => k_22 (q, x2, x3)) q_23 x2_24 x3_25) _
          unfold zX8_passYear_s2_s20_47b
          have hFq_23 : cFr [4, 19, 21] [(2, 4), (18, 1)] q q_23 := hFq_6.t a_27 (by decide) (by decide)
          subst x2_24
          have f_32 : 0 ≤ Int32.toInt (q_23.1 2 4) ∧ Int32.toInt (q_23.1 2 4) ≤ 1023 := rg_2_4 a_26
          have w_33 : Int32.toInt (q_23.1 2 4) = Int32.toInt (q_6.1 2 4) := by rw [a_27.1 2 4 (by decide) (by decide)]
          have f_34 : 0 ≤ Int32.toInt (q_23.1 2 2) ∧ Int32.toInt (q_23.1 2 2) ≤ 6 := rg_2_2 a_26
          have w_35 : Int32.toInt (q_23.1 2 2) = Int32.toInt (q_6.1 2 2) := by rw [a_27.1 2 2 (by decide) (by decide)]
          refine dOk_le (A := Int32.toInt (q_23.1 2 2)) (B := Int32.toInt x3_25) rfl rfl (fun c_36 => ?_) (fun c_37 => ?_)
          · refine dOk_L (fun q_38 eq_38 => ?_)
            try have t_39 : Int32.toInt (q_23.1 2 4 + 1) = Int32.toInt (q_23.1 2 4) + 1 := ti_add rfl (by decide) (by omega) (by omega)
            have hTq_38 : TC q_38 := by rw [eq_38]; exact st_2_4 a_26 (show (0 : Int) ≤ Int32.toInt (q_23.1 2 4 + 1) by omega) (show Int32.toInt (q_23.1 2 4 + 1) ≤ (1023 : Int) by omega)
            have hFq_38 : cFr [4, 19, 21] [(2, 4), (18, 1)] q q_38 := by rw [eq_38]; exact hFq_23.f (by decide)
            refine dOk_V (ok_J6_bitCount_0f7a4 x2_7) (fun r_40 h_41 => ?_)
            replace h_41 : (0 ≤ Int32.toInt r_40 ∧ Int32.toInt r_40 ≤ 63) := h_41
            have i_42 := h_41
            exact dOk_some (show (TC q_38) ∧ (cFr [4, 19, 21] [(2, 4), (18, 1)] q q_38) ∧ (-3 ≤ Int32.toInt r_40 ∧ Int32.toInt r_40 ≤ 63) from ⟨hTq_38, hFq_38, by omega⟩)
          · refine dOk_G (dg_ok (show 0 ≤ Int32.toInt x3_25 by omega) (show Int32.toInt x3_25 < ((6 : Nat) : Int) by omega)) ?_
            have n_43 : ((Int32.toNatClampNeg x3_25 : Nat) : Int) = Int32.toInt x3_25 := cl_eq (by omega)
            refine dOk_L (fun v_44 ev_44 => ?_)
            have f_45 : 0 ≤ Int32.toInt v_44 ∧ Int32.toInt v_44 ≤ 1 := by rw [ev_44]; exact rg_4 a_26 _
            refine dOk_G (dg_ok (show 0 ≤ Int32.toInt x3_25 by omega) (show Int32.toInt x3_25 < ((6 : Nat) : Int) by omega)) ?_
            refine dOk_L (fun q_46 eq_46 => ?_)
            try have t_47 := ti_shr (x := x2_7) (s := x3_25) (by omega)
            have t_48 := ti_and1 (x2_7 >>> ((x3_25 : Int32) &&& 31))
            try have t_49 := ti_xor1 (x := v_44) (y := x2_7 >>> ((x3_25 : Int32) &&& 31) &&& 1) (by omega) (by omega) (by omega) (by omega)
            have hTq_46 : TC q_46 := by rw [eq_46]; exact st_4 a_26 (show (0 : Int) ≤ Int32.toInt (v_44 ^^^ x2_7 >>> ((x3_25 : Int32) &&& 31) &&& 1) by omega) (show Int32.toInt (v_44 ^^^ x2_7 >>> ((x3_25 : Int32) &&& 31) &&& 1) ≤ (1 : Int) by omega)
            have hFq_46 : cFr [4, 19, 21] [(2, 4), (18, 1)] q q_46 := by rw [eq_46]; exact hFq_23.i (by decide)
            try have t_50 : Int32.toInt (x3_25 + 1) = Int32.toInt x3_25 + 1 := ti_add rfl (by decide) (by omega) (by omega)
            have f_51 : 0 ≤ Int32.toInt (q_46.1 2 4) ∧ Int32.toInt (q_46.1 2 4) ≤ 1023 := rg_2_4 hTq_46
            try have w_52 : Int32.toInt (q_46.1 2 4) = Int32.toInt (q_23.1 2 4) := by rw [eq_46, cui_o (by decide)]
            exact hk_21 (q_46, x2_7, (x3_25 + 1)) (show (TC q_46) ∧ (cFr [4] [] q_6 q_46) ∧ (x2_7 = x2_7) ∧ (0 ≤ Int32.toInt (x3_25 + 1)) ∧ (Int32.toInt (x3_25 + 1) ≤ 6) ∧ (Int32.toInt (q_46.1 2 4) < 999) from ⟨hTq_46, (by rw [eq_46]; exact (((cFr.rf : cFr [4] [] q_6 q_6).t a_27 (by decide) (by decide)) : cFr [4] [] q_6 q_23).i (by decide)), rfl, by omega, by omega, by omega⟩) (show (6 - Int32.toInt (x3_25 + 1)).toNat < (6 - Int32.toInt x3_25).toNat by omega)
        · exact (show (TC q_6) ∧ (cFr [4] [] q_6 q_6) ∧ (x2_7 = x2_7) ∧ (0 ≤ (0 : Int)) ∧ ((0 : Int) ≤ 6) ∧ (Int32.toInt (q_6.1 2 4) < 999) from ⟨a_9, cFr.rf, rfl, by omega, by omega, by omega⟩)
        · show (6 - (0 : Int)).toNat < 1000000000000
          omega
      · refine dOk_B (ok_X1_tips_s20_s2 q_6 x3_8 a_9) (fun r_53 q_54 h_55 => ?_)
        replace h_55 : (TC q_54) ∧ (cFr [19, 21] [(18, 1)] q_6 q_54) ∧ ((Int32.toInt r_53 = 0 ∨ Int32.toInt r_53 = 1)) := h_55
        obtain ⟨i_56, i_57, i_58⟩ := h_55
        have hFq_54 : cFr [4, 19, 21] [(2, 4), (18, 1)] q q_54 := hFq_6.t i_57 (by decide) (by decide)
        refine dOk_V (ok_X9_bit r_53) (fun r_59 h_60 => ?_)
        replace h_60 : ((Int32.toInt r_59 = 0 ∨ Int32.toInt r_59 = 1)) := h_60
        have i_61 := h_60
        try have t_62 := ti_shl5 (x := r_59) (s := x3_8) (by omega) (by omega) (by omega) (by omega)
        try have t_63 := ti_shl6 (x := r_59) (s := x3_8) (by omega) (by omega) (by omega) (by omega)
        try have t_64 := ti_or (x := x2_7) (y := r_59 <<< ((x3_8 : Int32) &&& 31)) 6 (by decide) (by omega) (by omega) (by omega) (by omega)
        try have t_65 : Int32.toInt (x3_8 + 1) = Int32.toInt x3_8 + 1 := ti_add rfl (by decide) (by omega) (by omega)
        have f_66 : 0 ≤ Int32.toInt (q_54.1 2 4) ∧ Int32.toInt (q_54.1 2 4) ≤ 1023 := rg_2_4 i_56
        have w_67 : Int32.toInt (q_54.1 2 4) = Int32.toInt (q_6.1 2 4) := by rw [i_57.1 2 4 (by decide) (by decide)]
        exact hk_4 (q_54, (x2_7 ||| r_59 <<< ((x3_8 : Int32) &&& 31)), (x3_8 + 1)) (show (TC q_54) ∧ (cFr [19, 21] [(18, 1)] q q_54) ∧ (0 ≤ Int32.toInt (x3_8 + 1)) ∧ (Int32.toInt (x3_8 + 1) ≤ 6) ∧ (Int32.toInt (q_54.1 2 4) < 999) from ⟨i_56, ((((cFr.rf : cFr [19, 21] [(18, 1)] q q).t a_10 (by decide) (by decide)) : cFr [19, 21] [(18, 1)] q q_6).t i_57 (by decide) (by decide)), by omega, by omega, by omega⟩) (show (6 - Int32.toInt (x3_8 + 1)).toNat < (6 - Int32.toInt x3_8).toNat by omega)
    · exact (show (TC q) ∧ (cFr [19, 21] [(18, 1)] q q) ∧ (0 ≤ (0 : Int)) ∧ ((0 : Int) ≤ 6) ∧ (Int32.toInt (q.1 2 4) < 999) from ⟨hT, cFr.rf, by omega, by omega, by omega⟩)
    · show (6 - (0 : Int)).toNat < 1000000000000
      omega
  · exact dOk_some (show (TC q) ∧ (cFr [4, 19, 21] [(2, 4), (18, 1)] q q) ∧ (-3 ≤ (-3 : Int) ∧ (-3 : Int) ≤ 63) from ⟨hT, (cFr.rf (q := q)), by omega⟩)

set_option maxHeartbeats 4000000 in
set_option maxRecDepth 100000 in
theorem ok_X8_act_s2_s20 (q : dK) (p1 : Int32) (p2 : Int32) (hT : TC q) : dOk (zX8_act_s2_s20 q p1 p2) (fun (o : Int32 × dK) => (TC o.2) ∧ (cFr [3, 4, 19, 21] [(2, 3), (2, 4), (18, 1)] q o.2) ∧ (-3 ≤ Int32.toInt o.1 ∧ Int32.toInt o.1 ≤ 99)) := by
  unfold zX8_act_s2_s20
  refine dOk_eq (A := Int32.toInt p1) (B := 0) rfl (by decide) (fun c_1z c_1 => ?_) (fun c_2z c_2 => ?_)
  · refine dOk_B (ok_X8_turnTop_s2_s20 q p2 hT) (fun r_4 q_5 h_6 => ?_)
    replace h_6 : (TC q_5) ∧ (cFr [3, 4, 19, 21] [(2, 3), (18, 1)] q q_5) ∧ (-3 ≤ Int32.toInt r_4 ∧ Int32.toInt r_4 ≤ 99) := h_6
    obtain ⟨i_7, i_8, i_9⟩ := h_6
    have hFq_5 : cFr [3, 4, 19, 21] [(2, 3), (2, 4), (18, 1)] q q_5 := (cFr.rf (q := q)).t i_8 (by decide) (by decide)
    exact dOk_some (show (TC q_5) ∧ (cFr [3, 4, 19, 21] [(2, 3), (2, 4), (18, 1)] q q_5) ∧ (-3 ≤ Int32.toInt r_4 ∧ Int32.toInt r_4 ≤ 99) from ⟨i_7, hFq_5, by omega⟩)
  · refine dOk_eq (A := Int32.toInt p1) (B := 1) rfl (by decide) (fun c_10z c_10 => ?_) (fun c_11z c_11 => ?_)
    · refine dOk_B (ok_X8_rightAt_s2 q p2 hT) (fun r_13 q_14 h_15 => ?_)
      replace h_15 : (TC q_14) ∧ (cFr [4] [] q q_14) ∧ (-3 ≤ Int32.toInt r_13 ∧ Int32.toInt r_13 ≤ 1) := h_15
      obtain ⟨i_16, i_17, i_18⟩ := h_15
      have hFq_14 : cFr [3, 4, 19, 21] [(2, 3), (2, 4), (18, 1)] q q_14 := (cFr.rf (q := q)).t i_17 (by decide) (by decide)
      exact dOk_some (show (TC q_14) ∧ (cFr [3, 4, 19, 21] [(2, 3), (2, 4), (18, 1)] q q_14) ∧ (-3 ≤ Int32.toInt r_13 ∧ Int32.toInt r_13 ≤ 99) from ⟨i_16, hFq_14, by omega⟩)
    · refine dOk_eq (A := Int32.toInt p1) (B := 2) rfl (by decide) (fun c_19z c_19 => ?_) (fun c_20z c_20 => ?_)
      · refine dOk_B (ok_X8_swapAt_s2 q p2 hT) (fun r_22 q_23 h_24 => ?_)
        replace h_24 : (TC q_23) ∧ (cFr [3, 4] [] q q_23) ∧ (-3 ≤ Int32.toInt r_22 ∧ Int32.toInt r_22 ≤ 7) := h_24
        obtain ⟨i_25, i_26, i_27⟩ := h_24
        have hFq_23 : cFr [3, 4, 19, 21] [(2, 3), (2, 4), (18, 1)] q q_23 := (cFr.rf (q := q)).t i_26 (by decide) (by decide)
        exact dOk_some (show (TC q_23) ∧ (cFr [3, 4, 19, 21] [(2, 3), (2, 4), (18, 1)] q q_23) ∧ (-3 ≤ Int32.toInt r_22 ∧ Int32.toInt r_22 ≤ 99) from ⟨i_25, hFq_23, by omega⟩)
      · refine dOk_eq (A := Int32.toInt p1) (B := 3) rfl (by decide) (fun c_28z c_28 => ?_) (fun c_29z c_29 => ?_)
        · refine dOk_B (ok_X8_passYear_s2_s20 q hT) (fun r_31 q_32 h_33 => ?_)
          replace h_33 : (TC q_32) ∧ (cFr [4, 19, 21] [(2, 4), (18, 1)] q q_32) ∧ (-3 ≤ Int32.toInt r_31 ∧ Int32.toInt r_31 ≤ 63) := h_33
          obtain ⟨i_34, i_35, i_36⟩ := h_33
          have hFq_32 : cFr [3, 4, 19, 21] [(2, 3), (2, 4), (18, 1)] q q_32 := (cFr.rf (q := q)).t i_35 (by decide) (by decide)
          exact dOk_some (show (TC q_32) ∧ (cFr [3, 4, 19, 21] [(2, 3), (2, 4), (18, 1)] q q_32) ∧ (-3 ≤ Int32.toInt r_31 ∧ Int32.toInt r_31 ≤ 99) from ⟨i_34, hFq_32, by omega⟩)
        · exact dOk_some (show (TC q) ∧ (cFr [3, 4, 19, 21] [(2, 3), (2, 4), (18, 1)] q q) ∧ (-3 ≤ (-3 : Int) ∧ (-3 : Int) ≤ 99) from ⟨hT, (cFr.rf (q := q)), by omega⟩)

set_option maxHeartbeats 4000000 in
set_option maxRecDepth 100000 in
theorem ok_X1_bars_s20_s15 (q : dK) (p2 : Int32) (hT : TC q) : dOk (zX1_bars_s20_s15 q p2) (fun (o : Int32 × dK) => (TC o.2) ∧ (cFr [19, 21] [(18, 1)] q o.2) ∧ ((Int32.toInt o.1 = 0 ∨ Int32.toInt o.1 = 1))) := by
  unfold zX1_bars_s20_s15
  refine dOk_V (ok_X1_setTurn_s20_s15 q p2 hT) (fun q_1 h_2 => ?_)
  replace h_2 : (TC q_1) ∧ (cFr [21] [] q q_1) ∧ (Int32.toInt (q_1.1 21 0) = Int32.toInt p2) := h_2
  obtain ⟨i_3, i_4, i_5⟩ := h_2
  have hFq_1 : cFr [19, 21] [(18, 1)] q q_1 := (cFr.rf (q := q)).t i_4 (by decide) (by decide)
  refine dOk_B (ok_X1_anyHolds_s20 q_1 1 i_3) (fun r_6 q_7 h_8 => ?_)
  replace h_8 : (TC q_7) ∧ (cFr [19] [(18, 1)] q_1 q_7) ∧ ((Int32.toInt r_6 = 0 ∨ Int32.toInt r_6 = 1)) := h_8
  obtain ⟨i_9, i_10, i_11⟩ := h_8
  have hFq_7 : cFr [19, 21] [(18, 1)] q q_7 := hFq_1.t i_10 (by decide) (by decide)
  refine dOk_G (dbl_ok (show Int32.toInt r_6 = 0 ∨ Int32.toInt r_6 = 1 by omega)) ?_
  exact dOk_some (show (TC q_7) ∧ (cFr [19, 21] [(18, 1)] q q_7) ∧ ((Int32.toInt r_6 = 0 ∨ Int32.toInt r_6 = 1)) from ⟨i_9, hFq_7, by omega⟩)

set_option maxHeartbeats 4000000 in
set_option maxRecDepth 100000 in
theorem ok_X1_payOf_s20_s15 (q : dK) (p2 : Int32) (hT : TC q) (hp0 : 0 ≤ Int32.toInt p2 ∧ Int32.toInt p2 ≤ 99) : dOk (zX1_payOf_s20_s15 q p2) (fun (o : Int32 × dK) => (TC o.2) ∧ (cFr [19, 21] [(18, 1)] q o.2) ∧ (0 ≤ Int32.toInt o.1 ∧ Int32.toInt o.1 ≤ 99)) := by
  unfold zX1_payOf_s20_s15
  refine dOk_V (ok_X1_setTurn_s20_s15 q p2 hT) (fun q_1 h_2 => ?_)
  replace h_2 : (TC q_1) ∧ (cFr [21] [] q q_1) ∧ (Int32.toInt (q_1.1 21 0) = Int32.toInt p2) := h_2
  obtain ⟨i_3, i_4, i_5⟩ := h_2
  have hFq_1 : cFr [19, 21] [(18, 1)] q q_1 := (cFr.rf (q := q)).t i_4 (by decide) (by decide)
  refine dOk_B (ok_X1_pay_s20 q_1 i_3 (show 0 ≤ Int32.toInt (q_1.1 21 0) by omega) (show Int32.toInt (q_1.1 21 0) ≤ 99 by omega)) (fun r_6 q_7 h_8 => ?_)
  replace h_8 : (TC q_7) ∧ (cFr [19] [(18, 1)] q_1 q_7) ∧ (0 ≤ Int32.toInt r_6 ∧ Int32.toInt r_6 ≤ 99) := h_8
  obtain ⟨i_9, i_10, i_11⟩ := h_8
  have hFq_7 : cFr [19, 21] [(18, 1)] q q_7 := hFq_1.t i_10 (by decide) (by decide)
  exact dOk_some (show (TC q_7) ∧ (cFr [19, 21] [(18, 1)] q q_7) ∧ (0 ≤ Int32.toInt r_6 ∧ Int32.toInt r_6 ≤ 99) from ⟨i_9, hFq_7, by omega⟩)

set_option maxHeartbeats 4000000 in
set_option maxRecDepth 100000 in
theorem ok_X1_tips_s20_s15 (q : dK) (p2 : Int32) (hT : TC q) : dOk (zX1_tips_s20_s15 q p2) (fun (o : Int32 × dK) => (TC o.2) ∧ (cFr [19, 21] [(18, 1)] q o.2) ∧ ((Int32.toInt o.1 = 0 ∨ Int32.toInt o.1 = 1))) := by
  unfold zX1_tips_s20_s15
  refine dOk_B (ok_X8_isFloor_s15 q p2 hT) (fun r_1 q_2 h_3 => ?_)
  replace h_3 : (q_2 = q) ∧ ((Int32.toInt r_1 = 1 ∧ 0 ≤ Int32.toInt p2 ∧ Int32.toInt p2 < Int32.toInt (q.1 15 2)) ∨ (Int32.toInt r_1 = 0 ∧ (Int32.toInt p2 < 0 ∨ Int32.toInt (q.1 15 2) ≤ Int32.toInt p2))) := h_3
  obtain ⟨i_4, i_5⟩ := h_3
  subst q_2
  have f_6 : 0 ≤ Int32.toInt (q.1 15 2) ∧ Int32.toInt (q.1 15 2) ≤ 6 := rg_15_2 hT
  refine dOk_eq (A := Int32.toInt r_1) (B := 0) rfl (by decide) (fun c_7z c_7 => ?_) (fun c_8z c_8 => ?_)
  · exact dOk_some (show (TC q) ∧ (cFr [19, 21] [(18, 1)] q q) ∧ (((0 : Int) = 0 ∨ (0 : Int) = 1)) from ⟨hT, (cFr.rf (q := q)), by omega⟩)
  · have f_10 : 0 ≤ Int32.toInt (q.1 15 4) ∧ Int32.toInt (q.1 15 4) ≤ 1023 := rg_15_4 hT
    refine dOk_V (ok_X1_setCommon_s20 q (q.1 15 2) (q.1 15 4) hT) (fun q_11 h_12 => ?_)
    replace h_12 : (TC q_11) ∧ (cFr [21] [] q q_11) := h_12
    obtain ⟨i_13, i_14⟩ := h_12
    have hFq_11 : cFr [19, 21] [(18, 1)] q q_11 := (cFr.rf (q := q)).t i_14 (by decide) (by decide)
    refine dOk_L (fun q_15 eq_15 => ?_)
    have hTq_15 : TC q_15 := by rw [eq_15]; exact sa_21 i_13
    have hFq_15 : cFr [19, 21] [(18, 1)] q q_15 := by rw [eq_15]; exact hFq_11.i (by decide)
    refine dOk_L (fun q_16 eq_16 => ?_)
    have hTq_16 : TC q_16 := by rw [eq_16]; exact sa_21 hTq_15
    have hFq_16 : cFr [19, 21] [(18, 1)] q q_16 := by rw [eq_16]; exact hFq_15.i (by decide)
    refine dOk_L (fun q_17 eq_17 => ?_)
    have hTq_17 : TC q_17 := by rw [eq_17]; exact sa_21 hTq_16
    have hFq_17 : cFr [19, 21] [(18, 1)] q q_17 := by rw [eq_17]; exact hFq_16.i (by decide)
    refine dOk_G (dg_ok (show 0 ≤ Int32.toInt p2 by omega) (show Int32.toInt p2 < ((6 : Nat) : Int) by omega)) ?_
    have n_18 : ((Int32.toNatClampNeg p2 : Nat) : Int) = Int32.toInt p2 := cl_eq (by omega)
    refine dOk_L (fun v_19 ev_19 => ?_)
    have f_20 : 0 ≤ Int32.toInt v_19 ∧ Int32.toInt v_19 ≤ 1 := by rw [ev_19]; exact rg_17 hTq_17 _
    refine dOk_L (fun q_21 eq_21 => ?_)
    have hTq_21 : TC q_21 := by rw [eq_21]; exact sa_21 hTq_17
    have hFq_21 : cFr [19, 21] [(18, 1)] q q_21 := by rw [eq_21]; exact hFq_17.i (by decide)
    refine dOk_G (dg_ok (show 0 ≤ Int32.toInt p2 by omega) (show Int32.toInt p2 < ((6 : Nat) : Int) by omega)) ?_
    refine dOk_L (fun v_22 ev_22 => ?_)
    have f_23 : 0 ≤ Int32.toInt v_22 ∧ Int32.toInt v_22 ≤ 7 := by rw [ev_22]; exact rg_16 hTq_21 _
    refine dOk_L (fun q_24 eq_24 => ?_)
    have hTq_24 : TC q_24 := by rw [eq_24]; exact sa_21 hTq_21
    have hFq_24 : cFr [19, 21] [(18, 1)] q q_24 := by rw [eq_24]; exact hFq_21.i (by decide)
    refine dOk_L (fun q_25 eq_25 => ?_)
    have hTq_25 : TC q_25 := by rw [eq_25]; exact sa_21 hTq_24
    have hFq_25 : cFr [19, 21] [(18, 1)] q q_25 := by rw [eq_25]; exact hFq_24.i (by decide)
    refine dOk_B (ok_X1_anyHolds_s20 q_25 2 hTq_25) (fun r_26 q_27 h_28 => ?_)
    replace h_28 : (TC q_27) ∧ (cFr [19] [(18, 1)] q_25 q_27) ∧ ((Int32.toInt r_26 = 0 ∨ Int32.toInt r_26 = 1)) := h_28
    obtain ⟨i_29, i_30, i_31⟩ := h_28
    have hFq_27 : cFr [19, 21] [(18, 1)] q q_27 := hFq_25.t i_30 (by decide) (by decide)
    refine dOk_G (dbl_ok (show Int32.toInt r_26 = 0 ∨ Int32.toInt r_26 = 1 by omega)) ?_
    exact dOk_some (show (TC q_27) ∧ (cFr [19, 21] [(18, 1)] q q_27) ∧ ((Int32.toInt r_26 = 0 ∨ Int32.toInt r_26 = 1)) from ⟨i_29, hFq_27, by omega⟩)

set_option maxHeartbeats 4000000 in
set_option maxRecDepth 100000 in
theorem ok_X8_turnTop_s15_s20 (q : dK) (p1 : Int32) (hT : TC q) : dOk (zX8_turnTop_s15_s20 q p1) (fun (o : Int32 × dK) => (TC o.2) ∧ (cFr [16, 17, 19, 21] [(15, 3), (18, 1)] q o.2) ∧ (-3 ≤ Int32.toInt o.1 ∧ Int32.toInt o.1 ≤ 99)) := by
  unfold zX8_turnTop_s15_s20
  refine dOk_lt (A := Int32.toInt p1) (B := 1) rfl (by decide) (fun c_1 => ?_) (fun c_2 => ?_)
  · unfold zX8_turnTop_s15_s20_11
    exact dOk_some (show (TC q) ∧ (cFr [16, 17, 19, 21] [(15, 3), (18, 1)] q q) ∧ (-3 ≤ (-1 : Int) ∧ (-1 : Int) ≤ 99) from ⟨hT, (cFr.rf (q := q)), by omega⟩)
  · refine dOk_le (A := Int32.toInt p1) (B := 6) rfl (by decide) (fun c_3 => ?_) (fun c_4 => ?_)
    · have f_5 : 0 ≤ Int32.toInt (q.1 15 2) ∧ Int32.toInt (q.1 15 2) ≤ 6 := rg_15_2 hT
      refine dOk_lt (A := Int32.toInt (q.1 15 2)) (B := Int32.toInt p1) rfl rfl (fun c_6 => ?_) (fun c_7 => ?_)
      · unfold zX8_turnTop_s15_s20_30
        exact dOk_some (show (TC q) ∧ (cFr [16, 17, 19, 21] [(15, 3), (18, 1)] q q) ∧ (-3 ≤ (-3 : Int) ∧ (-3 : Int) ≤ 99) from ⟨hT, (cFr.rf (q := q)), by omega⟩)
      · refine dOk_B (ok_X1_bars_s20_s15 q p1 hT) (fun r_8 q_9 h_10 => ?_)
        replace h_10 : (TC q_9) ∧ (cFr [19, 21] [(18, 1)] q q_9) ∧ ((Int32.toInt r_8 = 0 ∨ Int32.toInt r_8 = 1)) := h_10
        obtain ⟨i_11, i_12, i_13⟩ := h_10
        have hFq_9 : cFr [16, 17, 19, 21] [(15, 3), (18, 1)] q q_9 := (cFr.rf (q := q)).t i_12 (by decide) (by decide)
        refine dOk_eq (A := Int32.toInt r_8) (B := 0) rfl (by decide) (fun c_14z c_14 => ?_) (fun c_15z c_15 => ?_)
        · refine dOk_B (ok_X1_payOf_s20_s15 q_9 p1 i_11 (show 0 ≤ Int32.toInt p1 ∧ Int32.toInt p1 ≤ 99 by omega)) (fun r_17 q_18 h_19 => ?_)
          replace h_19 : (TC q_18) ∧ (cFr [19, 21] [(18, 1)] q_9 q_18) ∧ (0 ≤ Int32.toInt r_17 ∧ Int32.toInt r_17 ≤ 99) := h_19
          obtain ⟨i_20, i_21, i_22⟩ := h_19
          have hFq_18 : cFr [16, 17, 19, 21] [(15, 3), (18, 1)] q q_18 := hFq_9.t i_21 (by decide) (by decide)
          unfold zX8_turnTop_s15_s20_48
          refine dFix_ok (fun (a : dK × Int32 × Int32 × Int32 × Int32) => (TC a.1) ∧ (cFr [16, 17] [] q_18 a.1) ∧ (a.2.1 = p1) ∧ (a.2.2.1 = r_17) ∧ (0 ≤ Int32.toInt a.2.2.2.1) ∧ (Int32.toInt a.2.2.2.1 ≤ 6) ∧ (-1 ≤ Int32.toInt a.2.2.2.2) ∧ (Int32.toInt a.2.2.2.2 ≤ 5)) (fun (a : dK × Int32 × Int32 × Int32 × Int32) => (Int32.toInt a.2.2.2.2 - Int32.toInt a.2.2.2.1 + 8).toNat) ?_ _ ?_ _ (dF_gt ?_)
          · intro a ha k_24 hk_23
            obtain ⟨q_25, x1_26, x3_27, x4_28, x5_29⟩ := a
            replace ha : (TC q_25) ∧ (cFr [16, 17] [] q_18 q_25) ∧ (x1_26 = p1) ∧ (x3_27 = r_17) ∧ (0 ≤ Int32.toInt x4_28) ∧ (Int32.toInt x4_28 ≤ 6) ∧ (-1 ≤ Int32.toInt x5_29) ∧ (Int32.toInt x5_29 ≤ 5) := ha
            obtain ⟨a_30, a_31, a_32, a_33, a_34, a_35, a_36, a_37⟩ := ha
            show dOk (zX8_turnTop_s15_s20_48b  (fun q x1 x3 x4 x5 => k_24 (q, x1, x3, x4, x5)) q_25 x1_26 x3_27 x4_28 x5_29) _
            unfold zX8_turnTop_s15_s20_48b
            have hFq_25 : cFr [16, 17, 19, 21] [(15, 3), (18, 1)] q q_25 := hFq_18.t a_31 (by decide) (by decide)
            subst x1_26
            subst x3_27
            refine dOk_le (A := Int32.toInt x5_29) (B := Int32.toInt x4_28) rfl rfl (fun c_38 => ?_) (fun c_39 => ?_)
            · unfold zX8_turnTop_s15_s20_75
              refine dFix_ok (fun (a : dK × Int32 × Int32 × Int32) => (TC a.1) ∧ (cFr [17] [] q_25 a.1) ∧ (a.2.1 = p1) ∧ (a.2.2.1 = r_17) ∧ (0 ≤ Int32.toInt a.2.2.2) ∧ (Int32.toInt a.2.2.2 ≤ 6)) (fun (a : dK × Int32 × Int32 × Int32) => (6 - Int32.toInt a.2.2.2).toNat) ?_ _ ?_ _ (dF_gt ?_)
              · intro a ha k_41 hk_40
                obtain ⟨q_42, x1_43, x3_44, x4_45⟩ := a
                replace ha : (TC q_42) ∧ (cFr [17] [] q_25 q_42) ∧ (x1_43 = p1) ∧ (x3_44 = r_17) ∧ (0 ≤ Int32.toInt x4_45) ∧ (Int32.toInt x4_45 ≤ 6) := ha
                obtain ⟨a_46, a_47, a_48, a_49, a_50, a_51⟩ := ha
                show dOk (zX8_turnTop_s15_s20_75b  (fun q x1 x3 x4 => k_41 (q, x1, x3, x4)) q_42 x1_43 x3_44 x4_45) _
                unfold zX8_turnTop_s15_s20_75b
                have hFq_42 : cFr [16, 17, 19, 21] [(15, 3), (18, 1)] q q_42 := hFq_25.t a_47 (by decide) (by decide)
                subst x1_43
                subst x3_44
                refine dOk_le (A := Int32.toInt p1) (B := Int32.toInt x4_45) rfl rfl (fun c_52 => ?_) (fun c_53 => ?_)
                · refine dOk_L (fun q_54 eq_54 => ?_)
                  have f_55 : 0 ≤ Int32.toInt (q_42.1 15 3) ∧ Int32.toInt (q_42.1 15 3) ≤ 16383 := rg_15_3 a_46
                  have f_56 : 0 ≤ Int32.toInt (q_25.1 15 3) ∧ Int32.toInt (q_25.1 15 3) ≤ 16383 := rg_15_3 a_30
                  have f_57 : 0 ≤ Int32.toInt (q_18.1 15 3) ∧ Int32.toInt (q_18.1 15 3) ≤ 16383 := rg_15_3 i_20
                  have f_58 : 0 ≤ Int32.toInt (q_9.1 15 3) ∧ Int32.toInt (q_9.1 15 3) ≤ 16383 := rg_15_3 i_11
                  have f_59 : 0 ≤ Int32.toInt (q.1 15 3) ∧ Int32.toInt (q.1 15 3) ≤ 16383 := rg_15_3 hT
                  have w_60 : Int32.toInt (q_9.1 15 3) = Int32.toInt (q.1 15 3) := by rw [i_12.1 15 3 (by decide) (by decide)]
                  have w_61 : Int32.toInt (q_18.1 15 3) = Int32.toInt (q_9.1 15 3) := by rw [i_21.1 15 3 (by decide) (by decide)]
                  have w_62 : Int32.toInt (q_25.1 15 3) = Int32.toInt (q_18.1 15 3) := by rw [a_31.1 15 3 (by decide) (by decide)]
                  have w_63 : Int32.toInt (q_42.1 15 3) = Int32.toInt (q_25.1 15 3) := by rw [a_47.1 15 3 (by decide) (by decide)]
                  try have t_64 : Int32.toInt (q_42.1 15 3 + r_17) = Int32.toInt (q_42.1 15 3) + Int32.toInt r_17 := ti_add rfl rfl (by omega) (by omega)
                  have t_65 : Int32.toInt (mnI 9999 (q_42.1 15 3 + r_17)) ≤ 9999 ∧ Int32.toInt (mnI 9999 (q_42.1 15 3 + r_17)) ≤ Int32.toInt (q_42.1 15 3 + r_17) ∧ (Int32.toInt (mnI 9999 (q_42.1 15 3 + r_17)) = 9999 ∨ Int32.toInt (mnI 9999 (q_42.1 15 3 + r_17)) = Int32.toInt (q_42.1 15 3 + r_17)) := mn_k (by decide)
                  have hTq_54 : TC q_54 := by rw [eq_54]; exact st_15_3 a_46 (show (0 : Int) ≤ Int32.toInt (mnI 9999 (q_42.1 15 3 + r_17)) by omega) (show Int32.toInt (mnI 9999 (q_42.1 15 3 + r_17)) ≤ (16383 : Int) by omega)
                  have hFq_54 : cFr [16, 17, 19, 21] [(15, 3), (18, 1)] q q_54 := by rw [eq_54]; exact hFq_42.f (by decide)
                  exact dOk_some (show (TC q_54) ∧ (cFr [16, 17, 19, 21] [(15, 3), (18, 1)] q q_54) ∧ (-3 ≤ Int32.toInt r_17 ∧ Int32.toInt r_17 ≤ 99) from ⟨hTq_54, hFq_54, by omega⟩)
                · refine dOk_G (dg_ok (show 0 ≤ Int32.toInt x4_45 by omega) (show Int32.toInt x4_45 < ((6 : Nat) : Int) by omega)) ?_
                  have n_66 : ((Int32.toNatClampNeg x4_45 : Nat) : Int) = Int32.toInt x4_45 := cl_eq (by omega)
                  refine dOk_L (fun v_67 ev_67 => ?_)
                  have f_68 : 0 ≤ Int32.toInt v_67 ∧ Int32.toInt v_67 ≤ 1 := by rw [ev_67]; exact rg_17 a_46 _
                  refine dOk_G (dg_ok (show 0 ≤ Int32.toInt x4_45 by omega) (show Int32.toInt x4_45 < ((6 : Nat) : Int) by omega)) ?_
                  refine dOk_L (fun q_69 eq_69 => ?_)
                  try have t_70 : Int32.toInt (1 - v_67) = 1 - Int32.toInt v_67 := ti_sub (by decide) rfl (by omega) (by omega)
                  have hTq_69 : TC q_69 := by rw [eq_69]; exact st_17 a_46 (show (0 : Int) ≤ Int32.toInt (1 - v_67) by omega) (show Int32.toInt (1 - v_67) ≤ (1 : Int) by omega)
                  have hFq_69 : cFr [16, 17, 19, 21] [(15, 3), (18, 1)] q q_69 := by rw [eq_69]; exact hFq_42.i (by decide)
                  try have t_71 : Int32.toInt (x4_45 + 1) = Int32.toInt x4_45 + 1 := ti_add rfl (by decide) (by omega) (by omega)
                  exact hk_40 (q_69, p1, r_17, (x4_45 + 1)) (show (TC q_69) ∧ (cFr [17] [] q_25 q_69) ∧ (p1 = p1) ∧ (r_17 = r_17) ∧ (0 ≤ Int32.toInt (x4_45 + 1)) ∧ (Int32.toInt (x4_45 + 1) ≤ 6) from ⟨hTq_69, (by rw [eq_69]; exact (((cFr.rf : cFr [17] [] q_25 q_25).t a_47 (by decide) (by decide)) : cFr [17] [] q_25 q_42).i (by decide)), rfl, rfl, by omega, by omega⟩) (show (6 - Int32.toInt (x4_45 + 1)).toNat < (6 - Int32.toInt x4_45).toNat by omega)
              · exact (show (TC q_25) ∧ (cFr [17] [] q_25 q_25) ∧ (p1 = p1) ∧ (r_17 = r_17) ∧ (0 ≤ (0 : Int)) ∧ ((0 : Int) ≤ 6) from ⟨a_30, cFr.rf, rfl, rfl, by omega, by omega⟩)
              · show (6 - (0 : Int)).toNat < 1000000000000
                omega
            · refine dOk_V (ok_X8_exchange_s15 q_25 x4_28 x5_29 a_30 (show 0 ≤ Int32.toInt x4_28 ∧ Int32.toInt x4_28 ≤ 5 by omega) (show 0 ≤ Int32.toInt x5_29 ∧ Int32.toInt x5_29 ≤ 5 by omega)) (fun q_72 h_73 => ?_)
              replace h_73 : (TC q_72) ∧ (cFr [16, 17] [] q_25 q_72) := h_73
              obtain ⟨i_74, i_75⟩ := h_73
              have hFq_72 : cFr [16, 17, 19, 21] [(15, 3), (18, 1)] q q_72 := hFq_25.t i_75 (by decide) (by decide)
              try have t_76 : Int32.toInt (x4_28 + 1) = Int32.toInt x4_28 + 1 := ti_add rfl (by decide) (by omega) (by omega)
              try have t_77 : Int32.toInt (x5_29 + (-1)) = Int32.toInt x5_29 + (-1) := ti_add rfl (by decide) (by omega) (by omega)
              exact hk_23 (q_72, p1, r_17, (x4_28 + 1), (x5_29 + (-1))) (show (TC q_72) ∧ (cFr [16, 17] [] q_18 q_72) ∧ (p1 = p1) ∧ (r_17 = r_17) ∧ (0 ≤ Int32.toInt (x4_28 + 1)) ∧ (Int32.toInt (x4_28 + 1) ≤ 6) ∧ (-1 ≤ Int32.toInt (x5_29 + (-1))) ∧ (Int32.toInt (x5_29 + (-1)) ≤ 5) from ⟨i_74, ((((cFr.rf : cFr [16, 17] [] q_18 q_18).t a_31 (by decide) (by decide)) : cFr [16, 17] [] q_18 q_25).t i_75 (by decide) (by decide)), rfl, rfl, by omega, by omega, by omega, by omega⟩) (show (Int32.toInt (x5_29 + (-1)) - Int32.toInt (x4_28 + 1) + 8).toNat < (Int32.toInt x5_29 - Int32.toInt x4_28 + 8).toNat by omega)
          · try have t_78 : Int32.toInt (p1 - 1) = Int32.toInt p1 - 1 := ti_sub rfl (by decide) (by omega) (by omega)
            exact (show (TC q_18) ∧ (cFr [16, 17] [] q_18 q_18) ∧ (p1 = p1) ∧ (r_17 = r_17) ∧ (0 ≤ (0 : Int)) ∧ ((0 : Int) ≤ 6) ∧ (-1 ≤ Int32.toInt (p1 - 1)) ∧ (Int32.toInt (p1 - 1) ≤ 5) from ⟨i_20, cFr.rf, rfl, rfl, by omega, by omega, by omega, by omega⟩)
          · try have t_79 : Int32.toInt (p1 - 1) = Int32.toInt p1 - 1 := ti_sub rfl (by decide) (by omega) (by omega)
            show (Int32.toInt (p1 - 1) - (0 : Int) + 8).toNat < 1000000000000
            omega
        · unfold zX8_turnTop_s15_s20_30
          exact dOk_some (show (TC q_9) ∧ (cFr [16, 17, 19, 21] [(15, 3), (18, 1)] q q_9) ∧ (-3 ≤ (-3 : Int) ∧ (-3 : Int) ≤ 99) from ⟨i_11, hFq_9, by omega⟩)
    · unfold zX8_turnTop_s15_s20_11
      exact dOk_some (show (TC q) ∧ (cFr [16, 17, 19, 21] [(15, 3), (18, 1)] q q) ∧ (-3 ≤ (-1 : Int) ∧ (-1 : Int) ≤ 99) from ⟨hT, (cFr.rf (q := q)), by omega⟩)

set_option maxHeartbeats 4000000 in
set_option maxRecDepth 100000 in
theorem ok_X8_passYear_s15_s20 (q : dK) (hT : TC q) : dOk (zX8_passYear_s15_s20 q) (fun (o : Int32 × dK) => (TC o.2) ∧ (cFr [17, 19, 21] [(15, 4), (18, 1)] q o.2) ∧ (-3 ≤ Int32.toInt o.1 ∧ Int32.toInt o.1 ≤ 63)) := by
  unfold zX8_passYear_s15_s20
  have f_1 : 0 ≤ Int32.toInt (q.1 15 4) ∧ Int32.toInt (q.1 15 4) ≤ 1023 := rg_15_4 hT
  refine dOk_lt (A := Int32.toInt (q.1 15 4)) (B := 999) rfl (by decide) (fun c_2 => ?_) (fun c_3 => ?_)
  · unfold zX8_passYear_s15_s20_17
    refine dFix_ok (fun (a : dK × Int32 × Int32) => (TC a.1) ∧ (cFr [19, 21] [(18, 1)] q a.1) ∧ (0 ≤ Int32.toInt a.2.2) ∧ (Int32.toInt a.2.2 ≤ 6) ∧ (Int32.toInt (a.1.1 15 4) < 999)) (fun (a : dK × Int32 × Int32) => (6 - Int32.toInt a.2.2).toNat) ?_ _ ?_ _ (dF_gt ?_)
    · intro a ha k_5 hk_4
      obtain ⟨q_6, x2_7, x3_8⟩ := a
      replace ha : (TC q_6) ∧ (cFr [19, 21] [(18, 1)] q q_6) ∧ (0 ≤ Int32.toInt x3_8) ∧ (Int32.toInt x3_8 ≤ 6) ∧ (Int32.toInt (q_6.1 15 4) < 999) := ha
      obtain ⟨a_9, a_10, a_11, a_12, a_13⟩ := ha
      show dOk (zX8_passYear_s15_s20_17b  (fun q x2 x3 => k_5 (q, x2, x3)) q_6 x2_7 x3_8) _
      unfold zX8_passYear_s15_s20_17b
      have hFq_6 : cFr [17, 19, 21] [(15, 4), (18, 1)] q q_6 := (cFr.rf (q := q)).t a_10 (by decide) (by decide)
      have f_14 : 0 ≤ Int32.toInt (q_6.1 15 4) ∧ Int32.toInt (q_6.1 15 4) ≤ 1023 := rg_15_4 a_9
      have w_15 : Int32.toInt (q_6.1 15 4) = Int32.toInt (q.1 15 4) := by rw [a_10.1 15 4 (by decide) (by decide)]
      have f_16 : 0 ≤ Int32.toInt (q_6.1 15 2) ∧ Int32.toInt (q_6.1 15 2) ≤ 6 := rg_15_2 a_9
      have f_17 : 0 ≤ Int32.toInt (q.1 15 2) ∧ Int32.toInt (q.1 15 2) ≤ 6 := rg_15_2 hT
      have w_18 : Int32.toInt (q_6.1 15 2) = Int32.toInt (q.1 15 2) := by rw [a_10.1 15 2 (by decide) (by decide)]
      refine dOk_le (A := Int32.toInt (q_6.1 15 2)) (B := Int32.toInt x3_8) rfl rfl (fun c_19 => ?_) (fun c_20 => ?_)
      · unfold zX8_passYear_s15_s20_47
        refine dFix_ok (fun (a : dK × Int32 × Int32) => (TC a.1) ∧ (cFr [17] [] q_6 a.1) ∧ (a.2.1 = x2_7) ∧ (0 ≤ Int32.toInt a.2.2) ∧ (Int32.toInt a.2.2 ≤ 6) ∧ (Int32.toInt (a.1.1 15 4) < 999)) (fun (a : dK × Int32 × Int32) => (6 - Int32.toInt a.2.2).toNat) ?_ _ ?_ _ (dF_gt ?_)
        · intro a ha k_22 hk_21
          obtain ⟨q_23, x2_24, x3_25⟩ := a
          replace ha : (TC q_23) ∧ (cFr [17] [] q_6 q_23) ∧ (x2_24 = x2_7) ∧ (0 ≤ Int32.toInt x3_25) ∧ (Int32.toInt x3_25 ≤ 6) ∧ (Int32.toInt (q_23.1 15 4) < 999) := ha
          obtain ⟨a_26, a_27, a_28, a_29, a_30, a_31⟩ := ha
          show dOk (zX8_passYear_s15_s20_47b  (fun q x2 x3 => k_22 (q, x2, x3)) q_23 x2_24 x3_25) _
          unfold zX8_passYear_s15_s20_47b
          have hFq_23 : cFr [17, 19, 21] [(15, 4), (18, 1)] q q_23 := hFq_6.t a_27 (by decide) (by decide)
          subst x2_24
          have f_32 : 0 ≤ Int32.toInt (q_23.1 15 4) ∧ Int32.toInt (q_23.1 15 4) ≤ 1023 := rg_15_4 a_26
          have w_33 : Int32.toInt (q_23.1 15 4) = Int32.toInt (q_6.1 15 4) := by rw [a_27.1 15 4 (by decide) (by decide)]
          have f_34 : 0 ≤ Int32.toInt (q_23.1 15 2) ∧ Int32.toInt (q_23.1 15 2) ≤ 6 := rg_15_2 a_26
          have w_35 : Int32.toInt (q_23.1 15 2) = Int32.toInt (q_6.1 15 2) := by rw [a_27.1 15 2 (by decide) (by decide)]
          refine dOk_le (A := Int32.toInt (q_23.1 15 2)) (B := Int32.toInt x3_25) rfl rfl (fun c_36 => ?_) (fun c_37 => ?_)
          · refine dOk_L (fun q_38 eq_38 => ?_)
            try have t_39 : Int32.toInt (q_23.1 15 4 + 1) = Int32.toInt (q_23.1 15 4) + 1 := ti_add rfl (by decide) (by omega) (by omega)
            have hTq_38 : TC q_38 := by rw [eq_38]; exact st_15_4 a_26 (show (0 : Int) ≤ Int32.toInt (q_23.1 15 4 + 1) by omega) (show Int32.toInt (q_23.1 15 4 + 1) ≤ (1023 : Int) by omega)
            have hFq_38 : cFr [17, 19, 21] [(15, 4), (18, 1)] q q_38 := by rw [eq_38]; exact hFq_23.f (by decide)
            refine dOk_V (ok_J6_bitCount_0f7a4 x2_7) (fun r_40 h_41 => ?_)
            replace h_41 : (0 ≤ Int32.toInt r_40 ∧ Int32.toInt r_40 ≤ 63) := h_41
            have i_42 := h_41
            exact dOk_some (show (TC q_38) ∧ (cFr [17, 19, 21] [(15, 4), (18, 1)] q q_38) ∧ (-3 ≤ Int32.toInt r_40 ∧ Int32.toInt r_40 ≤ 63) from ⟨hTq_38, hFq_38, by omega⟩)
          · refine dOk_G (dg_ok (show 0 ≤ Int32.toInt x3_25 by omega) (show Int32.toInt x3_25 < ((6 : Nat) : Int) by omega)) ?_
            have n_43 : ((Int32.toNatClampNeg x3_25 : Nat) : Int) = Int32.toInt x3_25 := cl_eq (by omega)
            refine dOk_L (fun v_44 ev_44 => ?_)
            have f_45 : 0 ≤ Int32.toInt v_44 ∧ Int32.toInt v_44 ≤ 1 := by rw [ev_44]; exact rg_17 a_26 _
            refine dOk_G (dg_ok (show 0 ≤ Int32.toInt x3_25 by omega) (show Int32.toInt x3_25 < ((6 : Nat) : Int) by omega)) ?_
            refine dOk_L (fun q_46 eq_46 => ?_)
            try have t_47 := ti_shr (x := x2_7) (s := x3_25) (by omega)
            have t_48 := ti_and1 (x2_7 >>> ((x3_25 : Int32) &&& 31))
            try have t_49 := ti_xor1 (x := v_44) (y := x2_7 >>> ((x3_25 : Int32) &&& 31) &&& 1) (by omega) (by omega) (by omega) (by omega)
            have hTq_46 : TC q_46 := by rw [eq_46]; exact st_17 a_26 (show (0 : Int) ≤ Int32.toInt (v_44 ^^^ x2_7 >>> ((x3_25 : Int32) &&& 31) &&& 1) by omega) (show Int32.toInt (v_44 ^^^ x2_7 >>> ((x3_25 : Int32) &&& 31) &&& 1) ≤ (1 : Int) by omega)
            have hFq_46 : cFr [17, 19, 21] [(15, 4), (18, 1)] q q_46 := by rw [eq_46]; exact hFq_23.i (by decide)
            try have t_50 : Int32.toInt (x3_25 + 1) = Int32.toInt x3_25 + 1 := ti_add rfl (by decide) (by omega) (by omega)
            have f_51 : 0 ≤ Int32.toInt (q_46.1 15 4) ∧ Int32.toInt (q_46.1 15 4) ≤ 1023 := rg_15_4 hTq_46
            try have w_52 : Int32.toInt (q_46.1 15 4) = Int32.toInt (q_23.1 15 4) := by rw [eq_46, cui_o (by decide)]
            exact hk_21 (q_46, x2_7, (x3_25 + 1)) (show (TC q_46) ∧ (cFr [17] [] q_6 q_46) ∧ (x2_7 = x2_7) ∧ (0 ≤ Int32.toInt (x3_25 + 1)) ∧ (Int32.toInt (x3_25 + 1) ≤ 6) ∧ (Int32.toInt (q_46.1 15 4) < 999) from ⟨hTq_46, (by rw [eq_46]; exact (((cFr.rf : cFr [17] [] q_6 q_6).t a_27 (by decide) (by decide)) : cFr [17] [] q_6 q_23).i (by decide)), rfl, by omega, by omega, by omega⟩) (show (6 - Int32.toInt (x3_25 + 1)).toNat < (6 - Int32.toInt x3_25).toNat by omega)
        · exact (show (TC q_6) ∧ (cFr [17] [] q_6 q_6) ∧ (x2_7 = x2_7) ∧ (0 ≤ (0 : Int)) ∧ ((0 : Int) ≤ 6) ∧ (Int32.toInt (q_6.1 15 4) < 999) from ⟨a_9, cFr.rf, rfl, by omega, by omega, by omega⟩)
        · show (6 - (0 : Int)).toNat < 1000000000000
          omega
      · refine dOk_B (ok_X1_tips_s20_s15 q_6 x3_8 a_9) (fun r_53 q_54 h_55 => ?_)
        replace h_55 : (TC q_54) ∧ (cFr [19, 21] [(18, 1)] q_6 q_54) ∧ ((Int32.toInt r_53 = 0 ∨ Int32.toInt r_53 = 1)) := h_55
        obtain ⟨i_56, i_57, i_58⟩ := h_55
        have hFq_54 : cFr [17, 19, 21] [(15, 4), (18, 1)] q q_54 := hFq_6.t i_57 (by decide) (by decide)
        refine dOk_V (ok_X9_bit r_53) (fun r_59 h_60 => ?_)
        replace h_60 : ((Int32.toInt r_59 = 0 ∨ Int32.toInt r_59 = 1)) := h_60
        have i_61 := h_60
        try have t_62 := ti_shl5 (x := r_59) (s := x3_8) (by omega) (by omega) (by omega) (by omega)
        try have t_63 := ti_shl6 (x := r_59) (s := x3_8) (by omega) (by omega) (by omega) (by omega)
        try have t_64 := ti_or (x := x2_7) (y := r_59 <<< ((x3_8 : Int32) &&& 31)) 6 (by decide) (by omega) (by omega) (by omega) (by omega)
        try have t_65 : Int32.toInt (x3_8 + 1) = Int32.toInt x3_8 + 1 := ti_add rfl (by decide) (by omega) (by omega)
        have f_66 : 0 ≤ Int32.toInt (q_54.1 15 4) ∧ Int32.toInt (q_54.1 15 4) ≤ 1023 := rg_15_4 i_56
        have w_67 : Int32.toInt (q_54.1 15 4) = Int32.toInt (q_6.1 15 4) := by rw [i_57.1 15 4 (by decide) (by decide)]
        exact hk_4 (q_54, (x2_7 ||| r_59 <<< ((x3_8 : Int32) &&& 31)), (x3_8 + 1)) (show (TC q_54) ∧ (cFr [19, 21] [(18, 1)] q q_54) ∧ (0 ≤ Int32.toInt (x3_8 + 1)) ∧ (Int32.toInt (x3_8 + 1) ≤ 6) ∧ (Int32.toInt (q_54.1 15 4) < 999) from ⟨i_56, ((((cFr.rf : cFr [19, 21] [(18, 1)] q q).t a_10 (by decide) (by decide)) : cFr [19, 21] [(18, 1)] q q_6).t i_57 (by decide) (by decide)), by omega, by omega, by omega⟩) (show (6 - Int32.toInt (x3_8 + 1)).toNat < (6 - Int32.toInt x3_8).toNat by omega)
    · exact (show (TC q) ∧ (cFr [19, 21] [(18, 1)] q q) ∧ (0 ≤ (0 : Int)) ∧ ((0 : Int) ≤ 6) ∧ (Int32.toInt (q.1 15 4) < 999) from ⟨hT, cFr.rf, by omega, by omega, by omega⟩)
    · show (6 - (0 : Int)).toNat < 1000000000000
      omega
  · exact dOk_some (show (TC q) ∧ (cFr [17, 19, 21] [(15, 4), (18, 1)] q q) ∧ (-3 ≤ (-3 : Int) ∧ (-3 : Int) ≤ 63) from ⟨hT, (cFr.rf (q := q)), by omega⟩)
