set_option maxHeartbeats 4000000 in
set_option maxRecDepth 100000 in
theorem ok_look (q : dS) (p1 : Int32) (hT : TS q) : dOk (zX10_look q p1) (fun (o : Int32 × dS) => (TS o.2) ∧ (dFr [12, 25] [22, 23, 24, 25] q o.2)) := by
  unfold zX10_look
  refine dOk_V (ok_lies p1 0 1) (fun r_1 h_2 => ?_)
  replace h_2 : ((Int32.toInt r_1 = 1 ∧ (0 : Int) ≤ Int32.toInt p1 ∧ Int32.toInt p1 ≤ (1 : Int)) ∨ (Int32.toInt r_1 = 0 ∧ (Int32.toInt p1 < (0 : Int) ∨ (1 : Int) < Int32.toInt p1))) := h_2
  have i_3 := h_2
  refine dOk_eq (A := Int32.toInt r_1) (B := 0) rfl (by decide) (fun c_4z c_4 => ?_) (fun c_5z c_5 => ?_)
  · exact dOk_some (show (TS q) ∧ (dFr [12, 25] [22, 23, 24, 25] q q) from ⟨hT, (dFr.rf (q := q))⟩)
  · refine dOk_B (ok_was q hT) (fun r_7 q_8 h_9 => ?_)
    replace h_9 : (TS q_8) ∧ (dFr [12] [22, 23, 24, 25] q q_8) := h_9
    obtain ⟨i_10, i_11⟩ := h_9
    have hFq_8 : dFr [12, 25] [22, 23, 24, 25] q q_8 := (dFr.rf (q := q)).t i_11 (by decide) (by decide)
    unfold zX10_look_25
    refine dFix_ok (fun (a : dS × Int32 × Int32 × Int32 × Int32 × Int32) => (TS a.1) ∧ (dFr [25] [] q_8 a.1) ∧ (a.2.1 = p1) ∧ (a.2.2.1 = r_7) ∧ (0 ≤ Int32.toInt a.2.2.2.2.2) ∧ (Int32.toInt a.2.2.2.2.2 ≤ 6)) (fun (a : dS × Int32 × Int32 × Int32 × Int32 × Int32) => (6 - Int32.toInt a.2.2.2.2.2).toNat) ?_ _ ?_ _ (dF_gt ?_)
    · intro a ha k_13 hk_12
      obtain ⟨q_14, x1_15, x2_16, x3_17, x4_18, x5_19⟩ := a
      replace ha : (TS q_14) ∧ (dFr [25] [] q_8 q_14) ∧ (x1_15 = p1) ∧ (x2_16 = r_7) ∧ (0 ≤ Int32.toInt x5_19) ∧ (Int32.toInt x5_19 ≤ 6) := ha
      obtain ⟨a_20, a_21, a_22, a_23, a_24, a_25⟩ := ha
      show dOk (zX10_look_25b  (fun q x1 x2 x3 x4 x5 => k_13 (q, x1, x2, x3, x4, x5)) q_14 x1_15 x2_16 x3_17 x4_18 x5_19) _
      unfold zX10_look_25b
      have hFq_14 : dFr [12, 25] [22, 23, 24, 25] q q_14 := hFq_8.t a_21 (by decide) (by decide)
      subst x1_15
      subst x2_16
      refine dOk_B (ok_size q_14 a_20) (fun r_26 q_27 h_28 => ?_)
      replace h_28 : (q_27 = q_14) ∧ (Int32.toInt r_26 = Int32.toInt (q_14.1 2 29)) ∧ (0 ≤ Int32.toInt r_26 ∧ Int32.toInt r_26 ≤ 6) := h_28
      obtain ⟨i_29, i_30, i_31⟩ := h_28
      subst q_27
      have f_32 : 0 ≤ Int32.toInt (q_14.1 2 29) ∧ Int32.toInt (q_14.1 2 29) ≤ 6 := a_20.1 2 29
      have f_33 : 0 ≤ Int32.toInt (q_8.1 2 29) ∧ Int32.toInt (q_8.1 2 29) ≤ 6 := i_10.1 2 29
      have f_34 : 0 ≤ Int32.toInt (q.1 2 29) ∧ Int32.toInt (q.1 2 29) ≤ 6 := hT.1 2 29
      have w_35 : Int32.toInt (q_8.1 2 29) = Int32.toInt (q.1 2 29) := by rw [i_11.1 2 (by decide) (by decide)]
      have w_36 : Int32.toInt (q_14.1 2 29) = Int32.toInt (q_8.1 2 29) := by rw [a_21.1 2 (by decide) (by decide)]
      refine dOk_le (A := Int32.toInt r_26) (B := Int32.toInt x5_19) rfl rfl (fun c_37 => ?_) (fun c_38 => ?_)
      · unfold zX10_look_70
        refine dOk_eq (A := Int32.toInt x3_17) (B := (-1)) rfl (by decide) (fun c_39z c_39 => ?_) (fun c_40z c_40 => ?_)
        · unfold zX10_look_79
          unfold zX10_look_85
          exact dOk_some (show (TS q_14) ∧ (dFr [12, 25] [22, 23, 24, 25] q q_14) from ⟨a_20, hFq_14⟩)
        · refine dOk_eq (A := Int32.toInt p1) (B := 0) rfl (by decide) (fun c_42z c_42 => ?_) (fun c_43z c_43 => ?_)
          · unfold zX10_look_79
            unfold zX10_look_85
            exact dOk_some (show (TS q_14) ∧ (dFr [12, 25] [22, 23, 24, 25] q q_14) from ⟨a_20, hFq_14⟩)
          · unfold zX10_look_85
            exact dOk_some (show (TS q_14) ∧ (dFr [12, 25] [22, 23, 24, 25] q q_14) from ⟨a_20, hFq_14⟩)
      · refine dOk_eq (A := Int32.toInt r_7) (B := 0) rfl (by decide) (fun c_45z c_45 => ?_) (fun c_46z c_46 => ?_)
        · unfold zX10_look_70
          refine dOk_eq (A := Int32.toInt x3_17) (B := (-1)) rfl (by decide) (fun c_48z c_48 => ?_) (fun c_49z c_49 => ?_)
          · unfold zX10_look_79
            unfold zX10_look_85
            exact dOk_some (show (TS q_14) ∧ (dFr [12, 25] [22, 23, 24, 25] q q_14) from ⟨a_20, hFq_14⟩)
          · refine dOk_eq (A := Int32.toInt p1) (B := 0) rfl (by decide) (fun c_51z c_51 => ?_) (fun c_52z c_52 => ?_)
            · unfold zX10_look_79
              unfold zX10_look_85
              exact dOk_some (show (TS q_14) ∧ (dFr [12, 25] [22, 23, 24, 25] q q_14) from ⟨a_20, hFq_14⟩)
            · unfold zX10_look_85
              exact dOk_some (show (TS q_14) ∧ (dFr [12, 25] [22, 23, 24, 25] q q_14) from ⟨a_20, hFq_14⟩)
        · refine dOk_B (ok_mostAlike q_14 r_7 x5_19 a_20 (show 0 ≤ Int32.toInt x5_19 ∧ Int32.toInt x5_19 < Int32.toInt (q_14.1 2 29) by omega)) (fun r_54 q_55 h_56 => ?_)
          replace h_56 : (TS q_55) ∧ (dFr [25] [] q_14 q_55) := h_56
          obtain ⟨i_57, i_58⟩ := h_56
          have hFq_55 : dFr [12, 25] [22, 23, 24, 25] q q_55 := hFq_14.t i_58 (by decide) (by decide)
          refine dOk_lt (A := Int32.toInt r_54) (B := Int32.toInt x4_18) rfl rfl (fun c_59 => ?_) (fun c_60 => ?_)
          · unfold zX10_look_64
            try have t_61 : Int32.toInt (x5_19 + 1) = Int32.toInt x5_19 + 1 := ti_add rfl (by decide) (by omega) (by omega)
            exact hk_12 (q_55, p1, r_7, x5_19, r_54, (x5_19 + 1)) (show (TS q_55) ∧ (dFr [25] [] q_8 q_55) ∧ (p1 = p1) ∧ (r_7 = r_7) ∧ (0 ≤ Int32.toInt (x5_19 + 1)) ∧ (Int32.toInt (x5_19 + 1) ≤ 6) from ⟨i_57, ((((dFr.rf : dFr [25] [] q_8 q_8).t a_21 (by decide) (by decide)) : dFr [25] [] q_8 q_14).t i_58 (by decide) (by decide)), rfl, rfl, by omega, by omega⟩) (show (6 - Int32.toInt (x5_19 + 1)).toNat < (6 - Int32.toInt x5_19).toNat by omega)
          · unfold zX10_look_64
            try have t_62 : Int32.toInt (x5_19 + 1) = Int32.toInt x5_19 + 1 := ti_add rfl (by decide) (by omega) (by omega)
            exact hk_12 (q_55, p1, r_7, x3_17, x4_18, (x5_19 + 1)) (show (TS q_55) ∧ (dFr [25] [] q_8 q_55) ∧ (p1 = p1) ∧ (r_7 = r_7) ∧ (0 ≤ Int32.toInt (x5_19 + 1)) ∧ (Int32.toInt (x5_19 + 1) ≤ 6) from ⟨i_57, ((((dFr.rf : dFr [25] [] q_8 q_8).t a_21 (by decide) (by decide)) : dFr [25] [] q_8 q_14).t i_58 (by decide) (by decide)), rfl, rfl, by omega, by omega⟩) (show (6 - Int32.toInt (x5_19 + 1)).toNat < (6 - Int32.toInt x5_19).toNat by omega)
    · exact (show (TS q_8) ∧ (dFr [25] [] q_8 q_8) ∧ (p1 = p1) ∧ (r_7 = r_7) ∧ (0 ≤ (0 : Int)) ∧ ((0 : Int) ≤ 6) from ⟨i_10, dFr.rf, rfl, rfl, by omega, by omega⟩)
    · show (6 - (0 : Int)).toNat < 1000000000000
      omega

theorem ok_draws (q : dS) (p1 : Int32) (hT : TS q) (hp0 : 1 ≤ Int32.toInt p1) : dOk (zX10_draws q p1) (fun (o : Int32 × dS) => (TS o.2) ∧ (dFr [] [55] q o.2) ∧ (0 ≤ Int32.toInt o.1 ∧ Int32.toInt o.1 < Int32.toInt p1)) := by
  unfold zX10_draws
  have f : 0 ≤ Int32.toInt (q.1 0 55) ∧ Int32.toInt (q.1 0 55) ≤ 1000002 := hT.1 0 55
  refine dOk_L (fun v1 e1 => dOk_L (fun q2 e2 => ?_))
  have t1 : Int64.toInt (1103 * Int32.toInt64 (q.1 0 55)) = 1103 * Int32.toInt (q.1 0 55) := tl_mul (by decide) (Int32.toInt_toInt64 _) (by omega) (by omega)
  have t2 : v1.toInt = 1103 * Int32.toInt (q.1 0 55) + 12345 := by rw [e1]; exact tl_add t1 (by decide) (by omega) (by omega)
  have t3 : (v1 - v1 / 1000003 * 1000003).toInt = v1.toInt % 1000003 := tl_rem rfl (by decide) (by omega) (by omega)
  have t4 : (Int64.toInt32 (v1 - v1 / 1000003 * 1000003)).toInt = v1.toInt % 1000003 := by
    rw [Int64.toInt_toInt32, t3]
    exact Int.bmod_eq_of_le (by omega) (by omega)
  have hT2 : TS q2 := by
    rw [e2]
    refine ts_f hT ?_ ?_
    · show (0 : Int) ≤ _
      rw [t4]; omega
    · show _ ≤ (1000002 : Int)
      rw [t4]; omega
  have f2 : 0 ≤ Int32.toInt (q2.1 0 55) ∧ Int32.toInt (q2.1 0 55) ≤ 1000002 := hT2.1 0 55
  refine dOk_G (dnz_ok (by omega)) (dOk_some ⟨hT2, ?_, ?_⟩)
  · show dFr [] [55] q q2
    rw [e2]; exact dFr.rf.f (by decide)
  · show 0 ≤ Int32.toInt (q2.1 0 55 - q2.1 0 55 / p1 * p1) ∧ _
    rw [show Int32.toInt (q2.1 0 55 - q2.1 0 55 / p1 * p1) = Int32.toInt (q2.1 0 55) % Int32.toInt p1 from ti_rem rfl rfl (by omega) (by omega)]
    exact ⟨Int.emod_nonneg _ (by omega), Int.emod_lt_of_pos _ (by omega)⟩
