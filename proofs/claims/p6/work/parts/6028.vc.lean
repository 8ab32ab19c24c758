set_option maxHeartbeats 4000000 in
set_option maxRecDepth 100000 in
theorem ok_X4_readTerm_s24 (kS : dK → Option (dK)) (n : Nat) (hkS : ∀ q9 : dK, TC q9 → (¬ Int32.toInt (q9.1 24 0) = 0) → (¬ Int32.toInt (q9.1 24 3) = 0) → (9 - Int32.toInt (q9.1 24 9) ≤ (n : Int)) → dOk (kS q9) (fun (o : dK) => (TC o) ∧ (cFr [31] [(24, 4), (24, 5), (24, 6), (24, 7), (24, 8), (24, 9), (24, 10), (25, 7)] q9 o) ∧ (Int32.toInt (o.1 24 9) = Int32.toInt (q9.1 24 9)))) (q : dK) (hT : TC q) (hp0 : ¬ Int32.toInt (q.1 24 0) = 0) (hp1 : ¬ Int32.toInt (q.1 24 3) = 0) (hp2 : 9 - Int32.toInt (q.1 24 9) ≤ (n : Int) + 1) : dOk (zX4_readTerm_s24 kS q) (fun (o : dK) => (TC o) ∧ (cFr [31] [(24, 4), (24, 5), (24, 6), (24, 7), (24, 8), (24, 9), (24, 10), (25, 7)] q o) ∧ (Int32.toInt (o.1 24 9) = Int32.toInt (q.1 24 9))) := by
  unfold zX4_readTerm_s24
  have f_1 : 0 ≤ Int32.toInt (q.1 24 0) ∧ Int32.toInt (q.1 24 0) ≤ 1 := rg_24_0 hT
  have f_2 : 0 ≤ Int32.toInt (q.1 24 3) ∧ Int32.toInt (q.1 24 3) ≤ 1 := rg_24_3 hT
  have f_3 : 0 ≤ Int32.toInt (q.1 24 9) ∧ Int32.toInt (q.1 24 9) ≤ 8 := rg_24_9 hT
  refine dOk_V (ok_X4_readPart_s24 kS n hkS q hT (show ¬ Int32.toInt (q.1 24 0) = 0 by omega) (show ¬ Int32.toInt (q.1 24 3) = 0 by omega) (show 9 - Int32.toInt (q.1 24 9) ≤ (n : Int) + 1 by omega)) (fun q_4 h_5 => ?_)
  replace h_5 : (TC q_4) ∧ (cFr [31] [(24, 4), (24, 5), (24, 6), (24, 7), (24, 8), (24, 9), (24, 10), (25, 7)] q q_4) ∧ (Int32.toInt (q_4.1 24 9) = Int32.toInt (q.1 24 9)) := h_5
  obtain ⟨i_6, i_7, i_8⟩ := h_5
  have hFq_4 : cFr [31] [(24, 4), (24, 5), (24, 6), (24, 7), (24, 8), (24, 9), (24, 10), (25, 7)] q q_4 := (cFr.rf (q := q)).t i_7 (by decide) (by decide)
  have f_9 : 0 ≤ Int32.toInt (q_4.1 24 9) ∧ Int32.toInt (q_4.1 24 9) ≤ 8 := rg_24_9 i_6
  unfold zX4_readTerm_s24_6
  refine dFix_ok (fun (a : dK × Int32) => (TC a.1) ∧ (cFr [31] [(24, 4), (24, 5), (24, 6), (24, 7), (24, 8), (24, 9), (24, 10), (25, 7)] q_4 a.1) ∧ (0 ≤ Int32.toInt a.2) ∧ (Int32.toInt a.2 ≤ 400) ∧ (Int32.toInt (a.1.1 24 9) = Int32.toInt (q_4.1 24 9))) (fun (a : dK × Int32) => (400 - Int32.toInt a.2).toNat) ?_ _ ?_ _ (dF_gt ?_)
  · intro a ha k_11 hk_10
    obtain ⟨q_12, x1_13⟩ := a
    replace ha : (TC q_12) ∧ (cFr [31] [(24, 4), (24, 5), (24, 6), (24, 7), (24, 8), (24, 9), (24, 10), (25, 7)] q_4 q_12) ∧ (0 ≤ Int32.toInt x1_13) ∧ (Int32.toInt x1_13 ≤ 400) ∧ (Int32.toInt (q_12.1 24 9) = Int32.toInt (q_4.1 24 9)) := ha
    obtain ⟨a_14, a_15, a_16, a_17, a_18⟩ := ha
    show dOk (zX4_readTerm_s24_6b kS (fun q x1 => k_11 (q, x1)) q_12 x1_13) _
    unfold zX4_readTerm_s24_6b
    have hFq_12 : cFr [31] [(24, 4), (24, 5), (24, 6), (24, 7), (24, 8), (24, 9), (24, 10), (25, 7)] q q_12 := hFq_4.t a_15 (by decide) (by decide)
    have f_19 : 0 ≤ Int32.toInt (q_12.1 24 9) ∧ Int32.toInt (q_12.1 24 9) ≤ 8 := rg_24_9 a_14
    have f_20 : 0 ≤ Int32.toInt (q_12.1 24 1) ∧ Int32.toInt (q_12.1 24 1) ≤ 400 := rg_24_1 a_14
    have f_21 : 0 ≤ Int32.toInt (q_4.1 24 1) ∧ Int32.toInt (q_4.1 24 1) ≤ 400 := rg_24_1 i_6
    have f_22 : 0 ≤ Int32.toInt (q.1 24 1) ∧ Int32.toInt (q.1 24 1) ≤ 400 := rg_24_1 hT
    have w_23 : Int32.toInt (q_4.1 24 1) = Int32.toInt (q.1 24 1) := by rw [i_7.1 24 1 (by decide) (by decide)]
    have w_24 : Int32.toInt (q_12.1 24 1) = Int32.toInt (q_4.1 24 1) := by rw [a_15.1 24 1 (by decide) (by decide)]
    refine dOk_le (A := Int32.toInt (q_12.1 24 1)) (B := Int32.toInt x1_13) rfl rfl (fun c_25 => ?_) (fun c_26 => ?_)
    · unfold zX4_readTerm_s24_59
      exact dOk_some (show (TC q_12) ∧ (cFr [31] [(24, 4), (24, 5), (24, 6), (24, 7), (24, 8), (24, 9), (24, 10), (25, 7)] q q_12) ∧ (Int32.toInt (q_12.1 24 9) = Int32.toInt (q.1 24 9)) from ⟨a_14, hFq_12, by omega⟩)
    · refine dOk_eq (A := Int32.toInt (q_12.1 24 10)) (B := (-1)) rfl (by decide) (fun c_27z c_27 => ?_) (fun c_28z c_28 => ?_)
      · have f_30 : 0 ≤ Int32.toInt (q_12.1 24 0) ∧ Int32.toInt (q_12.1 24 0) ≤ 1 := rg_24_0 a_14
        have f_31 : 0 ≤ Int32.toInt (q_4.1 24 0) ∧ Int32.toInt (q_4.1 24 0) ≤ 1 := rg_24_0 i_6
        have w_32 : Int32.toInt (q_4.1 24 0) = Int32.toInt (q.1 24 0) := by rw [i_7.1 24 0 (by decide) (by decide)]
        have w_33 : Int32.toInt (q_12.1 24 0) = Int32.toInt (q_4.1 24 0) := by rw [a_15.1 24 0 (by decide) (by decide)]
        refine dOk_B (ok_X4_signIn_s24_t4 q_12 4 a_14 (show ¬ Int32.toInt (q_12.1 24 0) = 0 by omega) (show 0 ≤ (4 : Int) by omega) (show (4 : Int) ≤ 10 by omega)) (fun r_34 q_35 h_36 => ?_)
        replace h_36 : (q_35 = q_12) ∧ (-1 ≤ Int32.toInt r_34) ∧ (Int32.toInt r_34 ≤ (4 : Int) + 2) := h_36
        obtain ⟨i_37, i_38, i_39⟩ := h_36
        subst q_35
        refine dOk_eq (A := Int32.toInt r_34) (B := (-1)) rfl (by decide) (fun c_40z c_40 => ?_) (fun c_41z c_41 => ?_)
        · exact dOk_some (show (TC q_12) ∧ (cFr [31] [(24, 4), (24, 5), (24, 6), (24, 7), (24, 8), (24, 9), (24, 10), (25, 7)] q q_12) ∧ (Int32.toInt (q_12.1 24 9) = Int32.toInt (q.1 24 9)) from ⟨a_14, hFq_12, by omega⟩)
        · refine dOk_V (ok_X4_step_s24 q_12 a_14 (show ¬ Int32.toInt (q_12.1 24 0) = 0 by omega)) (fun q_43 h_44 => ?_)
          replace h_44 : (TC q_43) ∧ (cFr [] [(24, 4), (24, 5), (24, 6), (24, 7)] q_12 q_43) := h_44
          obtain ⟨i_45, i_46⟩ := h_44
          have hFq_43 : cFr [31] [(24, 4), (24, 5), (24, 6), (24, 7), (24, 8), (24, 9), (24, 10), (25, 7)] q q_43 := hFq_12.t i_46 (by decide) (by decide)
          have f_47 : 0 ≤ Int32.toInt (q_43.1 24 0) ∧ Int32.toInt (q_43.1 24 0) ≤ 1 := rg_24_0 i_45
          have w_48 : Int32.toInt (q_43.1 24 0) = Int32.toInt (q_12.1 24 0) := by rw [i_46.1 24 0 (by decide) (by decide)]
          have f_49 : 0 ≤ Int32.toInt (q_43.1 24 3) ∧ Int32.toInt (q_43.1 24 3) ≤ 1 := rg_24_3 i_45
          have f_50 : 0 ≤ Int32.toInt (q_12.1 24 3) ∧ Int32.toInt (q_12.1 24 3) ≤ 1 := rg_24_3 a_14
          have f_51 : 0 ≤ Int32.toInt (q_4.1 24 3) ∧ Int32.toInt (q_4.1 24 3) ≤ 1 := rg_24_3 i_6
          have w_52 : Int32.toInt (q_4.1 24 3) = Int32.toInt (q.1 24 3) := by rw [i_7.1 24 3 (by decide) (by decide)]
          have w_53 : Int32.toInt (q_12.1 24 3) = Int32.toInt (q_4.1 24 3) := by rw [a_15.1 24 3 (by decide) (by decide)]
          have w_54 : Int32.toInt (q_43.1 24 3) = Int32.toInt (q_12.1 24 3) := by rw [i_46.1 24 3 (by decide) (by decide)]
          have f_55 : 0 ≤ Int32.toInt (q_43.1 24 9) ∧ Int32.toInt (q_43.1 24 9) ≤ 8 := rg_24_9 i_45
          have w_56 : Int32.toInt (q_43.1 24 9) = Int32.toInt (q_12.1 24 9) := by rw [i_46.1 24 9 (by decide) (by decide)]
          refine dOk_V (ok_X4_readPart_s24 kS n hkS q_43 i_45 (show ¬ Int32.toInt (q_43.1 24 0) = 0 by omega) (show ¬ Int32.toInt (q_43.1 24 3) = 0 by omega) (show 9 - Int32.toInt (q_43.1 24 9) ≤ (n : Int) + 1 by omega)) (fun q_57 h_58 => ?_)
          replace h_58 : (TC q_57) ∧ (cFr [31] [(24, 4), (24, 5), (24, 6), (24, 7), (24, 8), (24, 9), (24, 10), (25, 7)] q_43 q_57) ∧ (Int32.toInt (q_57.1 24 9) = Int32.toInt (q_43.1 24 9)) := h_58
          obtain ⟨i_59, i_60, i_61⟩ := h_58
          have hFq_57 : cFr [31] [(24, 4), (24, 5), (24, 6), (24, 7), (24, 8), (24, 9), (24, 10), (25, 7)] q q_57 := hFq_43.t i_60 (by decide) (by decide)
          have f_62 : 0 ≤ Int32.toInt (q_57.1 24 9) ∧ Int32.toInt (q_57.1 24 9) ≤ 8 := rg_24_9 i_59
          have f_63 : 0 ≤ Int32.toInt (q_57.1 24 3) ∧ Int32.toInt (q_57.1 24 3) ≤ 1 := rg_24_3 i_59
          have w_64 : Int32.toInt (q_57.1 24 3) = Int32.toInt (q_43.1 24 3) := by rw [i_60.1 24 3 (by decide) (by decide)]
          refine dOk_G (dnz_ok (show ¬ Int32.toInt (q_57.1 24 3) = 0 by omega)) ?_
          refine dOk_V (ok_X7_emit_s25 q_57 r_34 0 i_59 (show 0 ≤ Int32.toInt r_34 ∧ Int32.toInt r_34 ≤ 12 by omega) (show 0 ≤ (0 : Int) ∧ (0 : Int) ≤ 2000 by omega)) (fun q_65 h_66 => ?_)
          replace h_66 : (TC q_65) ∧ (cFr [31] [(25, 7)] q_57 q_65) := h_66
          obtain ⟨i_67, i_68⟩ := h_66
          have hFq_65 : cFr [31] [(24, 4), (24, 5), (24, 6), (24, 7), (24, 8), (24, 9), (24, 10), (25, 7)] q q_65 := hFq_57.t i_68 (by decide) (by decide)
          try have t_69 : Int32.toInt (x1_13 + 1) = Int32.toInt x1_13 + 1 := ti_add rfl (by decide) (by omega) (by omega)
          have f_70 : 0 ≤ Int32.toInt (q_65.1 24 9) ∧ Int32.toInt (q_65.1 24 9) ≤ 8 := rg_24_9 i_67
          have w_71 : Int32.toInt (q_65.1 24 9) = Int32.toInt (q_57.1 24 9) := by rw [i_68.1 24 9 (by decide) (by decide)]
          exact hk_10 (q_65, (x1_13 + 1)) (show (TC q_65) ∧ (cFr [31] [(24, 4), (24, 5), (24, 6), (24, 7), (24, 8), (24, 9), (24, 10), (25, 7)] q_4 q_65) ∧ (0 ≤ Int32.toInt (x1_13 + 1)) ∧ (Int32.toInt (x1_13 + 1) ≤ 400) ∧ (Int32.toInt (q_65.1 24 9) = Int32.toInt (q_4.1 24 9)) from ⟨i_67, ((((((((cFr.rf : cFr [31] [(24, 4), (24, 5), (24, 6), (24, 7), (24, 8), (24, 9), (24, 10), (25, 7)] q_4 q_4).t a_15 (by decide) (by decide)) : cFr [31] [(24, 4), (24, 5), (24, 6), (24, 7), (24, 8), (24, 9), (24, 10), (25, 7)] q_4 q_12).t i_46 (by decide) (by decide)) : cFr [31] [(24, 4), (24, 5), (24, 6), (24, 7), (24, 8), (24, 9), (24, 10), (25, 7)] q_4 q_43).t i_60 (by decide) (by decide)) : cFr [31] [(24, 4), (24, 5), (24, 6), (24, 7), (24, 8), (24, 9), (24, 10), (25, 7)] q_4 q_57).t i_68 (by decide) (by decide)), by omega, by omega, by omega⟩) (show (400 - Int32.toInt (x1_13 + 1)).toNat < (400 - Int32.toInt x1_13).toNat by omega)
      · unfold zX4_readTerm_s24_59
        exact dOk_some (show (TC q_12) ∧ (cFr [31] [(24, 4), (24, 5), (24, 6), (24, 7), (24, 8), (24, 9), (24, 10), (25, 7)] q q_12) ∧ (Int32.toInt (q_12.1 24 9) = Int32.toInt (q.1 24 9)) from ⟨a_14, hFq_12, by omega⟩)
  · exact (show (TC q_4) ∧ (cFr [31] [(24, 4), (24, 5), (24, 6), (24, 7), (24, 8), (24, 9), (24, 10), (25, 7)] q_4 q_4) ∧ (0 ≤ (0 : Int)) ∧ ((0 : Int) ≤ 400) ∧ (Int32.toInt (q_4.1 24 9) = Int32.toInt (q_4.1 24 9)) from ⟨i_6, cFr.rf, by omega, by omega, by omega⟩)
  · show (400 - (0 : Int)).toNat < 1000000000000
    omega

set_option maxHeartbeats 4000000 in
set_option maxRecDepth 100000 in
theorem ok_X4_readSum_s24_o (kS : dK → Option (dK)) (n : Nat) (hkS : ∀ q9 : dK, TC q9 → (¬ Int32.toInt (q9.1 24 0) = 0) → (¬ Int32.toInt (q9.1 24 3) = 0) → (9 - Int32.toInt (q9.1 24 9) ≤ (n : Int)) → dOk (kS q9) (fun (o : dK) => (TC o) ∧ (cFr [31] [(24, 4), (24, 5), (24, 6), (24, 7), (24, 8), (24, 9), (24, 10), (25, 7)] q9 o) ∧ (Int32.toInt (o.1 24 9) = Int32.toInt (q9.1 24 9)))) (q : dK) (hT : TC q) (hp0 : ¬ Int32.toInt (q.1 24 0) = 0) (hp1 : ¬ Int32.toInt (q.1 24 3) = 0) (hp2 : 9 - Int32.toInt (q.1 24 9) ≤ (n : Int) + 1) : dOk (zX4_readSum_s24_o kS q) (fun (o : dK) => (TC o) ∧ (cFr [31] [(24, 4), (24, 5), (24, 6), (24, 7), (24, 8), (24, 9), (24, 10), (25, 7)] q o) ∧ (Int32.toInt (o.1 24 9) = Int32.toInt (q.1 24 9))) := by
  unfold zX4_readSum_s24_o
  have f_1 : 0 ≤ Int32.toInt (q.1 24 0) ∧ Int32.toInt (q.1 24 0) ≤ 1 := rg_24_0 hT
  have f_2 : 0 ≤ Int32.toInt (q.1 24 3) ∧ Int32.toInt (q.1 24 3) ≤ 1 := rg_24_3 hT
  have f_3 : 0 ≤ Int32.toInt (q.1 24 9) ∧ Int32.toInt (q.1 24 9) ≤ 8 := rg_24_9 hT
  refine dOk_V (ok_X4_readTerm_s24 kS n hkS q hT (show ¬ Int32.toInt (q.1 24 0) = 0 by omega) (show ¬ Int32.toInt (q.1 24 3) = 0 by omega) (show 9 - Int32.toInt (q.1 24 9) ≤ (n : Int) + 1 by omega)) (fun q_4 h_5 => ?_)
  replace h_5 : (TC q_4) ∧ (cFr [31] [(24, 4), (24, 5), (24, 6), (24, 7), (24, 8), (24, 9), (24, 10), (25, 7)] q q_4) ∧ (Int32.toInt (q_4.1 24 9) = Int32.toInt (q.1 24 9)) := h_5
  obtain ⟨i_6, i_7, i_8⟩ := h_5
  have hFq_4 : cFr [31] [(24, 4), (24, 5), (24, 6), (24, 7), (24, 8), (24, 9), (24, 10), (25, 7)] q q_4 := (cFr.rf (q := q)).t i_7 (by decide) (by decide)
  have f_9 : 0 ≤ Int32.toInt (q_4.1 24 9) ∧ Int32.toInt (q_4.1 24 9) ≤ 8 := rg_24_9 i_6
  unfold zX4_readSum_s24_6
  refine dFix_ok (fun (a : dK × Int32) => (TC a.1) ∧ (cFr [31] [(24, 4), (24, 5), (24, 6), (24, 7), (24, 8), (24, 9), (24, 10), (25, 7)] q_4 a.1) ∧ (0 ≤ Int32.toInt a.2) ∧ (Int32.toInt a.2 ≤ 400) ∧ (Int32.toInt (a.1.1 24 9) = Int32.toInt (q_4.1 24 9))) (fun (a : dK × Int32) => (400 - Int32.toInt a.2).toNat) ?_ _ ?_ _ (dF_gt ?_)
  · intro a ha k_11 hk_10
    obtain ⟨q_12, x1_13⟩ := a
    replace ha : (TC q_12) ∧ (cFr [31] [(24, 4), (24, 5), (24, 6), (24, 7), (24, 8), (24, 9), (24, 10), (25, 7)] q_4 q_12) ∧ (0 ≤ Int32.toInt x1_13) ∧ (Int32.toInt x1_13 ≤ 400) ∧ (Int32.toInt (q_12.1 24 9) = Int32.toInt (q_4.1 24 9)) := ha
    obtain ⟨a_14, a_15, a_16, a_17, a_18⟩ := ha
    show dOk (zX4_readSum_s24_6b kS (fun q x1 => k_11 (q, x1)) q_12 x1_13) _
    unfold zX4_readSum_s24_6b
    have hFq_12 : cFr [31] [(24, 4), (24, 5), (24, 6), (24, 7), (24, 8), (24, 9), (24, 10), (25, 7)] q q_12 := hFq_4.t a_15 (by decide) (by decide)
    have f_19 : 0 ≤ Int32.toInt (q_12.1 24 9) ∧ Int32.toInt (q_12.1 24 9) ≤ 8 := rg_24_9 a_14
    have f_20 : 0 ≤ Int32.toInt (q_12.1 24 1) ∧ Int32.toInt (q_12.1 24 1) ≤ 400 := rg_24_1 a_14
    have f_21 : 0 ≤ Int32.toInt (q_4.1 24 1) ∧ Int32.toInt (q_4.1 24 1) ≤ 400 := rg_24_1 i_6
    have f_22 : 0 ≤ Int32.toInt (q.1 24 1) ∧ Int32.toInt (q.1 24 1) ≤ 400 := rg_24_1 hT
    have w_23 : Int32.toInt (q_4.1 24 1) = Int32.toInt (q.1 24 1) := by rw [i_7.1 24 1 (by decide) (by decide)]
    have w_24 : Int32.toInt (q_12.1 24 1) = Int32.toInt (q_4.1 24 1) := by rw [a_15.1 24 1 (by decide) (by decide)]
    refine dOk_le (A := Int32.toInt (q_12.1 24 1)) (B := Int32.toInt x1_13) rfl rfl (fun c_25 => ?_) (fun c_26 => ?_)
    · unfold zX4_readSum_s24_59
      exact dOk_some (show (TC q_12) ∧ (cFr [31] [(24, 4), (24, 5), (24, 6), (24, 7), (24, 8), (24, 9), (24, 10), (25, 7)] q q_12) ∧ (Int32.toInt (q_12.1 24 9) = Int32.toInt (q.1 24 9)) from ⟨a_14, hFq_12, by omega⟩)
    · refine dOk_eq (A := Int32.toInt (q_12.1 24 10)) (B := (-1)) rfl (by decide) (fun c_27z c_27 => ?_) (fun c_28z c_28 => ?_)
      · have f_30 : 0 ≤ Int32.toInt (q_12.1 24 0) ∧ Int32.toInt (q_12.1 24 0) ≤ 1 := rg_24_0 a_14
        have f_31 : 0 ≤ Int32.toInt (q_4.1 24 0) ∧ Int32.toInt (q_4.1 24 0) ≤ 1 := rg_24_0 i_6
        have w_32 : Int32.toInt (q_4.1 24 0) = Int32.toInt (q.1 24 0) := by rw [i_7.1 24 0 (by decide) (by decide)]
        have w_33 : Int32.toInt (q_12.1 24 0) = Int32.toInt (q_4.1 24 0) := by rw [a_15.1 24 0 (by decide) (by decide)]
        refine dOk_B (ok_X4_signIn_s24_t5 q_12 2 a_14 (show ¬ Int32.toInt (q_12.1 24 0) = 0 by omega) (show 0 ≤ (2 : Int) by omega) (show (2 : Int) ≤ 10 by omega)) (fun r_34 q_35 h_36 => ?_)
        replace h_36 : (q_35 = q_12) ∧ (-1 ≤ Int32.toInt r_34) ∧ (Int32.toInt r_34 ≤ (2 : Int) + 1) := h_36
        obtain ⟨i_37, i_38, i_39⟩ := h_36
        subst q_35
        refine dOk_eq (A := Int32.toInt r_34) (B := (-1)) rfl (by decide) (fun c_40z c_40 => ?_) (fun c_41z c_41 => ?_)
        · exact dOk_some (show (TC q_12) ∧ (cFr [31] [(24, 4), (24, 5), (24, 6), (24, 7), (24, 8), (24, 9), (24, 10), (25, 7)] q q_12) ∧ (Int32.toInt (q_12.1 24 9) = Int32.toInt (q.1 24 9)) from ⟨a_14, hFq_12, by omega⟩)
        · refine dOk_V (ok_X4_step_s24 q_12 a_14 (show ¬ Int32.toInt (q_12.1 24 0) = 0 by omega)) (fun q_43 h_44 => ?_)
          replace h_44 : (TC q_43) ∧ (cFr [] [(24, 4), (24, 5), (24, 6), (24, 7)] q_12 q_43) := h_44
          obtain ⟨i_45, i_46⟩ := h_44
          have hFq_43 : cFr [31] [(24, 4), (24, 5), (24, 6), (24, 7), (24, 8), (24, 9), (24, 10), (25, 7)] q q_43 := hFq_12.t i_46 (by decide) (by decide)
          have f_47 : 0 ≤ Int32.toInt (q_43.1 24 0) ∧ Int32.toInt (q_43.1 24 0) ≤ 1 := rg_24_0 i_45
          have w_48 : Int32.toInt (q_43.1 24 0) = Int32.toInt (q_12.1 24 0) := by rw [i_46.1 24 0 (by decide) (by decide)]
          have f_49 : 0 ≤ Int32.toInt (q_43.1 24 3) ∧ Int32.toInt (q_43.1 24 3) ≤ 1 := rg_24_3 i_45
          have f_50 : 0 ≤ Int32.toInt (q_12.1 24 3) ∧ Int32.toInt (q_12.1 24 3) ≤ 1 := rg_24_3 a_14
          have f_51 : 0 ≤ Int32.toInt (q_4.1 24 3) ∧ Int32.toInt (q_4.1 24 3) ≤ 1 := rg_24_3 i_6
          have w_52 : Int32.toInt (q_4.1 24 3) = Int32.toInt (q.1 24 3) := by rw [i_7.1 24 3 (by decide) (by decide)]
          have w_53 : Int32.toInt (q_12.1 24 3) = Int32.toInt (q_4.1 24 3) := by rw [a_15.1 24 3 (by decide) (by decide)]
          have w_54 : Int32.toInt (q_43.1 24 3) = Int32.toInt (q_12.1 24 3) := by rw [i_46.1 24 3 (by decide) (by decide)]
          have f_55 : 0 ≤ Int32.toInt (q_43.1 24 9) ∧ Int32.toInt (q_43.1 24 9) ≤ 8 := rg_24_9 i_45
          have w_56 : Int32.toInt (q_43.1 24 9) = Int32.toInt (q_12.1 24 9) := by rw [i_46.1 24 9 (by decide) (by decide)]
          refine dOk_V (ok_X4_readTerm_s24 kS n hkS q_43 i_45 (show ¬ Int32.toInt (q_43.1 24 0) = 0 by omega) (show ¬ Int32.toInt (q_43.1 24 3) = 0 by omega) (show 9 - Int32.toInt (q_43.1 24 9) ≤ (n : Int) + 1 by omega)) (fun q_57 h_58 => ?_)
          replace h_58 : (TC q_57) ∧ (cFr [31] [(24, 4), (24, 5), (24, 6), (24, 7), (24, 8), (24, 9), (24, 10), (25, 7)] q_43 q_57) ∧ (Int32.toInt (q_57.1 24 9) = Int32.toInt (q_43.1 24 9)) := h_58
          obtain ⟨i_59, i_60, i_61⟩ := h_58
          have hFq_57 : cFr [31] [(24, 4), (24, 5), (24, 6), (24, 7), (24, 8), (24, 9), (24, 10), (25, 7)] q q_57 := hFq_43.t i_60 (by decide) (by decide)
          have f_62 : 0 ≤ Int32.toInt (q_57.1 24 9) ∧ Int32.toInt (q_57.1 24 9) ≤ 8 := rg_24_9 i_59
          have f_63 : 0 ≤ Int32.toInt (q_57.1 24 3) ∧ Int32.toInt (q_57.1 24 3) ≤ 1 := rg_24_3 i_59
          have w_64 : Int32.toInt (q_57.1 24 3) = Int32.toInt (q_43.1 24 3) := by rw [i_60.1 24 3 (by decide) (by decide)]
          refine dOk_G (dnz_ok (show ¬ Int32.toInt (q_57.1 24 3) = 0 by omega)) ?_
          refine dOk_V (ok_X7_emit_s25 q_57 r_34 0 i_59 (show 0 ≤ Int32.toInt r_34 ∧ Int32.toInt r_34 ≤ 12 by omega) (show 0 ≤ (0 : Int) ∧ (0 : Int) ≤ 2000 by omega)) (fun q_65 h_66 => ?_)
          replace h_66 : (TC q_65) ∧ (cFr [31] [(25, 7)] q_57 q_65) := h_66
          obtain ⟨i_67, i_68⟩ := h_66
          have hFq_65 : cFr [31] [(24, 4), (24, 5), (24, 6), (24, 7), (24, 8), (24, 9), (24, 10), (25, 7)] q q_65 := hFq_57.t i_68 (by decide) (by decide)
          try have t_69 : Int32.toInt (x1_13 + 1) = Int32.toInt x1_13 + 1 := ti_add rfl (by decide) (by omega) (by omega)
          have f_70 : 0 ≤ Int32.toInt (q_65.1 24 9) ∧ Int32.toInt (q_65.1 24 9) ≤ 8 := rg_24_9 i_67
          have w_71 : Int32.toInt (q_65.1 24 9) = Int32.toInt (q_57.1 24 9) := by rw [i_68.1 24 9 (by decide) (by decide)]
          exact hk_10 (q_65, (x1_13 + 1)) (show (TC q_65) ∧ (cFr [31] [(24, 4), (24, 5), (24, 6), (24, 7), (24, 8), (24, 9), (24, 10), (25, 7)] q_4 q_65) ∧ (0 ≤ Int32.toInt (x1_13 + 1)) ∧ (Int32.toInt (x1_13 + 1) ≤ 400) ∧ (Int32.toInt (q_65.1 24 9) = Int32.toInt (q_4.1 24 9)) from ⟨i_67, ((((((((cFr.rf : cFr [31] [(24, 4), (24, 5), (24, 6), (24, 7), (24, 8), (24, 9), (24, 10), (25, 7)] q_4 q_4).t a_15 (by decide) (by decide)) : cFr [31] [(24, 4), (24, 5), (24, 6), (24, 7), (24, 8), (24, 9), (24, 10), (25, 7)] q_4 q_12).t i_46 (by decide) (by decide)) : cFr [31] [(24, 4), (24, 5), (24, 6), (24, 7), (24, 8), (24, 9), (24, 10), (25, 7)] q_4 q_43).t i_60 (by decide) (by decide)) : cFr [31] [(24, 4), (24, 5), (24, 6), (24, 7), (24, 8), (24, 9), (24, 10), (25, 7)] q_4 q_57).t i_68 (by decide) (by decide)), by omega, by omega, by omega⟩) (show (400 - Int32.toInt (x1_13 + 1)).toNat < (400 - Int32.toInt x1_13).toNat by omega)
      · unfold zX4_readSum_s24_59
        exact dOk_some (show (TC q_12) ∧ (cFr [31] [(24, 4), (24, 5), (24, 6), (24, 7), (24, 8), (24, 9), (24, 10), (25, 7)] q q_12) ∧ (Int32.toInt (q_12.1 24 9) = Int32.toInt (q.1 24 9)) from ⟨a_14, hFq_12, by omega⟩)
  · exact (show (TC q_4) ∧ (cFr [31] [(24, 4), (24, 5), (24, 6), (24, 7), (24, 8), (24, 9), (24, 10), (25, 7)] q_4 q_4) ∧ (0 ≤ (0 : Int)) ∧ ((0 : Int) ≤ 400) ∧ (Int32.toInt (q_4.1 24 9) = Int32.toInt (q_4.1 24 9)) from ⟨i_6, cFr.rf, by omega, by omega, by omega⟩)
  · show (400 - (0 : Int)).toNat < 1000000000000
    omega

theorem ok_X4_readSum_s24 (n : Nat) : ∀ (q : dK) (hT : TC q) (hp0 : ¬ Int32.toInt (q.1 24 0) = 0) (hp1 : ¬ Int32.toInt (q.1 24 3) = 0) (hp2 : 9 - Int32.toInt (q.1 24 9) ≤ (n : Int)), dOk (zX4_readSum_s24 n q) (fun (o : dK) => (TC o) ∧ (cFr [31] [(24, 4), (24, 5), (24, 6), (24, 7), (24, 8), (24, 9), (24, 10), (25, 7)] q o) ∧ (Int32.toInt (o.1 24 9) = Int32.toInt (q.1 24 9))) := by
  induction n with
  | zero =>
    intro q hT hp0 hp1 hp2
    have f := rg_24_9 hT
    exfalso
    omega
  | succ n ih =>
    intro q hT hp0 hp1 hp2
    show dOk (zX4_readSum_s24_o (zX4_readSum_s24 n) q) _
    exact ok_X4_readSum_s24_o (zX4_readSum_s24 n) n ih q hT hp0 hp1 (by omega)
