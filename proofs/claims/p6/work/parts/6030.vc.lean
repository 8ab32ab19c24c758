set_option maxHeartbeats 4000000 in
set_option maxRecDepth 100000 in
theorem ok_X4_readTest_s24_o (kT : dK → Option (dK)) (n : Nat) (hkT : ∀ q9 : dK, TC q9 → (¬ Int32.toInt (q9.1 24 0) = 0) → (¬ Int32.toInt (q9.1 24 3) = 0) → (9 - Int32.toInt (q9.1 24 9) ≤ (n : Int)) → dOk (kT q9) (fun (o : dK) => (TC o) ∧ (cFr [31] [(24, 4), (24, 5), (24, 6), (24, 7), (24, 8), (24, 9), (24, 10), (25, 7)] q9 o) ∧ (Int32.toInt (o.1 24 9) = Int32.toInt (q9.1 24 9)))) (q : dK) (hT : TC q) (hp0 : ¬ Int32.toInt (q.1 24 0) = 0) (hp1 : ¬ Int32.toInt (q.1 24 3) = 0) (hp2 : 9 - Int32.toInt (q.1 24 9) ≤ (n : Int) + 1) : dOk (zX4_readTest_s24_o kT q) (fun (o : dK) => (TC o) ∧ (cFr [31] [(24, 4), (24, 5), (24, 6), (24, 7), (24, 8), (24, 9), (24, 10), (25, 7)] q o) ∧ (Int32.toInt (o.1 24 9) = Int32.toInt (q.1 24 9))) := by
  unfold zX4_readTest_s24_o
  have f_1 : 0 ≤ Int32.toInt (q.1 24 0) ∧ Int32.toInt (q.1 24 0) ≤ 1 := rg_24_0 hT
  have f_2 : 0 ≤ Int32.toInt (q.1 24 3) ∧ Int32.toInt (q.1 24 3) ≤ 1 := rg_24_3 hT
  have f_3 : 0 ≤ Int32.toInt (q.1 24 9) ∧ Int32.toInt (q.1 24 9) ≤ 8 := rg_24_9 hT
  refine dOk_V (ok_X4_readBoth_s24 kT n hkT q hT (show ¬ Int32.toInt (q.1 24 0) = 0 by omega) (show ¬ Int32.toInt (q.1 24 3) = 0 by omega) (show 9 - Int32.toInt (q.1 24 9) ≤ (n : Int) + 1 by omega)) (fun q_4 h_5 => ?_)
  replace h_5 : (TC q_4) ∧ (cFr [31] [(24, 4), (24, 5), (24, 6), (24, 7), (24, 8), (24, 9), (24, 10), (25, 7)] q q_4) ∧ (Int32.toInt (q_4.1 24 9) = Int32.toInt (q.1 24 9)) := h_5
  obtain ⟨i_6, i_7, i_8⟩ := h_5
  have hFq_4 : cFr [31] [(24, 4), (24, 5), (24, 6), (24, 7), (24, 8), (24, 9), (24, 10), (25, 7)] q q_4 := (cFr.rf (q := q)).t i_7 (by decide) (by decide)
  have f_9 : 0 ≤ Int32.toInt (q_4.1 24 9) ∧ Int32.toInt (q_4.1 24 9) ≤ 8 := rg_24_9 i_6
  unfold zX4_readTest_s24_6
  refine dFix_ok (fun (a : dK × Int32) => (TC a.1) ∧ (cFr [31] [(24, 4), (24, 5), (24, 6), (24, 7), (24, 8), (24, 9), (24, 10), (25, 7)] q_4 a.1) ∧ (0 ≤ Int32.toInt a.2) ∧ (Int32.toInt a.2 ≤ 400) ∧ (Int32.toInt (a.1.1 24 9) = Int32.toInt (q_4.1 24 9))) (fun (a : dK × Int32) => (400 - Int32.toInt a.2).toNat) ?_ _ ?_ _ (dF_gt ?_)
  · intro a ha k_11 hk_10
    obtain ⟨q_12, x1_13⟩ := a
    replace ha : (TC q_12) ∧ (cFr [31] [(24, 4), (24, 5), (24, 6), (24, 7), (24, 8), (24, 9), (24, 10), (25, 7)] q_4 q_12) ∧ (0 ≤ Int32.toInt x1_13) ∧ (Int32.toInt x1_13 ≤ 400) ∧ (Int32.toInt (q_12.1 24 9) = Int32.toInt (q_4.1 24 9)) := ha
    obtain ⟨a_14, a_15, a_16, a_17, a_18⟩ := ha
    show dOk (zX4_readTest_s24_6b kT (fun q x1 => k_11 (q, x1)) q_12 x1_13) _
    unfold zX4_readTest_s24_6b
    have hFq_12 : cFr [31] [(24, 4), (24, 5), (24, 6), (24, 7), (24, 8), (24, 9), (24, 10), (25, 7)] q q_12 := hFq_4.t a_15 (by decide) (by decide)
    have f_19 : 0 ≤ Int32.toInt (q_12.1 24 9) ∧ Int32.toInt (q_12.1 24 9) ≤ 8 := rg_24_9 a_14
    have f_20 : 0 ≤ Int32.toInt (q_12.1 24 1) ∧ Int32.toInt (q_12.1 24 1) ≤ 400 := rg_24_1 a_14
    have f_21 : 0 ≤ Int32.toInt (q_4.1 24 1) ∧ Int32.toInt (q_4.1 24 1) ≤ 400 := rg_24_1 i_6
    have f_22 : 0 ≤ Int32.toInt (q.1 24 1) ∧ Int32.toInt (q.1 24 1) ≤ 400 := rg_24_1 hT
    have w_23 : Int32.toInt (q_4.1 24 1) = Int32.toInt (q.1 24 1) := by rw [i_7.1 24 1 (by decide) (by decide)]
    have w_24 : Int32.toInt (q_12.1 24 1) = Int32.toInt (q_4.1 24 1) := by rw [a_15.1 24 1 (by decide) (by decide)]
    refine dOk_le (A := Int32.toInt (q_12.1 24 1)) (B := Int32.toInt x1_13) rfl rfl (fun c_25 => ?_) (fun c_26 => ?_)
    · unfold zX4_readTest_s24_73
      exact dOk_some (show (TC q_12) ∧ (cFr [31] [(24, 4), (24, 5), (24, 6), (24, 7), (24, 8), (24, 9), (24, 10), (25, 7)] q q_12) ∧ (Int32.toInt (q_12.1 24 9) = Int32.toInt (q.1 24 9)) from ⟨a_14, hFq_12, by omega⟩)
    · refine dOk_eq (A := Int32.toInt (q_12.1 24 10)) (B := (-1)) rfl (by decide) (fun c_27z c_27 => ?_) (fun c_28z c_28 => ?_)
      · have f_30 : 0 ≤ Int32.toInt (q_12.1 24 0) ∧ Int32.toInt (q_12.1 24 0) ≤ 1 := rg_24_0 a_14
        have f_31 : 0 ≤ Int32.toInt (q_4.1 24 0) ∧ Int32.toInt (q_4.1 24 0) ≤ 1 := rg_24_0 i_6
        have w_32 : Int32.toInt (q_4.1 24 0) = Int32.toInt (q.1 24 0) := by rw [i_7.1 24 0 (by decide) (by decide)]
        have w_33 : Int32.toInt (q_12.1 24 0) = Int32.toInt (q_4.1 24 0) := by rw [a_15.1 24 0 (by decide) (by decide)]
        refine dOk_B (ok_X4_isWord_s24_t11 q_12 a_14 (show ¬ Int32.toInt (q_12.1 24 0) = 0 by omega)) (fun r_34 q_35 h_36 => ?_)
        replace h_36 : (q_35 = q_12) ∧ ((Int32.toInt r_34 = 0 ∨ Int32.toInt r_34 = 1)) := h_36
        obtain ⟨i_37, i_38⟩ := h_36
        subst q_35
        refine dOk_eq (A := Int32.toInt r_34) (B := 0) rfl (by decide) (fun c_39z c_39 => ?_) (fun c_40z c_40 => ?_)
        · unfold zX4_readTest_s24_73
          exact dOk_some (show (TC q_12) ∧ (cFr [31] [(24, 4), (24, 5), (24, 6), (24, 7), (24, 8), (24, 9), (24, 10), (25, 7)] q q_12) ∧ (Int32.toInt (q_12.1 24 9) = Int32.toInt (q.1 24 9)) from ⟨a_14, hFq_12, by omega⟩)
        · have f_42 : 0 ≤ Int32.toInt (q_12.1 24 3) ∧ Int32.toInt (q_12.1 24 3) ≤ 1 := rg_24_3 a_14
          have f_43 : 0 ≤ Int32.toInt (q_4.1 24 3) ∧ Int32.toInt (q_4.1 24 3) ≤ 1 := rg_24_3 i_6
          have w_44 : Int32.toInt (q_4.1 24 3) = Int32.toInt (q.1 24 3) := by rw [i_7.1 24 3 (by decide) (by decide)]
          have w_45 : Int32.toInt (q_12.1 24 3) = Int32.toInt (q_4.1 24 3) := by rw [a_15.1 24 3 (by decide) (by decide)]
          refine dOk_G (dnz_ok (show ¬ Int32.toInt (q_12.1 24 3) = 0 by omega)) ?_
          refine dOk_G (dnz_ok (show ¬ Int32.toInt (q_12.1 24 3) = 0 by omega)) ?_
          refine dOk_V (ok_X7_emit_s25 q_12 12 0 a_14 (show 0 ≤ (12 : Int) ∧ (12 : Int) ≤ 12 by omega) (show 0 ≤ (0 : Int) ∧ (0 : Int) ≤ 2000 by omega)) (fun q_46 h_47 => ?_)
          replace h_47 : (TC q_46) ∧ (cFr [31] [(25, 7)] q_12 q_46) := h_47
          obtain ⟨i_48, i_49⟩ := h_47
          have hFq_46 : cFr [31] [(24, 4), (24, 5), (24, 6), (24, 7), (24, 8), (24, 9), (24, 10), (25, 7)] q q_46 := hFq_12.t i_49 (by decide) (by decide)
          have f_50 : 0 ≤ Int32.toInt (q_46.1 24 0) ∧ Int32.toInt (q_46.1 24 0) ≤ 1 := rg_24_0 i_48
          have w_51 : Int32.toInt (q_46.1 24 0) = Int32.toInt (q_12.1 24 0) := by rw [i_49.1 24 0 (by decide) (by decide)]
          refine dOk_V (ok_X4_step_s24 q_46 i_48 (show ¬ Int32.toInt (q_46.1 24 0) = 0 by omega)) (fun q_52 h_53 => ?_)
          replace h_53 : (TC q_52) ∧ (cFr [] [(24, 4), (24, 5), (24, 6), (24, 7)] q_46 q_52) := h_53
          obtain ⟨i_54, i_55⟩ := h_53
          have hFq_52 : cFr [31] [(24, 4), (24, 5), (24, 6), (24, 7), (24, 8), (24, 9), (24, 10), (25, 7)] q q_52 := hFq_46.t i_55 (by decide) (by decide)
          have f_56 : 0 ≤ Int32.toInt (q_52.1 24 0) ∧ Int32.toInt (q_52.1 24 0) ≤ 1 := rg_24_0 i_54
          have w_57 : Int32.toInt (q_52.1 24 0) = Int32.toInt (q_46.1 24 0) := by rw [i_55.1 24 0 (by decide) (by decide)]
          have f_58 : 0 ≤ Int32.toInt (q_52.1 24 3) ∧ Int32.toInt (q_52.1 24 3) ≤ 1 := rg_24_3 i_54
          have f_59 : 0 ≤ Int32.toInt (q_46.1 24 3) ∧ Int32.toInt (q_46.1 24 3) ≤ 1 := rg_24_3 i_48
          have w_60 : Int32.toInt (q_46.1 24 3) = Int32.toInt (q_12.1 24 3) := by rw [i_49.1 24 3 (by decide) (by decide)]
          have w_61 : Int32.toInt (q_52.1 24 3) = Int32.toInt (q_46.1 24 3) := by rw [i_55.1 24 3 (by decide) (by decide)]
          have f_62 : 0 ≤ Int32.toInt (q_52.1 24 9) ∧ Int32.toInt (q_52.1 24 9) ≤ 8 := rg_24_9 i_54
          have f_63 : 0 ≤ Int32.toInt (q_46.1 24 9) ∧ Int32.toInt (q_46.1 24 9) ≤ 8 := rg_24_9 i_48
          have w_64 : Int32.toInt (q_46.1 24 9) = Int32.toInt (q_12.1 24 9) := by rw [i_49.1 24 9 (by decide) (by decide)]
          have w_65 : Int32.toInt (q_52.1 24 9) = Int32.toInt (q_46.1 24 9) := by rw [i_55.1 24 9 (by decide) (by decide)]
          refine dOk_V (ok_X4_readBoth_s24 kT n hkT q_52 i_54 (show ¬ Int32.toInt (q_52.1 24 0) = 0 by omega) (show ¬ Int32.toInt (q_52.1 24 3) = 0 by omega) (show 9 - Int32.toInt (q_52.1 24 9) ≤ (n : Int) + 1 by omega)) (fun q_66 h_67 => ?_)
          replace h_67 : (TC q_66) ∧ (cFr [31] [(24, 4), (24, 5), (24, 6), (24, 7), (24, 8), (24, 9), (24, 10), (25, 7)] q_52 q_66) ∧ (Int32.toInt (q_66.1 24 9) = Int32.toInt (q_52.1 24 9)) := h_67
          obtain ⟨i_68, i_69, i_70⟩ := h_67
          have hFq_66 : cFr [31] [(24, 4), (24, 5), (24, 6), (24, 7), (24, 8), (24, 9), (24, 10), (25, 7)] q q_66 := hFq_52.t i_69 (by decide) (by decide)
          have f_71 : 0 ≤ Int32.toInt (q_66.1 24 9) ∧ Int32.toInt (q_66.1 24 9) ≤ 8 := rg_24_9 i_68
          have f_72 : 0 ≤ Int32.toInt (q_66.1 24 3) ∧ Int32.toInt (q_66.1 24 3) ≤ 1 := rg_24_3 i_68
          have w_73 : Int32.toInt (q_66.1 24 3) = Int32.toInt (q_52.1 24 3) := by rw [i_69.1 24 3 (by decide) (by decide)]
          refine dOk_G (dnz_ok (show ¬ Int32.toInt (q_66.1 24 3) = 0 by omega)) ?_
          have f_74 : 0 ≤ Int32.toInt (q_12.1 25 7) ∧ Int32.toInt (q_12.1 25 7) ≤ 400 := rg_25_7 a_14
          refine dOk_V (ok_X7_leapHere_s25 q_66 12 (q_12.1 25 7) i_68 (show 0 ≤ (12 : Int) ∧ (12 : Int) ≤ 12 by omega)) (fun q_75 h_76 => ?_)
          replace h_76 : (TC q_75) ∧ (cFr [31] [] q_66 q_75) := h_76
          obtain ⟨i_77, i_78⟩ := h_76
          have hFq_75 : cFr [31] [(24, 4), (24, 5), (24, 6), (24, 7), (24, 8), (24, 9), (24, 10), (25, 7)] q q_75 := hFq_66.t i_78 (by decide) (by decide)
          try have t_79 : Int32.toInt (x1_13 + 1) = Int32.toInt x1_13 + 1 := ti_add rfl (by decide) (by omega) (by omega)
          have f_80 : 0 ≤ Int32.toInt (q_75.1 24 9) ∧ Int32.toInt (q_75.1 24 9) ≤ 8 := rg_24_9 i_77
          have w_81 : Int32.toInt (q_75.1 24 9) = Int32.toInt (q_66.1 24 9) := by rw [i_78.1 24 9 (by decide) (by decide)]
          exact hk_10 (q_75, (x1_13 + 1)) (show (TC q_75) ∧ (cFr [31] [(24, 4), (24, 5), (24, 6), (24, 7), (24, 8), (24, 9), (24, 10), (25, 7)] q_4 q_75) ∧ (0 ≤ Int32.toInt (x1_13 + 1)) ∧ (Int32.toInt (x1_13 + 1) ≤ 400) ∧ (Int32.toInt (q_75.1 24 9) = Int32.toInt (q_4.1 24 9)) from ⟨i_77, ((((((((((cFr.rf : cFr [31] [(24, 4), (24, 5), (24, 6), (24, 7), (24, 8), (24, 9), (24, 10), (25, 7)] q_4 q_4).t a_15 (by decide) (by decide)) : cFr [31] [(24, 4), (24, 5), (24, 6), (24, 7), (24, 8), (24, 9), (24, 10), (25, 7)] q_4 q_12).t i_49 (by decide) (by decide)) : cFr [31] [(24, 4), (24, 5), (24, 6), (24, 7), (24, 8), (24, 9), (24, 10), (25, 7)] q_4 q_46).t i_55 (by decide) (by decide)) : cFr [31] [(24, 4), (24, 5), (24, 6), (24, 7), (24, 8), (24, 9), (24, 10), (25, 7)] q_4 q_52).t i_69 (by decide) (by decide)) : cFr [31] [(24, 4), (24, 5), (24, 6), (24, 7), (24, 8), (24, 9), (24, 10), (25, 7)] q_4 q_66).t i_78 (by decide) (by decide)), by omega, by omega, by omega⟩) (show (400 - Int32.toInt (x1_13 + 1)).toNat < (400 - Int32.toInt x1_13).toNat by omega)
      · unfold zX4_readTest_s24_73
        exact dOk_some (show (TC q_12) ∧ (cFr [31] [(24, 4), (24, 5), (24, 6), (24, 7), (24, 8), (24, 9), (24, 10), (25, 7)] q q_12) ∧ (Int32.toInt (q_12.1 24 9) = Int32.toInt (q.1 24 9)) from ⟨a_14, hFq_12, by omega⟩)
  · exact (show (TC q_4) ∧ (cFr [31] [(24, 4), (24, 5), (24, 6), (24, 7), (24, 8), (24, 9), (24, 10), (25, 7)] q_4 q_4) ∧ (0 ≤ (0 : Int)) ∧ ((0 : Int) ≤ 400) ∧ (Int32.toInt (q_4.1 24 9) = Int32.toInt (q_4.1 24 9)) from ⟨i_6, cFr.rf, by omega, by omega, by omega⟩)
  · show (400 - (0 : Int)).toNat < 1000000000000
    omega

theorem ok_X4_readTest_s24 (n : Nat) : ∀ (q : dK) (hT : TC q) (hp0 : ¬ Int32.toInt (q.1 24 0) = 0) (hp1 : ¬ Int32.toInt (q.1 24 3) = 0) (hp2 : 9 - Int32.toInt (q.1 24 9) ≤ (n : Int)), dOk (zX4_readTest_s24 n q) (fun (o : dK) => (TC o) ∧ (cFr [31] [(24, 4), (24, 5), (24, 6), (24, 7), (24, 8), (24, 9), (24, 10), (25, 7)] q o) ∧ (Int32.toInt (o.1 24 9) = Int32.toInt (q.1 24 9))) := by
  induction n with
  | zero =>
    intro q hT hp0 hp1 hp2
    have f := rg_24_9 hT
    exfalso
    omega
  | succ n ih =>
    intro q hT hp0 hp1 hp2
    show dOk (zX4_readTest_s24_o (zX4_readTest_s24 n) q) _
    exact ok_X4_readTest_s24_o (zX4_readTest_s24 n) n ih q hT hp0 hp1 (by omega)
