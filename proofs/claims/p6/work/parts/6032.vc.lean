set_option maxHeartbeats 4000000 in
set_option maxRecDepth 100000 in
theorem ok_X4_read_s24_s46_s25 (q : dK) (p2 : Int32) (p3 : Int32) (hT : TC q) (hp0 : 0 ≤ Int32.toInt p2) (hp1 : Int32.toInt p3 = 0 ∨ Int32.toInt p3 = 1) : dOk (zX4_read_s24_s46_s25 q p2 p3) (fun (o : Int32 × dK) => (TC o.2) ∧ (cFr [26, 27, 28, 29, 30, 31] [(24, 0), (24, 1), (24, 2), (24, 3), (24, 4), (24, 5), (24, 6), (24, 7), (24, 8), (24, 9), (24, 10), (25, 6), (25, 7)] q o.2)) := by
  unfold zX4_read_s24_s46_s25
  refine dOk_L (fun q_1 eq_1 => ?_)
  have hTq_1 : TC q_1 := by rw [eq_1]; exact st_24_0 hT (show (0 : Int) ≤ (1 : Int) by omega) (show (1 : Int) ≤ (1 : Int) by omega)
  have hFq_1 : cFr [26, 27, 28, 29, 30, 31] [(24, 0), (24, 1), (24, 2), (24, 3), (24, 4), (24, 5), (24, 6), (24, 7), (24, 8), (24, 9), (24, 10), (25, 6), (25, 7)] q q_1 := by rw [eq_1]; exact (cFr.rf (q := q)).f (by decide)
  refine dOk_L (fun q_2 eq_2 => ?_)
  have t_3 : Int32.toInt (mnI p2 400) ≤ Int32.toInt p2 ∧ Int32.toInt (mnI p2 400) ≤ 400 ∧ (Int32.toInt (mnI p2 400) = Int32.toInt p2 ∨ Int32.toInt (mnI p2 400) = 400) := mn_le
  have hTq_2 : TC q_2 := by rw [eq_2]; exact st_24_1 hTq_1 (show (0 : Int) ≤ Int32.toInt (mnI p2 400) by omega) (show Int32.toInt (mnI p2 400) ≤ (400 : Int) by omega)
  have hFq_2 : cFr [26, 27, 28, 29, 30, 31] [(24, 0), (24, 1), (24, 2), (24, 3), (24, 4), (24, 5), (24, 6), (24, 7), (24, 8), (24, 9), (24, 10), (25, 6), (25, 7)] q q_2 := by rw [eq_2]; exact hFq_1.f (by decide)
  refine dOk_G (dbl_ok (show Int32.toInt p3 = 0 ∨ Int32.toInt p3 = 1 by omega)) ?_
  refine dOk_L (fun q_4 eq_4 => ?_)
  have hTq_4 : TC q_4 := by rw [eq_4]; exact st_24_2 hTq_2 (show (0 : Int) ≤ Int32.toInt p3 by omega) (show Int32.toInt p3 ≤ (1 : Int) by omega)
  have hFq_4 : cFr [26, 27, 28, 29, 30, 31] [(24, 0), (24, 1), (24, 2), (24, 3), (24, 4), (24, 5), (24, 6), (24, 7), (24, 8), (24, 9), (24, 10), (25, 6), (25, 7)] q q_4 := by rw [eq_4]; exact hFq_2.f (by decide)
  refine dOk_L (fun q_5 eq_5 => ?_)
  have hTq_5 : TC q_5 := by rw [eq_5]; exact st_24_3 hTq_4 (show (0 : Int) ≤ (1 : Int) by omega) (show (1 : Int) ≤ (1 : Int) by omega)
  have hFq_5 : cFr [26, 27, 28, 29, 30, 31] [(24, 0), (24, 1), (24, 2), (24, 3), (24, 4), (24, 5), (24, 6), (24, 7), (24, 8), (24, 9), (24, 10), (25, 6), (25, 7)] q q_5 := by rw [eq_5]; exact hFq_4.f (by decide)
  have f_6 : 0 ≤ Int32.toInt (q_5.1 24 3) ∧ Int32.toInt (q_5.1 24 3) ≤ 1 := rg_24_3 hTq_5
  have w_7 : Int32.toInt (q_5.1 24 3) = (1 : Int) := by rw [eq_5, cui_e]; decide
  refine dOk_G (dnz_ok (show ¬ Int32.toInt (q_5.1 24 3) = 0 by omega)) ?_
  refine dOk_V (ok_X7_clear_s25 q_5 hTq_5) (fun q_8 h_9 => ?_)
  replace h_9 : (TC q_8) ∧ (cFr [] [(25, 6), (25, 7)] q_5 q_8) := h_9
  obtain ⟨i_10, i_11⟩ := h_9
  have hFq_8 : cFr [26, 27, 28, 29, 30, 31] [(24, 0), (24, 1), (24, 2), (24, 3), (24, 4), (24, 5), (24, 6), (24, 7), (24, 8), (24, 9), (24, 10), (25, 6), (25, 7)] q q_8 := hFq_5.t i_11 (by decide) (by decide)
  refine dOk_L (fun q_12 eq_12 => ?_)
  have hTq_12 : TC q_12 := by rw [eq_12]; exact st_24_6 i_10 (show (0 : Int) ≤ (0 : Int) by omega) (show (0 : Int) ≤ (400 : Int) by omega)
  have hFq_12 : cFr [26, 27, 28, 29, 30, 31] [(24, 0), (24, 1), (24, 2), (24, 3), (24, 4), (24, 5), (24, 6), (24, 7), (24, 8), (24, 9), (24, 10), (25, 6), (25, 7)] q q_12 := by rw [eq_12]; exact hFq_8.f (by decide)
  refine dOk_L (fun q_13 eq_13 => ?_)
  have hTq_13 : TC q_13 := by rw [eq_13]; exact st_24_8 hTq_12 (show (0 : Int) ≤ (0 : Int) by omega) (show (0 : Int) ≤ (50 : Int) by omega)
  have hFq_13 : cFr [26, 27, 28, 29, 30, 31] [(24, 0), (24, 1), (24, 2), (24, 3), (24, 4), (24, 5), (24, 6), (24, 7), (24, 8), (24, 9), (24, 10), (25, 6), (25, 7)] q q_13 := by rw [eq_13]; exact hFq_12.f (by decide)
  refine dOk_L (fun q_14 eq_14 => ?_)
  have hTq_14 : TC q_14 := by rw [eq_14]; exact st_24_9 hTq_13 (show (0 : Int) ≤ (0 : Int) by omega) (show (0 : Int) ≤ (8 : Int) by omega)
  have hFq_14 : cFr [26, 27, 28, 29, 30, 31] [(24, 0), (24, 1), (24, 2), (24, 3), (24, 4), (24, 5), (24, 6), (24, 7), (24, 8), (24, 9), (24, 10), (25, 6), (25, 7)] q q_14 := by rw [eq_14]; exact hFq_13.f (by decide)
  refine dOk_L (fun q_15 eq_15 => ?_)
  have hTq_15 : TC q_15 := by rw [eq_15]; exact sa_24_10 hTq_14
  have hFq_15 : cFr [26, 27, 28, 29, 30, 31] [(24, 0), (24, 1), (24, 2), (24, 3), (24, 4), (24, 5), (24, 6), (24, 7), (24, 8), (24, 9), (24, 10), (25, 6), (25, 7)] q q_15 := by rw [eq_15]; exact hFq_14.f (by decide)
  have f_16 : 0 ≤ Int32.toInt (q_15.1 24 0) ∧ Int32.toInt (q_15.1 24 0) ≤ 1 := rg_24_0 hTq_15
  have f_17 : 0 ≤ Int32.toInt (q_14.1 24 0) ∧ Int32.toInt (q_14.1 24 0) ≤ 1 := rg_24_0 hTq_14
  have f_18 : 0 ≤ Int32.toInt (q_13.1 24 0) ∧ Int32.toInt (q_13.1 24 0) ≤ 1 := rg_24_0 hTq_13
  have f_19 : 0 ≤ Int32.toInt (q_12.1 24 0) ∧ Int32.toInt (q_12.1 24 0) ≤ 1 := rg_24_0 hTq_12
  have f_20 : 0 ≤ Int32.toInt (q_8.1 24 0) ∧ Int32.toInt (q_8.1 24 0) ≤ 1 := rg_24_0 i_10
  have f_21 : 0 ≤ Int32.toInt (q_5.1 24 0) ∧ Int32.toInt (q_5.1 24 0) ≤ 1 := rg_24_0 hTq_5
  have f_22 : 0 ≤ Int32.toInt (q_4.1 24 0) ∧ Int32.toInt (q_4.1 24 0) ≤ 1 := rg_24_0 hTq_4
  have f_23 : 0 ≤ Int32.toInt (q_2.1 24 0) ∧ Int32.toInt (q_2.1 24 0) ≤ 1 := rg_24_0 hTq_2
  have f_24 : 0 ≤ Int32.toInt (q_1.1 24 0) ∧ Int32.toInt (q_1.1 24 0) ≤ 1 := rg_24_0 hTq_1
  have w_25 : Int32.toInt (q_1.1 24 0) = (1 : Int) := by rw [eq_1, cui_e]; decide
  have w_26 : Int32.toInt (q_2.1 24 0) = Int32.toInt (q_1.1 24 0) := by rw [eq_2, cui_n (by decide)]
  have w_27 : Int32.toInt (q_4.1 24 0) = Int32.toInt (q_2.1 24 0) := by rw [eq_4, cui_n (by decide)]
  have w_28 : Int32.toInt (q_5.1 24 0) = Int32.toInt (q_4.1 24 0) := by rw [eq_5, cui_n (by decide)]
  have w_29 : Int32.toInt (q_8.1 24 0) = Int32.toInt (q_5.1 24 0) := by rw [i_11.1 24 0 (by decide) (by decide)]
  have w_30 : Int32.toInt (q_12.1 24 0) = Int32.toInt (q_8.1 24 0) := by rw [eq_12, cui_n (by decide)]
  have w_31 : Int32.toInt (q_13.1 24 0) = Int32.toInt (q_12.1 24 0) := by rw [eq_13, cui_n (by decide)]
  have w_32 : Int32.toInt (q_14.1 24 0) = Int32.toInt (q_13.1 24 0) := by rw [eq_14, cui_n (by decide)]
  have w_33 : Int32.toInt (q_15.1 24 0) = Int32.toInt (q_14.1 24 0) := by rw [eq_15, cui_n (by decide)]
  refine dOk_V (ok_X4_step_s24 q_15 hTq_15 (show ¬ Int32.toInt (q_15.1 24 0) = 0 by omega)) (fun q_34 h_35 => ?_)
  replace h_35 : (TC q_34) ∧ (cFr [] [(24, 4), (24, 5), (24, 6), (24, 7)] q_15 q_34) := h_35
  obtain ⟨i_36, i_37⟩ := h_35
  have hFq_34 : cFr [26, 27, 28, 29, 30, 31] [(24, 0), (24, 1), (24, 2), (24, 3), (24, 4), (24, 5), (24, 6), (24, 7), (24, 8), (24, 9), (24, 10), (25, 6), (25, 7)] q q_34 := hFq_15.t i_37 (by decide) (by decide)
  unfold zX4_read_s24_s46_s25_60
  refine dFix_ok (fun (a : dK × Int32) => (TC a.1) ∧ (cFr [26, 27, 28, 29, 30, 31] [(24, 4), (24, 5), (24, 6), (24, 7), (24, 8), (24, 9), (24, 10), (25, 6), (25, 7)] q_34 a.1) ∧ (0 ≤ Int32.toInt a.2) ∧ (Int32.toInt a.2 ≤ 13) ∧ (¬ Int32.toInt (a.1.1 24 0) = 0) ∧ (¬ Int32.toInt (a.1.1 24 3) = 0)) (fun (a : dK × Int32) => (13 - Int32.toInt a.2).toNat) ?_ _ ?_ _ (dF_gt ?_)
  · intro a ha k_39 hk_38
    obtain ⟨q_40, x5_41⟩ := a
    replace ha : (TC q_40) ∧ (cFr [26, 27, 28, 29, 30, 31] [(24, 4), (24, 5), (24, 6), (24, 7), (24, 8), (24, 9), (24, 10), (25, 6), (25, 7)] q_34 q_40) ∧ (0 ≤ Int32.toInt x5_41) ∧ (Int32.toInt x5_41 ≤ 13) ∧ (¬ Int32.toInt (q_40.1 24 0) = 0) ∧ (¬ Int32.toInt (q_40.1 24 3) = 0) := ha
    obtain ⟨a_42, a_43, a_44, a_45, a_46, a_47⟩ := ha
    show dOk (zX4_read_s24_s46_s25_60b  (fun q x5 => k_39 (q, x5)) q_40 x5_41) _
    unfold zX4_read_s24_s46_s25_60b
    have hFq_40 : cFr [26, 27, 28, 29, 30, 31] [(24, 0), (24, 1), (24, 2), (24, 3), (24, 4), (24, 5), (24, 6), (24, 7), (24, 8), (24, 9), (24, 10), (25, 6), (25, 7)] q q_40 := hFq_34.t a_43 (by decide) (by decide)
    have f_48 : 0 ≤ Int32.toInt (q_40.1 24 0) ∧ Int32.toInt (q_40.1 24 0) ≤ 1 := rg_24_0 a_42
    have f_49 : 0 ≤ Int32.toInt (q_34.1 24 0) ∧ Int32.toInt (q_34.1 24 0) ≤ 1 := rg_24_0 i_36
    have w_50 : Int32.toInt (q_34.1 24 0) = Int32.toInt (q_15.1 24 0) := by rw [i_37.1 24 0 (by decide) (by decide)]
    have w_51 : Int32.toInt (q_40.1 24 0) = Int32.toInt (q_34.1 24 0) := by rw [a_43.1 24 0 (by decide) (by decide)]
    have f_52 : 0 ≤ Int32.toInt (q_40.1 24 3) ∧ Int32.toInt (q_40.1 24 3) ≤ 1 := rg_24_3 a_42
    have f_53 : 0 ≤ Int32.toInt (q_34.1 24 3) ∧ Int32.toInt (q_34.1 24 3) ≤ 1 := rg_24_3 i_36
    have f_54 : 0 ≤ Int32.toInt (q_15.1 24 3) ∧ Int32.toInt (q_15.1 24 3) ≤ 1 := rg_24_3 hTq_15
    have f_55 : 0 ≤ Int32.toInt (q_14.1 24 3) ∧ Int32.toInt (q_14.1 24 3) ≤ 1 := rg_24_3 hTq_14
    have f_56 : 0 ≤ Int32.toInt (q_13.1 24 3) ∧ Int32.toInt (q_13.1 24 3) ≤ 1 := rg_24_3 hTq_13
    have f_57 : 0 ≤ Int32.toInt (q_12.1 24 3) ∧ Int32.toInt (q_12.1 24 3) ≤ 1 := rg_24_3 hTq_12
    have f_58 : 0 ≤ Int32.toInt (q_8.1 24 3) ∧ Int32.toInt (q_8.1 24 3) ≤ 1 := rg_24_3 i_10
    have w_59 : Int32.toInt (q_8.1 24 3) = Int32.toInt (q_5.1 24 3) := by rw [i_11.1 24 3 (by decide) (by decide)]
    have w_60 : Int32.toInt (q_12.1 24 3) = Int32.toInt (q_8.1 24 3) := by rw [eq_12, cui_n (by decide)]
    have w_61 : Int32.toInt (q_13.1 24 3) = Int32.toInt (q_12.1 24 3) := by rw [eq_13, cui_n (by decide)]
    have w_62 : Int32.toInt (q_14.1 24 3) = Int32.toInt (q_13.1 24 3) := by rw [eq_14, cui_n (by decide)]
    have w_63 : Int32.toInt (q_15.1 24 3) = Int32.toInt (q_14.1 24 3) := by rw [eq_15, cui_n (by decide)]
    have w_64 : Int32.toInt (q_34.1 24 3) = Int32.toInt (q_15.1 24 3) := by rw [i_37.1 24 3 (by decide) (by decide)]
    have w_65 : Int32.toInt (q_40.1 24 3) = Int32.toInt (q_34.1 24 3) := by rw [a_43.1 24 3 (by decide) (by decide)]
    refine dOk_lt (A := 12) (B := Int32.toInt x5_41) (by decide) rfl (fun c_66 => ?_) (fun c_67 => ?_)
    · unfold zX4_read_s24_s46_s25_122
      exact dOk_some (show (TC q_40) ∧ (cFr [26, 27, 28, 29, 30, 31] [(24, 0), (24, 1), (24, 2), (24, 3), (24, 4), (24, 5), (24, 6), (24, 7), (24, 8), (24, 9), (24, 10), (25, 6), (25, 7)] q q_40) from ⟨a_42, hFq_40⟩)
    · refine dOk_eq (A := Int32.toInt (q_40.1 24 10)) (B := (-1)) rfl (by decide) (fun c_68z c_68 => ?_) (fun c_69z c_69 => ?_)
      · refine dOk_eq (A := Int32.toInt x5_41) (B := 12) rfl (by decide) (fun c_71z c_71 => ?_) (fun c_72z c_72 => ?_)
        · refine dOk_V (ok_X4_fail_s24 q_40 a_42) (fun q_74 h_75 => ?_)
          replace h_75 : (TC q_74) ∧ (cFr [] [(24, 10)] q_40 q_74) := h_75
          obtain ⟨i_76, i_77⟩ := h_75
          have hFq_74 : cFr [26, 27, 28, 29, 30, 31] [(24, 0), (24, 1), (24, 2), (24, 3), (24, 4), (24, 5), (24, 6), (24, 7), (24, 8), (24, 9), (24, 10), (25, 6), (25, 7)] q q_74 := hFq_40.t i_77 (by decide) (by decide)
          unfold zX4_read_s24_s46_s25_93
          refine dOk_eq (A := Int32.toInt (q_74.1 24 10)) (B := (-1)) rfl (by decide) (fun c_78z c_78 => ?_) (fun c_79z c_79 => ?_)
          · have w_81 : Int32.toInt (q_74.1 24 4) = Int32.toInt (q_40.1 24 4) := by rw [i_77.1 24 4 (by decide) (by decide)]
            refine dOk_eq (A := Int32.toInt (q_74.1 24 4)) (B := 0) rfl (by decide) (fun c_82z c_82 => ?_) (fun c_83z c_83 => ?_)
            · exact dOk_some (show (TC q_74) ∧ (cFr [26, 27, 28, 29, 30, 31] [(24, 0), (24, 1), (24, 2), (24, 3), (24, 4), (24, 5), (24, 6), (24, 7), (24, 8), (24, 9), (24, 10), (25, 6), (25, 7)] q q_74) from ⟨i_76, hFq_74⟩)
            · unfold zX4_read_s24_s46_s25_110
              have f_85 : 0 ≤ Int32.toInt (q_74.1 24 0) ∧ Int32.toInt (q_74.1 24 0) ≤ 1 := rg_24_0 i_76
              have w_86 : Int32.toInt (q_74.1 24 0) = Int32.toInt (q_40.1 24 0) := by rw [i_77.1 24 0 (by decide) (by decide)]
              refine dOk_V (ok_X4_expectSign_s24 q_74 59 i_76 (show ¬ Int32.toInt (q_74.1 24 0) = 0 by omega)) (fun q_87 h_88 => ?_)
              replace h_88 : (TC q_87) ∧ (cFr [] [(24, 4), (24, 5), (24, 6), (24, 7), (24, 10)] q_74 q_87) := h_88
              obtain ⟨i_89, i_90⟩ := h_88
              have hFq_87 : cFr [26, 27, 28, 29, 30, 31] [(24, 0), (24, 1), (24, 2), (24, 3), (24, 4), (24, 5), (24, 6), (24, 7), (24, 8), (24, 9), (24, 10), (25, 6), (25, 7)] q q_87 := hFq_74.t i_90 (by decide) (by decide)
              try have t_91 : Int32.toInt (x5_41 + 1) = Int32.toInt x5_41 + 1 := ti_add rfl (by decide) (by omega) (by omega)
              have f_92 : 0 ≤ Int32.toInt (q_87.1 24 0) ∧ Int32.toInt (q_87.1 24 0) ≤ 1 := rg_24_0 i_89
              have w_93 : Int32.toInt (q_87.1 24 0) = Int32.toInt (q_74.1 24 0) := by rw [i_90.1 24 0 (by decide) (by decide)]
              have f_94 : 0 ≤ Int32.toInt (q_87.1 24 3) ∧ Int32.toInt (q_87.1 24 3) ≤ 1 := rg_24_3 i_89
              have f_95 : 0 ≤ Int32.toInt (q_74.1 24 3) ∧ Int32.toInt (q_74.1 24 3) ≤ 1 := rg_24_3 i_76
              have w_96 : Int32.toInt (q_74.1 24 3) = Int32.toInt (q_40.1 24 3) := by rw [i_77.1 24 3 (by decide) (by decide)]
              have w_97 : Int32.toInt (q_87.1 24 3) = Int32.toInt (q_74.1 24 3) := by rw [i_90.1 24 3 (by decide) (by decide)]
              exact hk_38 (q_87, (x5_41 + 1)) (show (TC q_87) ∧ (cFr [26, 27, 28, 29, 30, 31] [(24, 4), (24, 5), (24, 6), (24, 7), (24, 8), (24, 9), (24, 10), (25, 6), (25, 7)] q_34 q_87) ∧ (0 ≤ Int32.toInt (x5_41 + 1)) ∧ (Int32.toInt (x5_41 + 1) ≤ 13) ∧ (¬ Int32.toInt (q_87.1 24 0) = 0) ∧ (¬ Int32.toInt (q_87.1 24 3) = 0) from ⟨i_89, ((((((cFr.rf : cFr [26, 27, 28, 29, 30, 31] [(24, 4), (24, 5), (24, 6), (24, 7), (24, 8), (24, 9), (24, 10), (25, 6), (25, 7)] q_34 q_34).t a_43 (by decide) (by decide)) : cFr [26, 27, 28, 29, 30, 31] [(24, 4), (24, 5), (24, 6), (24, 7), (24, 8), (24, 9), (24, 10), (25, 6), (25, 7)] q_34 q_40).t i_77 (by decide) (by decide)) : cFr [26, 27, 28, 29, 30, 31] [(24, 4), (24, 5), (24, 6), (24, 7), (24, 8), (24, 9), (24, 10), (25, 6), (25, 7)] q_34 q_74).t i_90 (by decide) (by decide)), by omega, by omega, by omega, by omega⟩) (show (13 - Int32.toInt (x5_41 + 1)).toNat < (13 - Int32.toInt x5_41).toNat by omega)
          · unfold zX4_read_s24_s46_s25_110
            have f_98 : 0 ≤ Int32.toInt (q_74.1 24 0) ∧ Int32.toInt (q_74.1 24 0) ≤ 1 := rg_24_0 i_76
            have w_99 : Int32.toInt (q_74.1 24 0) = Int32.toInt (q_40.1 24 0) := by rw [i_77.1 24 0 (by decide) (by decide)]
            refine dOk_V (ok_X4_expectSign_s24 q_74 59 i_76 (show ¬ Int32.toInt (q_74.1 24 0) = 0 by omega)) (fun q_100 h_101 => ?_)
            replace h_101 : (TC q_100) ∧ (cFr [] [(24, 4), (24, 5), (24, 6), (24, 7), (24, 10)] q_74 q_100) := h_101
            obtain ⟨i_102, i_103⟩ := h_101
            have hFq_100 : cFr [26, 27, 28, 29, 30, 31] [(24, 0), (24, 1), (24, 2), (24, 3), (24, 4), (24, 5), (24, 6), (24, 7), (24, 8), (24, 9), (24, 10), (25, 6), (25, 7)] q q_100 := hFq_74.t i_103 (by decide) (by decide)
            try have t_104 : Int32.toInt (x5_41 + 1) = Int32.toInt x5_41 + 1 := ti_add rfl (by decide) (by omega) (by omega)
            have f_105 : 0 ≤ Int32.toInt (q_100.1 24 0) ∧ Int32.toInt (q_100.1 24 0) ≤ 1 := rg_24_0 i_102
            have w_106 : Int32.toInt (q_100.1 24 0) = Int32.toInt (q_74.1 24 0) := by rw [i_103.1 24 0 (by decide) (by decide)]
            have f_107 : 0 ≤ Int32.toInt (q_100.1 24 3) ∧ Int32.toInt (q_100.1 24 3) ≤ 1 := rg_24_3 i_102
            have f_108 : 0 ≤ Int32.toInt (q_74.1 24 3) ∧ Int32.toInt (q_74.1 24 3) ≤ 1 := rg_24_3 i_76
            have w_109 : Int32.toInt (q_74.1 24 3) = Int32.toInt (q_40.1 24 3) := by rw [i_77.1 24 3 (by decide) (by decide)]
            have w_110 : Int32.toInt (q_100.1 24 3) = Int32.toInt (q_74.1 24 3) := by rw [i_103.1 24 3 (by decide) (by decide)]
            exact hk_38 (q_100, (x5_41 + 1)) (show (TC q_100) ∧ (cFr [26, 27, 28, 29, 30, 31] [(24, 4), (24, 5), (24, 6), (24, 7), (24, 8), (24, 9), (24, 10), (25, 6), (25, 7)] q_34 q_100) ∧ (0 ≤ Int32.toInt (x5_41 + 1)) ∧ (Int32.toInt (x5_41 + 1) ≤ 13) ∧ (¬ Int32.toInt (q_100.1 24 0) = 0) ∧ (¬ Int32.toInt (q_100.1 24 3) = 0) from ⟨i_102, ((((((cFr.rf : cFr [26, 27, 28, 29, 30, 31] [(24, 4), (24, 5), (24, 6), (24, 7), (24, 8), (24, 9), (24, 10), (25, 6), (25, 7)] q_34 q_34).t a_43 (by decide) (by decide)) : cFr [26, 27, 28, 29, 30, 31] [(24, 4), (24, 5), (24, 6), (24, 7), (24, 8), (24, 9), (24, 10), (25, 6), (25, 7)] q_34 q_40).t i_77 (by decide) (by decide)) : cFr [26, 27, 28, 29, 30, 31] [(24, 4), (24, 5), (24, 6), (24, 7), (24, 8), (24, 9), (24, 10), (25, 6), (25, 7)] q_34 q_74).t i_103 (by decide) (by decide)), by omega, by omega, by omega, by omega⟩) (show (13 - Int32.toInt (x5_41 + 1)).toNat < (13 - Int32.toInt x5_41).toNat by omega)
        · refine dOk_V (ok_X4_readClause_s24 q_40 a_42 (show ¬ Int32.toInt (q_40.1 24 0) = 0 by omega) (show ¬ Int32.toInt (q_40.1 24 3) = 0 by omega)) (fun q_111 h_112 => ?_)
          replace h_112 : (TC q_111) ∧ (cFr [26, 27, 28, 29, 30, 31] [(24, 4), (24, 5), (24, 6), (24, 7), (24, 8), (24, 9), (24, 10), (25, 6), (25, 7)] q_40 q_111) := h_112
          obtain ⟨i_113, i_114⟩ := h_112
          have hFq_111 : cFr [26, 27, 28, 29, 30, 31] [(24, 0), (24, 1), (24, 2), (24, 3), (24, 4), (24, 5), (24, 6), (24, 7), (24, 8), (24, 9), (24, 10), (25, 6), (25, 7)] q q_111 := hFq_40.t i_114 (by decide) (by decide)
          unfold zX4_read_s24_s46_s25_93
          refine dOk_eq (A := Int32.toInt (q_111.1 24 10)) (B := (-1)) rfl (by decide) (fun c_115z c_115 => ?_) (fun c_116z c_116 => ?_)
          · refine dOk_eq (A := Int32.toInt (q_111.1 24 4)) (B := 0) rfl (by decide) (fun c_118z c_118 => ?_) (fun c_119z c_119 => ?_)
            · exact dOk_some (show (TC q_111) ∧ (cFr [26, 27, 28, 29, 30, 31] [(24, 0), (24, 1), (24, 2), (24, 3), (24, 4), (24, 5), (24, 6), (24, 7), (24, 8), (24, 9), (24, 10), (25, 6), (25, 7)] q q_111) from ⟨i_113, hFq_111⟩)
            · unfold zX4_read_s24_s46_s25_110
              have f_121 : 0 ≤ Int32.toInt (q_111.1 24 0) ∧ Int32.toInt (q_111.1 24 0) ≤ 1 := rg_24_0 i_113
              have w_122 : Int32.toInt (q_111.1 24 0) = Int32.toInt (q_40.1 24 0) := by rw [i_114.1 24 0 (by decide) (by decide)]
              refine dOk_V (ok_X4_expectSign_s24 q_111 59 i_113 (show ¬ Int32.toInt (q_111.1 24 0) = 0 by omega)) (fun q_123 h_124 => ?_)
              replace h_124 : (TC q_123) ∧ (cFr [] [(24, 4), (24, 5), (24, 6), (24, 7), (24, 10)] q_111 q_123) := h_124
              obtain ⟨i_125, i_126⟩ := h_124
              have hFq_123 : cFr [26, 27, 28, 29, 30, 31] [(24, 0), (24, 1), (24, 2), (24, 3), (24, 4), (24, 5), (24, 6), (24, 7), (24, 8), (24, 9), (24, 10), (25, 6), (25, 7)] q q_123 := hFq_111.t i_126 (by decide) (by decide)
              try have t_127 : Int32.toInt (x5_41 + 1) = Int32.toInt x5_41 + 1 := ti_add rfl (by decide) (by omega) (by omega)
              have f_128 : 0 ≤ Int32.toInt (q_123.1 24 0) ∧ Int32.toInt (q_123.1 24 0) ≤ 1 := rg_24_0 i_125
              have w_129 : Int32.toInt (q_123.1 24 0) = Int32.toInt (q_111.1 24 0) := by rw [i_126.1 24 0 (by decide) (by decide)]
              have f_130 : 0 ≤ Int32.toInt (q_123.1 24 3) ∧ Int32.toInt (q_123.1 24 3) ≤ 1 := rg_24_3 i_125
              have f_131 : 0 ≤ Int32.toInt (q_111.1 24 3) ∧ Int32.toInt (q_111.1 24 3) ≤ 1 := rg_24_3 i_113
              have w_132 : Int32.toInt (q_111.1 24 3) = Int32.toInt (q_40.1 24 3) := by rw [i_114.1 24 3 (by decide) (by decide)]
              have w_133 : Int32.toInt (q_123.1 24 3) = Int32.toInt (q_111.1 24 3) := by rw [i_126.1 24 3 (by decide) (by decide)]
              exact hk_38 (q_123, (x5_41 + 1)) (show (TC q_123) ∧ (cFr [26, 27, 28, 29, 30, 31] [(24, 4), (24, 5), (24, 6), (24, 7), (24, 8), (24, 9), (24, 10), (25, 6), (25, 7)] q_34 q_123) ∧ (0 ≤ Int32.toInt (x5_41 + 1)) ∧ (Int32.toInt (x5_41 + 1) ≤ 13) ∧ (¬ Int32.toInt (q_123.1 24 0) = 0) ∧ (¬ Int32.toInt (q_123.1 24 3) = 0) from ⟨i_125, ((((((cFr.rf : cFr [26, 27, 28, 29, 30, 31] [(24, 4), (24, 5), (24, 6), (24, 7), (24, 8), (24, 9), (24, 10), (25, 6), (25, 7)] q_34 q_34).t a_43 (by decide) (by decide)) : cFr [26, 27, 28, 29, 30, 31] [(24, 4), (24, 5), (24, 6), (24, 7), (24, 8), (24, 9), (24, 10), (25, 6), (25, 7)] q_34 q_40).t i_114 (by decide) (by decide)) : cFr [26, 27, 28, 29, 30, 31] [(24, 4), (24, 5), (24, 6), (24, 7), (24, 8), (24, 9), (24, 10), (25, 6), (25, 7)] q_34 q_111).t i_126 (by decide) (by decide)), by omega, by omega, by omega, by omega⟩) (show (13 - Int32.toInt (x5_41 + 1)).toNat < (13 - Int32.toInt x5_41).toNat by omega)
          · unfold zX4_read_s24_s46_s25_110
            have f_134 : 0 ≤ Int32.toInt (q_111.1 24 0) ∧ Int32.toInt (q_111.1 24 0) ≤ 1 := rg_24_0 i_113
            have w_135 : Int32.toInt (q_111.1 24 0) = Int32.toInt (q_40.1 24 0) := by rw [i_114.1 24 0 (by decide) (by decide)]
            refine dOk_V (ok_X4_expectSign_s24 q_111 59 i_113 (show ¬ Int32.toInt (q_111.1 24 0) = 0 by omega)) (fun q_136 h_137 => ?_)
            replace h_137 : (TC q_136) ∧ (cFr [] [(24, 4), (24, 5), (24, 6), (24, 7), (24, 10)] q_111 q_136) := h_137
            obtain ⟨i_138, i_139⟩ := h_137
            have hFq_136 : cFr [26, 27, 28, 29, 30, 31] [(24, 0), (24, 1), (24, 2), (24, 3), (24, 4), (24, 5), (24, 6), (24, 7), (24, 8), (24, 9), (24, 10), (25, 6), (25, 7)] q q_136 := hFq_111.t i_139 (by decide) (by decide)
            try have t_140 : Int32.toInt (x5_41 + 1) = Int32.toInt x5_41 + 1 := ti_add rfl (by decide) (by omega) (by omega)
            have f_141 : 0 ≤ Int32.toInt (q_136.1 24 0) ∧ Int32.toInt (q_136.1 24 0) ≤ 1 := rg_24_0 i_138
            have w_142 : Int32.toInt (q_136.1 24 0) = Int32.toInt (q_111.1 24 0) := by rw [i_139.1 24 0 (by decide) (by decide)]
            have f_143 : 0 ≤ Int32.toInt (q_136.1 24 3) ∧ Int32.toInt (q_136.1 24 3) ≤ 1 := rg_24_3 i_138
            have f_144 : 0 ≤ Int32.toInt (q_111.1 24 3) ∧ Int32.toInt (q_111.1 24 3) ≤ 1 := rg_24_3 i_113
            have w_145 : Int32.toInt (q_111.1 24 3) = Int32.toInt (q_40.1 24 3) := by rw [i_114.1 24 3 (by decide) (by decide)]
            have w_146 : Int32.toInt (q_136.1 24 3) = Int32.toInt (q_111.1 24 3) := by rw [i_139.1 24 3 (by decide) (by decide)]
            exact hk_38 (q_136, (x5_41 + 1)) (show (TC q_136) ∧ (cFr [26, 27, 28, 29, 30, 31] [(24, 4), (24, 5), (24, 6), (24, 7), (24, 8), (24, 9), (24, 10), (25, 6), (25, 7)] q_34 q_136) ∧ (0 ≤ Int32.toInt (x5_41 + 1)) ∧ (Int32.toInt (x5_41 + 1) ≤ 13) ∧ (¬ Int32.toInt (q_136.1 24 0) = 0) ∧ (¬ Int32.toInt (q_136.1 24 3) = 0) from ⟨i_138, ((((((cFr.rf : cFr [26, 27, 28, 29, 30, 31] [(24, 4), (24, 5), (24, 6), (24, 7), (24, 8), (24, 9), (24, 10), (25, 6), (25, 7)] q_34 q_34).t a_43 (by decide) (by decide)) : cFr [26, 27, 28, 29, 30, 31] [(24, 4), (24, 5), (24, 6), (24, 7), (24, 8), (24, 9), (24, 10), (25, 6), (25, 7)] q_34 q_40).t i_114 (by decide) (by decide)) : cFr [26, 27, 28, 29, 30, 31] [(24, 4), (24, 5), (24, 6), (24, 7), (24, 8), (24, 9), (24, 10), (25, 6), (25, 7)] q_34 q_111).t i_139 (by decide) (by decide)), by omega, by omega, by omega, by omega⟩) (show (13 - Int32.toInt (x5_41 + 1)).toNat < (13 - Int32.toInt x5_41).toNat by omega)
      · unfold zX4_read_s24_s46_s25_122
        exact dOk_some (show (TC q_40) ∧ (cFr [26, 27, 28, 29, 30, 31] [(24, 0), (24, 1), (24, 2), (24, 3), (24, 4), (24, 5), (24, 6), (24, 7), (24, 8), (24, 9), (24, 10), (25, 6), (25, 7)] q q_40) from ⟨a_42, hFq_40⟩)
  · have f_147 : 0 ≤ Int32.toInt (q_34.1 24 0) ∧ Int32.toInt (q_34.1 24 0) ≤ 1 := rg_24_0 i_36
    have w_148 : Int32.toInt (q_34.1 24 0) = Int32.toInt (q_15.1 24 0) := by rw [i_37.1 24 0 (by decide) (by decide)]
    have f_149 : 0 ≤ Int32.toInt (q_34.1 24 3) ∧ Int32.toInt (q_34.1 24 3) ≤ 1 := rg_24_3 i_36
    have f_150 : 0 ≤ Int32.toInt (q_15.1 24 3) ∧ Int32.toInt (q_15.1 24 3) ≤ 1 := rg_24_3 hTq_15
    have f_151 : 0 ≤ Int32.toInt (q_14.1 24 3) ∧ Int32.toInt (q_14.1 24 3) ≤ 1 := rg_24_3 hTq_14
    have f_152 : 0 ≤ Int32.toInt (q_13.1 24 3) ∧ Int32.toInt (q_13.1 24 3) ≤ 1 := rg_24_3 hTq_13
    have f_153 : 0 ≤ Int32.toInt (q_12.1 24 3) ∧ Int32.toInt (q_12.1 24 3) ≤ 1 := rg_24_3 hTq_12
    have f_154 : 0 ≤ Int32.toInt (q_8.1 24 3) ∧ Int32.toInt (q_8.1 24 3) ≤ 1 := rg_24_3 i_10
    have w_155 : Int32.toInt (q_8.1 24 3) = Int32.toInt (q_5.1 24 3) := by rw [i_11.1 24 3 (by decide) (by decide)]
    have w_156 : Int32.toInt (q_12.1 24 3) = Int32.toInt (q_8.1 24 3) := by rw [eq_12, cui_n (by decide)]
    have w_157 : Int32.toInt (q_13.1 24 3) = Int32.toInt (q_12.1 24 3) := by rw [eq_13, cui_n (by decide)]
    have w_158 : Int32.toInt (q_14.1 24 3) = Int32.toInt (q_13.1 24 3) := by rw [eq_14, cui_n (by decide)]
    have w_159 : Int32.toInt (q_15.1 24 3) = Int32.toInt (q_14.1 24 3) := by rw [eq_15, cui_n (by decide)]
    have w_160 : Int32.toInt (q_34.1 24 3) = Int32.toInt (q_15.1 24 3) := by rw [i_37.1 24 3 (by decide) (by decide)]
    exact (show (TC q_34) ∧ (cFr [26, 27, 28, 29, 30, 31] [(24, 4), (24, 5), (24, 6), (24, 7), (24, 8), (24, 9), (24, 10), (25, 6), (25, 7)] q_34 q_34) ∧ (0 ≤ (0 : Int)) ∧ ((0 : Int) ≤ 13) ∧ (¬ Int32.toInt (q_34.1 24 0) = 0) ∧ (¬ Int32.toInt (q_34.1 24 3) = 0) from ⟨i_36, cFr.rf, by omega, by omega, by omega, by omega⟩)
  · show (13 - (0 : Int)).toNat < 1000000000000
    omega

set_option maxHeartbeats 4000000 in
set_option maxRecDepth 100000 in
theorem ok_X5_setWords_s22_s2 (q : dK) (hT : TC q) : dOk (zX5_setWords_s22_s2 q) (fun (o : dK) => (TC o) ∧ (cFr [23] [] q o)) := by
  unfold zX5_setWords_s22_s2
  refine dOk_L (fun q_1 eq_1 => ?_)
  have hTq_1 : TC q_1 := by rw [eq_1]; exact sa_23 hT
  have hFq_1 : cFr [23] [] q q_1 := by rw [eq_1]; exact (cFr.rf (q := q)).i (by decide)
  refine dOk_L (fun q_2 eq_2 => ?_)
  have hTq_2 : TC q_2 := by rw [eq_2]; exact sa_23 hTq_1
  have hFq_2 : cFr [23] [] q q_2 := by rw [eq_2]; exact hFq_1.i (by decide)
  refine dOk_L (fun q_3 eq_3 => ?_)
  have hTq_3 : TC q_3 := by rw [eq_3]; exact sa_23 hTq_2
  have hFq_3 : cFr [23] [] q q_3 := by rw [eq_3]; exact hFq_2.i (by decide)
  refine dOk_L (fun q_4 eq_4 => ?_)
  have hTq_4 : TC q_4 := by rw [eq_4]; exact sa_23 hTq_3
  have hFq_4 : cFr [23] [] q q_4 := by rw [eq_4]; exact hFq_3.i (by decide)
  refine dOk_B (ok_X8_gapCount_s2 q_4 hTq_4) (fun r_5 q_6 h_7 => ?_)
  replace h_7 : (q_6 = q_4) := h_7
  have i_8 := h_7
  subst q_6
  refine dOk_L (fun q_9 eq_9 => ?_)
  have hTq_9 : TC q_9 := by rw [eq_9]; exact sa_23 hTq_4
  have hFq_9 : cFr [23] [] q q_9 := by rw [eq_9]; exact hFq_4.i (by decide)
  unfold zX5_setWords_s22_s2_52
  refine dFix_ok (fun (a : dK × Int32) => (TC a.1) ∧ (cFr [23] [] q_9 a.1) ∧ (0 ≤ Int32.toInt a.2) ∧ (Int32.toInt a.2 ≤ 6)) (fun (a : dK × Int32) => (6 - Int32.toInt a.2).toNat) ?_ _ ?_ _ (dF_gt ?_)
  · intro a ha k_11 hk_10
    obtain ⟨q_12, x2_13⟩ := a
    replace ha : (TC q_12) ∧ (cFr [23] [] q_9 q_12) ∧ (0 ≤ Int32.toInt x2_13) ∧ (Int32.toInt x2_13 ≤ 6) := ha
    obtain ⟨a_14, a_15, a_16, a_17⟩ := ha
    show dOk (zX5_setWords_s22_s2_52b  (fun q x2 => k_11 (q, x2)) q_12 x2_13) _
    unfold zX5_setWords_s22_s2_52b
    have hFq_12 : cFr [23] [] q q_12 := hFq_9.t a_15 (by decide) (by decide)
    refine dOk_le (A := 6) (B := Int32.toInt x2_13) (by decide) rfl (fun c_18 => ?_) (fun c_19 => ?_)
    · exact dOk_some (show (TC q_12) ∧ (cFr [23] [] q q_12) from ⟨a_14, hFq_12⟩)
    · refine dOk_B (ok_X8_tell_s2 q_12 x2_13 0 a_14) (fun r_20 q_21 h_22 => ?_)
      replace h_22 : (q_21 = q_12) ∧ (-1 ≤ Int32.toInt r_20 ∧ Int32.toInt r_20 ≤ 7) := h_22
      obtain ⟨i_23, i_24⟩ := h_22
      subst q_21
      try have t_25 : Int32.toInt (5 + x2_13) = 5 + Int32.toInt x2_13 := ti_add (by decide) rfl (by omega) (by omega)
      refine dOk_G (dg_ok (show 0 ≤ Int32.toInt (5 + x2_13) by omega) (show Int32.toInt (5 + x2_13) < ((17 : Nat) : Int) by omega)) ?_
      have n_26 : ((Int32.toNatClampNeg (5 + x2_13) : Nat) : Int) = Int32.toInt (5 + x2_13) := cl_eq (by omega)
      refine dOk_L (fun q_27 eq_27 => ?_)
      have hTq_27 : TC q_27 := by rw [eq_27]; exact sa_23 a_14
      have hFq_27 : cFr [23] [] q q_27 := by rw [eq_27]; exact hFq_12.i (by decide)
      refine dOk_B (ok_X8_tell_s2 q_27 x2_13 1 hTq_27) (fun r_28 q_29 h_30 => ?_)
      replace h_30 : (q_29 = q_27) ∧ (-1 ≤ Int32.toInt r_28 ∧ Int32.toInt r_28 ≤ 7) := h_30
      obtain ⟨i_31, i_32⟩ := h_30
      subst q_29
      try have t_33 : Int32.toInt (11 + x2_13) = 11 + Int32.toInt x2_13 := ti_add (by decide) rfl (by omega) (by omega)
      refine dOk_G (dg_ok (show 0 ≤ Int32.toInt (11 + x2_13) by omega) (show Int32.toInt (11 + x2_13) < ((17 : Nat) : Int) by omega)) ?_
      have n_34 : ((Int32.toNatClampNeg (11 + x2_13) : Nat) : Int) = Int32.toInt (11 + x2_13) := cl_eq (by omega)
      refine dOk_L (fun q_35 eq_35 => ?_)
      have hTq_35 : TC q_35 := by rw [eq_35]; exact sa_23 hTq_27
      have hFq_35 : cFr [23] [] q q_35 := by rw [eq_35]; exact hFq_27.i (by decide)
      try have t_36 : Int32.toInt (x2_13 + 1) = Int32.toInt x2_13 + 1 := ti_add rfl (by decide) (by omega) (by omega)
      exact hk_10 (q_35, (x2_13 + 1)) (show (TC q_35) ∧ (cFr [23] [] q_9 q_35) ∧ (0 ≤ Int32.toInt (x2_13 + 1)) ∧ (Int32.toInt (x2_13 + 1) ≤ 6) from ⟨hTq_35, (by rw [eq_35]; exact ((by rw [eq_27]; exact (((cFr.rf : cFr [23] [] q_9 q_9).t a_15 (by decide) (by decide)) : cFr [23] [] q_9 q_12).i (by decide)) : cFr [23] [] q_9 q_27).i (by decide)), by omega, by omega⟩) (show (6 - Int32.toInt (x2_13 + 1)).toNat < (6 - Int32.toInt x2_13).toNat by omega)
  · exact (show (TC q_9) ∧ (cFr [23] [] q_9 q_9) ∧ (0 ≤ (0 : Int)) ∧ ((0 : Int) ≤ 6) from ⟨hTq_9, cFr.rf, by omega, by omega⟩)
  · show (6 - (0 : Int)).toNat < 1000000000000
    omega
