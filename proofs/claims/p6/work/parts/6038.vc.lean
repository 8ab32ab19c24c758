set_option maxHeartbeats 4000000 in
set_option maxRecDepth 100000 in
theorem ok_X3_rowsToOrder_s32 (q : dK) (hT : TC q) (hp0 : LD q) (hp1 : 0 ≤ Int32.toInt (q.1 32 15)) (hp2 : Int32.toInt (q.1 32 15) < Int32.toInt (q.1 32 14)) : dOk (zX3_rowsToOrder_s32 q) (fun (o : Int32 × dK) => (TC o.2) ∧ (cFr [37, 42, 43, 44] [(32, 17), (32, 18)] q o.2)) := by
  unfold zX3_rowsToOrder_s32
  have hLs := ld_sz hp0
  refine dOk_V (ok_X3_measure_s32 q hT hp0) (fun q_1 h_2 => ?_)
  replace h_2 : (TC q_1) ∧ (cFr [37, 42, 44] [(32, 17), (32, 18)] q q_1) := h_2
  obtain ⟨i_3, i_4⟩ := h_2
  have hFq_1 : cFr [37, 42, 43, 44] [(32, 17), (32, 18)] q q_1 := (cFr.rf (q := q)).t i_4 (by decide) (by decide)
  have f_5 : 0 ≤ Int32.toInt (q_1.1 32 15) ∧ Int32.toInt (q_1.1 32 15) ≤ 46079 := rg_32_15 i_3
  have f_6 : 0 ≤ Int32.toInt (q.1 32 15) ∧ Int32.toInt (q.1 32 15) ≤ 46079 := rg_32_15 hT
  have w_7 : Int32.toInt (q_1.1 32 15) = Int32.toInt (q.1 32 15) := by rw [i_4.1 32 15 (by decide) (by decide)]
  have f_8 : 0 ≤ Int32.toInt (q_1.1 32 103) ∧ Int32.toInt (q_1.1 32 103) ≤ 46080 := rg_32_103 i_3
  have f_9 : 0 ≤ Int32.toInt (q.1 32 103) ∧ Int32.toInt (q.1 32 103) ≤ 46080 := rg_32_103 hT
  have w_10 : Int32.toInt (q_1.1 32 103) = Int32.toInt (q.1 32 103) := by rw [i_4.1 32 103 (by decide) (by decide)]
  refine dOk_G (dg_ok (show 0 ≤ Int32.toInt (q_1.1 32 15) by omega) (show Int32.toInt (q_1.1 32 15) < ((Int32.toNatClampNeg (q_1.1 32 103) : Nat) : Int) by rw [cl_eq (show 0 ≤ Int32.toInt (q_1.1 32 103) by omega)]; omega)) ?_
  have n_11 : ((Int32.toNatClampNeg (q_1.1 32 15) : Nat) : Int) = Int32.toInt (q_1.1 32 15) := cl_eq (by omega)
  refine dOk_L (fun v_12 ev_12 => ?_)
  refine dOk_eq (A := Int32.toInt v_12) (B := (-1)) rfl (by decide) (fun c_13z c_13 => ?_) (fun c_14z c_14 => ?_)
  · exact dOk_some (show (TC q_1) ∧ (cFr [37, 42, 43, 44] [(32, 17), (32, 18)] q q_1) from ⟨i_3, hFq_1⟩)
  · refine dOk_L (fun q_16 eq_16 => ?_)
    have hTq_16 : TC q_16 := by rw [eq_16]; exact tc_cfi i_3 (by decide)
    have hFq_16 : cFr [37, 42, 43, 44] [(32, 17), (32, 18)] q q_16 := by rw [eq_16]; exact hFq_1.g (by decide)
    have f_17 : 0 ≤ Int32.toInt (q_16.1 32 15) ∧ Int32.toInt (q_16.1 32 15) ≤ 46079 := rg_32_15 hTq_16
    have w_18 : Int32.toInt (q_16.1 32 15) = Int32.toInt (q_1.1 32 15) := by rw [eq_16]; rfl
    have f_19 : 0 ≤ Int32.toInt (q_16.1 32 104) ∧ Int32.toInt (q_16.1 32 104) ≤ 46080 := rg_32_104 hTq_16
    have f_20 : 0 ≤ Int32.toInt (q_1.1 32 104) ∧ Int32.toInt (q_1.1 32 104) ≤ 46080 := rg_32_104 i_3
    have f_21 : 0 ≤ Int32.toInt (q.1 32 104) ∧ Int32.toInt (q.1 32 104) ≤ 46080 := rg_32_104 hT
    have w_22 : Int32.toInt (q_1.1 32 104) = Int32.toInt (q.1 32 104) := by rw [i_4.1 32 104 (by decide) (by decide)]
    have w_23 : Int32.toInt (q_16.1 32 104) = Int32.toInt (q_1.1 32 104) := by rw [eq_16]; rfl
    refine dOk_G (dg_ok (show 0 ≤ Int32.toInt (q_16.1 32 15) by omega) (show Int32.toInt (q_16.1 32 15) < ((Int32.toNatClampNeg (q_16.1 32 104) : Nat) : Int) by rw [cl_eq (show 0 ≤ Int32.toInt (q_16.1 32 104) by omega)]; omega)) ?_
    have n_24 : ((Int32.toNatClampNeg (q_16.1 32 15) : Nat) : Int) = Int32.toInt (q_16.1 32 15) := cl_eq (by omega)
    refine dOk_L (fun q_25 eq_25 => ?_)
    have hTq_25 : TC q_25 := by rw [eq_25]; exact sa_43 hTq_16
    have hFq_25 : cFr [37, 42, 43, 44] [(32, 17), (32, 18)] q q_25 := by rw [eq_25]; exact hFq_16.i (by decide)
    have f_26 : 0 ≤ Int32.toInt (q_25.1 32 105) ∧ Int32.toInt (q_25.1 32 105) ≤ 46080 := rg_32_105 hTq_25
    have f_27 : 0 ≤ Int32.toInt (q_16.1 32 105) ∧ Int32.toInt (q_16.1 32 105) ≤ 46080 := rg_32_105 hTq_16
    have f_28 : 0 ≤ Int32.toInt (q_1.1 32 105) ∧ Int32.toInt (q_1.1 32 105) ≤ 46080 := rg_32_105 i_3
    have f_29 : 0 ≤ Int32.toInt (q.1 32 105) ∧ Int32.toInt (q.1 32 105) ≤ 46080 := rg_32_105 hT
    have w_30 : Int32.toInt (q_1.1 32 105) = Int32.toInt (q.1 32 105) := by rw [i_4.1 32 105 (by decide) (by decide)]
    have w_31 : Int32.toInt (q_16.1 32 105) = Int32.toInt (q_1.1 32 105) := by rw [eq_16]; rfl
    try have w_32 : Int32.toInt (q_25.1 32 105) = Int32.toInt (q_16.1 32 105) := by rw [eq_25, cui_o (by decide)]
    refine dOk_G (dg_ok (show 0 ≤ (0 : Int) by omega) (show (0 : Int) < ((Int32.toNatClampNeg (q_25.1 32 105) : Nat) : Int) by rw [cl_eq (show 0 ≤ Int32.toInt (q_25.1 32 105) by omega)]; omega)) ?_
    refine dOk_L (fun q_33 eq_33 => ?_)
    have hTq_33 : TC q_33 := by rw [eq_33]; exact sa_44 hTq_25
    have hFq_33 : cFr [37, 42, 43, 44] [(32, 17), (32, 18)] q q_33 := by rw [eq_33]; exact hFq_25.i (by decide)
    have f_34 : 0 ≤ Int32.toInt (q_25.1 32 15) ∧ Int32.toInt (q_25.1 32 15) ≤ 46079 := rg_32_15 hTq_25
    try have w_35 : Int32.toInt (q_25.1 32 15) = Int32.toInt (q_16.1 32 15) := by rw [eq_25, cui_o (by decide)]
    have f_36 : 0 ≤ Int32.toInt (q_25.1 32 14) ∧ Int32.toInt (q_25.1 32 14) ≤ 46080 := rg_32_14 hTq_25
    have f_37 : 0 ≤ Int32.toInt (q_16.1 32 14) ∧ Int32.toInt (q_16.1 32 14) ≤ 46080 := rg_32_14 hTq_16
    have f_38 : 0 ≤ Int32.toInt (q_1.1 32 14) ∧ Int32.toInt (q_1.1 32 14) ≤ 46080 := rg_32_14 i_3
    have f_39 : 0 ≤ Int32.toInt (q.1 32 14) ∧ Int32.toInt (q.1 32 14) ≤ 46080 := rg_32_14 hT
    have w_40 : Int32.toInt (q_1.1 32 14) = Int32.toInt (q.1 32 14) := by rw [i_4.1 32 14 (by decide) (by decide)]
    have w_41 : Int32.toInt (q_16.1 32 14) = Int32.toInt (q_1.1 32 14) := by rw [eq_16]; rfl
    try have w_42 : Int32.toInt (q_25.1 32 14) = Int32.toInt (q_16.1 32 14) := by rw [eq_25, cui_o (by decide)]
    have hB_43 : BL q_33 (0 + 1) := by rw [eq_33]; exact bl_p (n := 0) bl_0 (show ((0 : Nat) : Int) = 0 by omega) (show 0 ≤ Int32.toInt (q_25.1 32 15) by omega) (show Int32.toInt (q_25.1 32 15) < Int32.toInt (q_25.1 32 14) by omega)
    unfold zX3_rowsToOrder_s32_53
    refine dFix_ok (fun (a : dK × Int32 × Int32 × Int32) => (TC a.1) ∧ (cFr [43, 44] [] q_33 a.1) ∧ (0 ≤ Int32.toInt a.2.2.2) ∧ (Int32.toInt a.2.2.2 ≤ Int32.toInt a.2.1) ∧ (Int32.toInt a.2.1 ≤ Int32.toInt (q_33.1 32 14)) ∧ (BL a.1 (Int32.toInt a.2.1))) (fun (a : dK × Int32 × Int32 × Int32) => (Int32.toInt (q_33.1 32 14) - Int32.toInt a.2.2.2).toNat) ?_ _ ?_ _ (dF_gt ?_)
    · intro a ha k_45 hk_44
      obtain ⟨q_46, x1_47, x2_48, x3_49⟩ := a
      replace ha : (TC q_46) ∧ (cFr [43, 44] [] q_33 q_46) ∧ (0 ≤ Int32.toInt x3_49) ∧ (Int32.toInt x3_49 ≤ Int32.toInt x1_47) ∧ (Int32.toInt x1_47 ≤ Int32.toInt (q_33.1 32 14)) ∧ (BL q_46 (Int32.toInt x1_47)) := ha
      obtain ⟨a_50, a_51, a_52, a_53, a_54, a_55⟩ := ha
      show dOk (zX3_rowsToOrder_s32_53b  (fun q x1 x2 x3 => k_45 (q, x1, x2, x3)) q_46 x1_47 x2_48 x3_49) _
      unfold zX3_rowsToOrder_s32_53b
      have hFq_46 : cFr [37, 42, 43, 44] [(32, 17), (32, 18)] q q_46 := hFq_33.t a_51 (by decide) (by decide)
      have f_56 : 0 ≤ Int32.toInt (q_33.1 32 14) ∧ Int32.toInt (q_33.1 32 14) ≤ 46080 := rg_32_14 hTq_33
      have w_57 : Int32.toInt (q_33.1 32 14) = Int32.toInt (q_25.1 32 14) := by rw [eq_33, cui_o (by decide)]
      have f_58 : 0 ≤ Int32.toInt (q_46.1 32 14) ∧ Int32.toInt (q_46.1 32 14) ≤ 46080 := rg_32_14 a_50
      have w_59 : Int32.toInt (q_46.1 32 14) = Int32.toInt (q_33.1 32 14) := by rw [a_51.1 32 14 (by decide) (by decide)]
      refine dOk_le (A := Int32.toInt (q_46.1 32 14)) (B := Int32.toInt x3_49) rfl rfl (fun c_60 => ?_) (fun c_61 => ?_)
      · unfold zX3_rowsToOrder_s32_200
        exact dOk_some (show (TC q_46) ∧ (cFr [37, 42, 43, 44] [(32, 17), (32, 18)] q q_46) from ⟨a_50, hFq_46⟩)
      · refine dOk_le (A := Int32.toInt x1_47) (B := Int32.toInt x3_49) rfl rfl (fun c_62 => ?_) (fun c_63 => ?_)
        · unfold zX3_rowsToOrder_s32_200
          exact dOk_some (show (TC q_46) ∧ (cFr [37, 42, 43, 44] [(32, 17), (32, 18)] q q_46) from ⟨a_50, hFq_46⟩)
        · have f_64 : 0 ≤ Int32.toInt (q_46.1 32 105) ∧ Int32.toInt (q_46.1 32 105) ≤ 46080 := rg_32_105 a_50
          have f_65 : 0 ≤ Int32.toInt (q_33.1 32 105) ∧ Int32.toInt (q_33.1 32 105) ≤ 46080 := rg_32_105 hTq_33
          have w_66 : Int32.toInt (q_33.1 32 105) = Int32.toInt (q_25.1 32 105) := by rw [eq_33, cui_o (by decide)]
          have w_67 : Int32.toInt (q_46.1 32 105) = Int32.toInt (q_33.1 32 105) := by rw [a_51.1 32 105 (by decide) (by decide)]
          refine dOk_G (dg_ok (show 0 ≤ Int32.toInt x3_49 by omega) (show Int32.toInt x3_49 < ((Int32.toNatClampNeg (q_46.1 32 105) : Nat) : Int) by rw [cl_eq (show 0 ≤ Int32.toInt (q_46.1 32 105) by omega)]; omega)) ?_
          have n_68 : ((Int32.toNatClampNeg x3_49 : Nat) : Int) = Int32.toInt x3_49 := cl_eq (by omega)
          refine dOk_L (fun v_69 ev_69 => ?_)
          have f_70 : 0 ≤ Int32.toInt v_69 ∧ Int32.toInt v_69 < Int32.toInt (q_46.1 32 14) := by rw [ev_69]; exact a_55 _ (show ((Int32.toNatClampNeg x3_49 : Nat) : Int) < Int32.toInt x1_47 by omega)
          have f_71 : 0 ≤ Int32.toInt (q_46.1 32 103) ∧ Int32.toInt (q_46.1 32 103) ≤ 46080 := rg_32_103 a_50
          have f_72 : 0 ≤ Int32.toInt (q_33.1 32 103) ∧ Int32.toInt (q_33.1 32 103) ≤ 46080 := rg_32_103 hTq_33
          have f_73 : 0 ≤ Int32.toInt (q_25.1 32 103) ∧ Int32.toInt (q_25.1 32 103) ≤ 46080 := rg_32_103 hTq_25
          have f_74 : 0 ≤ Int32.toInt (q_16.1 32 103) ∧ Int32.toInt (q_16.1 32 103) ≤ 46080 := rg_32_103 hTq_16
          have w_75 : Int32.toInt (q_16.1 32 103) = Int32.toInt (q_1.1 32 103) := by rw [eq_16]; rfl
          try have w_76 : Int32.toInt (q_25.1 32 103) = Int32.toInt (q_16.1 32 103) := by rw [eq_25, cui_o (by decide)]
          have w_77 : Int32.toInt (q_33.1 32 103) = Int32.toInt (q_25.1 32 103) := by rw [eq_33, cui_o (by decide)]
          have w_78 : Int32.toInt (q_46.1 32 103) = Int32.toInt (q_33.1 32 103) := by rw [a_51.1 32 103 (by decide) (by decide)]
          refine dOk_G (dg_ok (show 0 ≤ Int32.toInt v_69 by omega) (show Int32.toInt v_69 < ((Int32.toNatClampNeg (q_46.1 32 103) : Nat) : Int) by rw [cl_eq (show 0 ≤ Int32.toInt (q_46.1 32 103) by omega)]; omega)) ?_
          have n_79 : ((Int32.toNatClampNeg v_69 : Nat) : Int) = Int32.toInt v_69 := cl_eq (by omega)
          refine dOk_L (fun v_80 ev_80 => ?_)
          refine dOk_eq (A := Int32.toInt v_80) (B := 0) rfl (by decide) (fun c_81z c_81 => ?_) (fun c_82z c_82 => ?_)
          · have f_84 : 0 ≤ Int32.toInt (q_46.1 32 104) ∧ Int32.toInt (q_46.1 32 104) ≤ 46080 := rg_32_104 a_50
            have f_85 : 0 ≤ Int32.toInt (q_33.1 32 104) ∧ Int32.toInt (q_33.1 32 104) ≤ 46080 := rg_32_104 hTq_33
            have f_86 : 0 ≤ Int32.toInt (q_25.1 32 104) ∧ Int32.toInt (q_25.1 32 104) ≤ 46080 := rg_32_104 hTq_25
            try have w_87 : Int32.toInt (q_25.1 32 104) = Int32.toInt (q_16.1 32 104) := by rw [eq_25, cui_o (by decide)]
            have w_88 : Int32.toInt (q_33.1 32 104) = Int32.toInt (q_25.1 32 104) := by rw [eq_33, cui_o (by decide)]
            have w_89 : Int32.toInt (q_46.1 32 104) = Int32.toInt (q_33.1 32 104) := by rw [a_51.1 32 104 (by decide) (by decide)]
            refine dOk_G (dg_ok (show 0 ≤ Int32.toInt v_69 by omega) (show Int32.toInt v_69 < ((Int32.toNatClampNeg (q_46.1 32 104) : Nat) : Int) by rw [cl_eq (show 0 ≤ Int32.toInt (q_46.1 32 104) by omega)]; omega)) ?_
            refine dOk_L (fun v_90 ev_90 => ?_)
            unfold zX3_rowsToOrder_s32_99
            unfold zX3_rowsToOrder_s32_102
            refine dFix_ok (fun (a : dK × Int32 × Int32 × Int32 × Int32 × Int32) => (TC a.1) ∧ (cFr [43, 44] [] q_46 a.1) ∧ (a.2.2.1 = (mnI 1000000000 (x2_48 + v_90))) ∧ (a.2.2.2.1 = x3_49) ∧ (a.2.2.2.2.1 = v_69) ∧ (1 ≤ Int32.toInt a.2.2.2.2.2) ∧ (Int32.toInt a.2.2.2.2.2 ≤ 7) ∧ (Int32.toInt a.2.2.2.1 < Int32.toInt a.2.1) ∧ (Int32.toInt a.2.1 ≤ Int32.toInt (q_46.1 32 14)) ∧ (BL a.1 (Int32.toInt a.2.1))) (fun (a : dK × Int32 × Int32 × Int32 × Int32 × Int32) => (7 - Int32.toInt a.2.2.2.2.2).toNat) ?_ _ ?_ _ (dF_gt ?_)
            · intro a ha k_92 hk_91
              obtain ⟨q_93, x1_94, x2_95, x3_96, x4_97, x5_98⟩ := a
              replace ha : (TC q_93) ∧ (cFr [43, 44] [] q_46 q_93) ∧ (x2_95 = (mnI 1000000000 (x2_48 + v_90))) ∧ (x3_96 = x3_49) ∧ (x4_97 = v_69) ∧ (1 ≤ Int32.toInt x5_98) ∧ (Int32.toInt x5_98 ≤ 7) ∧ (Int32.toInt x3_96 < Int32.toInt x1_94) ∧ (Int32.toInt x1_94 ≤ Int32.toInt (q_46.1 32 14)) ∧ (BL q_93 (Int32.toInt x1_94)) := ha
              obtain ⟨a_99, a_100, a_101, a_102, a_103, a_104, a_105, a_106, a_107, a_108⟩ := ha
              show dOk (zX3_rowsToOrder_s32_102b _ (fun q x1 x2 x3 x4 x5 => k_92 (q, x1, x2, x3, x4, x5)) q_93 x1_94 x2_95 x3_96 x4_97 x5_98) _
              unfold zX3_rowsToOrder_s32_102b
              have hFq_93 : cFr [37, 42, 43, 44] [(32, 17), (32, 18)] q q_93 := hFq_46.t a_100 (by decide) (by decide)
              subst x2_95
              subst x3_96
              subst x4_97
              have f_109 : 0 ≤ Int32.toInt (q_93.1 32 13) ∧ Int32.toInt (q_93.1 32 13) ≤ 6 := rg_32_13 a_99
              have f_110 : 0 ≤ Int32.toInt (q_46.1 32 13) ∧ Int32.toInt (q_46.1 32 13) ≤ 6 := rg_32_13 a_50
              have f_111 : 0 ≤ Int32.toInt (q_33.1 32 13) ∧ Int32.toInt (q_33.1 32 13) ≤ 6 := rg_32_13 hTq_33
              have f_112 : 0 ≤ Int32.toInt (q_25.1 32 13) ∧ Int32.toInt (q_25.1 32 13) ≤ 6 := rg_32_13 hTq_25
              have f_113 : 0 ≤ Int32.toInt (q_16.1 32 13) ∧ Int32.toInt (q_16.1 32 13) ≤ 6 := rg_32_13 hTq_16
              have f_114 : 0 ≤ Int32.toInt (q_1.1 32 13) ∧ Int32.toInt (q_1.1 32 13) ≤ 6 := rg_32_13 i_3
              have f_115 : 0 ≤ Int32.toInt (q.1 32 13) ∧ Int32.toInt (q.1 32 13) ≤ 6 := rg_32_13 hT
              have w_116 : Int32.toInt (q_1.1 32 13) = Int32.toInt (q.1 32 13) := by rw [i_4.1 32 13 (by decide) (by decide)]
              have w_117 : Int32.toInt (q_16.1 32 13) = Int32.toInt (q_1.1 32 13) := by rw [eq_16]; rfl
              try have w_118 : Int32.toInt (q_25.1 32 13) = Int32.toInt (q_16.1 32 13) := by rw [eq_25, cui_o (by decide)]
              have w_119 : Int32.toInt (q_33.1 32 13) = Int32.toInt (q_25.1 32 13) := by rw [eq_33, cui_o (by decide)]
              have w_120 : Int32.toInt (q_46.1 32 13) = Int32.toInt (q_33.1 32 13) := by rw [a_51.1 32 13 (by decide) (by decide)]
              have w_121 : Int32.toInt (q_93.1 32 13) = Int32.toInt (q_46.1 32 13) := by rw [a_100.1 32 13 (by decide) (by decide)]
              refine dOk_lt (A := Int32.toInt (q_93.1 32 13)) (B := Int32.toInt x5_98) rfl rfl (fun c_122 => ?_) (fun c_123 => ?_)
              · try have t_124 : Int32.toInt (x2_48 + v_90) = Int32.toInt x2_48 + Int32.toInt v_90 := ti_add rfl rfl (by omega) (by omega)
                have t_125 : Int32.toInt (mnI 1000000000 (x2_48 + v_90)) ≤ 1000000000 ∧ Int32.toInt (mnI 1000000000 (x2_48 + v_90)) ≤ Int32.toInt (x2_48 + v_90) ∧ (Int32.toInt (mnI 1000000000 (x2_48 + v_90)) = 1000000000 ∨ Int32.toInt (mnI 1000000000 (x2_48 + v_90)) = Int32.toInt (x2_48 + v_90)) := mn_k (by decide)
                try have t_126 : Int32.toInt (x3_49 + 1) = Int32.toInt x3_49 + 1 := ti_add rfl (by decide) (by omega) (by omega)
                exact hk_44 (q_93, x1_94, (mnI 1000000000 (x2_48 + v_90)), (x3_49 + 1)) (show (TC q_93) ∧ (cFr [43, 44] [] q_33 q_93) ∧ (0 ≤ Int32.toInt (x3_49 + 1)) ∧ (Int32.toInt (x3_49 + 1) ≤ Int32.toInt x1_94) ∧ (Int32.toInt x1_94 ≤ Int32.toInt (q_33.1 32 14)) ∧ (BL q_93 (Int32.toInt x1_94)) from ⟨a_99, ((((cFr.rf : cFr [43, 44] [] q_33 q_33).t a_51 (by decide) (by decide)) : cFr [43, 44] [] q_33 q_46).t a_100 (by decide) (by decide)), by omega, by omega, by omega, bl_c (n := Int32.toInt x1_94) a_108 (show Int32.toInt x1_94 ≤ Int32.toInt x1_94 by omega)⟩) (show (Int32.toInt (q_33.1 32 14) - Int32.toInt (x3_49 + 1)).toNat < (Int32.toInt (q_33.1 32 14) - Int32.toInt x3_49).toNat by omega)
              · have f_127 : 0 ≤ Int32.toInt (q_93.1 32 14) ∧ Int32.toInt (q_93.1 32 14) ≤ 46080 := rg_32_14 a_99
                have w_128 : Int32.toInt (q_93.1 32 14) = Int32.toInt (q_46.1 32 14) := by rw [a_100.1 32 14 (by decide) (by decide)]
                refine dOk_B (ok_X3_isCloser_s32 q_93 v_69 x5_98 a_99 (ld_fr hp0 hFq_93 rfl) (show 0 ≤ Int32.toInt v_69 by omega) (show Int32.toInt v_69 < Int32.toInt (q_93.1 32 14) by omega) (show 1 ≤ Int32.toInt x5_98 by omega) (show Int32.toInt x5_98 ≤ Int32.toInt (q_93.1 32 13) by omega)) (fun r_129 q_130 h_131 => ?_)
                replace h_131 : (q_130 = q_93) ∧ ((Int32.toInt r_129 = 0 ∨ Int32.toInt r_129 = 1)) := h_131
                obtain ⟨i_132, i_133⟩ := h_131
                subst q_130
                refine dOk_eq (A := Int32.toInt r_129) (B := 0) rfl (by decide) (fun c_134z c_134 => ?_) (fun c_135z c_135 => ?_)
                · unfold zX3_rowsToOrder_s32_188
                  try have t_137 : Int32.toInt (x2_48 + v_90) = Int32.toInt x2_48 + Int32.toInt v_90 := ti_add rfl rfl (by omega) (by omega)
                  have t_138 : Int32.toInt (mnI 1000000000 (x2_48 + v_90)) ≤ 1000000000 ∧ Int32.toInt (mnI 1000000000 (x2_48 + v_90)) ≤ Int32.toInt (x2_48 + v_90) ∧ (Int32.toInt (mnI 1000000000 (x2_48 + v_90)) = 1000000000 ∨ Int32.toInt (mnI 1000000000 (x2_48 + v_90)) = Int32.toInt (x2_48 + v_90)) := mn_k (by decide)
                  try have t_139 : Int32.toInt (x5_98 + 1) = Int32.toInt x5_98 + 1 := ti_add rfl (by decide) (by omega) (by omega)
                  exact hk_91 (q_93, x1_94, (mnI 1000000000 (x2_48 + v_90)), x3_49, v_69, (x5_98 + 1)) (show (TC q_93) ∧ (cFr [43, 44] [] q_46 q_93) ∧ ((mnI 1000000000 (x2_48 + v_90)) = (mnI 1000000000 (x2_48 + v_90))) ∧ (x3_49 = x3_49) ∧ (v_69 = v_69) ∧ (1 ≤ Int32.toInt (x5_98 + 1)) ∧ (Int32.toInt (x5_98 + 1) ≤ 7) ∧ (Int32.toInt x3_49 < Int32.toInt x1_94) ∧ (Int32.toInt x1_94 ≤ Int32.toInt (q_46.1 32 14)) ∧ (BL q_93 (Int32.toInt x1_94)) from ⟨a_99, ((cFr.rf : cFr [43, 44] [] q_46 q_46).t a_100 (by decide) (by decide)), rfl, rfl, rfl, by omega, by omega, by omega, by omega, bl_c (n := Int32.toInt x1_94) a_108 (show Int32.toInt x1_94 ≤ Int32.toInt x1_94 by omega)⟩) (show (7 - Int32.toInt (x5_98 + 1)).toNat < (7 - Int32.toInt x5_98).toNat by omega)
                · refine dOk_B (ok_X3_turned_s32 q_93 v_69 x5_98 a_99 (ld_fr hp0 hFq_93 rfl) (show 0 ≤ Int32.toInt v_69 by omega) (show Int32.toInt v_69 < Int32.toInt (q_93.1 32 14) by omega)) (fun r_140 q_141 h_142 => ?_)
                  replace h_142 : (q_141 = q_93) ∧ (0 ≤ Int32.toInt r_140) ∧ (Int32.toInt r_140 < Int32.toInt (q_93.1 32 14)) := h_142
                  obtain ⟨i_143, i_144, i_145⟩ := h_142
                  subst q_141
                  have f_146 : 0 ≤ Int32.toInt (q_93.1 32 104) ∧ Int32.toInt (q_93.1 32 104) ≤ 46080 := rg_32_104 a_99
                  have w_147 : Int32.toInt (q_93.1 32 104) = Int32.toInt (q_46.1 32 104) := by rw [a_100.1 32 104 (by decide) (by decide)]
                  refine dOk_G (dg_ok (show 0 ≤ Int32.toInt r_140 by omega) (show Int32.toInt r_140 < ((Int32.toNatClampNeg (q_93.1 32 104) : Nat) : Int) by rw [cl_eq (show 0 ≤ Int32.toInt (q_93.1 32 104) by omega)]; omega)) ?_
                  have n_148 : ((Int32.toNatClampNeg r_140 : Nat) : Int) = Int32.toInt r_140 := cl_eq (by omega)
                  refine dOk_L (fun v_149 ev_149 => ?_)
                  refine dOk_eq (A := Int32.toInt v_149) (B := 0) rfl (by decide) (fun c_150z c_150 => ?_) (fun c_151z c_151 => ?_)
                  · refine dOk_le (A := Int32.toInt (q_93.1 32 14)) (B := Int32.toInt x1_94) rfl rfl (fun c_153 => ?_) (fun c_154 => ?_)
                    · unfold zX3_rowsToOrder_s32_161
                      refine dOk_G (dg_ok (show 0 ≤ Int32.toInt r_140 by omega) (show Int32.toInt r_140 < ((Int32.toNatClampNeg (q_93.1 32 104) : Nat) : Int) by rw [cl_eq (show 0 ≤ Int32.toInt (q_93.1 32 104) by omega)]; omega)) ?_
                      refine dOk_L (fun v_155 ev_155 => ?_)
                      have w_156 : Int32.toInt v_155 = Int32.toInt v_149 := by rw [ev_155, ev_149]
                      refine dOk_G (dg_ok (show 0 ≤ Int32.toInt v_69 by omega) (show Int32.toInt v_69 < ((Int32.toNatClampNeg (q_93.1 32 104) : Nat) : Int) by rw [cl_eq (show 0 ≤ Int32.toInt (q_93.1 32 104) by omega)]; omega)) ?_
                      refine dOk_L (fun v_157 ev_157 => ?_)
                      refine dOk_G (dg_ok (show 0 ≤ Int32.toInt r_140 by omega) (show Int32.toInt r_140 < ((Int32.toNatClampNeg (q_93.1 32 104) : Nat) : Int) by rw [cl_eq (show 0 ≤ Int32.toInt (q_93.1 32 104) by omega)]; omega)) ?_
                      refine dOk_L (fun q_158 eq_158 => ?_)
                      have hTq_158 : TC q_158 := by rw [eq_158]; exact sa_43 a_99
                      have hFq_158 : cFr [37, 42, 43, 44] [(32, 17), (32, 18)] q q_158 := by rw [eq_158]; exact hFq_93.i (by decide)
                      have hB_159 : BL q_158 (Int32.toInt x1_94) := by rw [eq_158]; exact bl_o a_108 rfl
                      unfold zX3_rowsToOrder_s32_188
                      try have t_160 : Int32.toInt (x2_48 + v_90) = Int32.toInt x2_48 + Int32.toInt v_90 := ti_add rfl rfl (by omega) (by omega)
                      have t_161 : Int32.toInt (mnI 1000000000 (x2_48 + v_90)) ≤ 1000000000 ∧ Int32.toInt (mnI 1000000000 (x2_48 + v_90)) ≤ Int32.toInt (x2_48 + v_90) ∧ (Int32.toInt (mnI 1000000000 (x2_48 + v_90)) = 1000000000 ∨ Int32.toInt (mnI 1000000000 (x2_48 + v_90)) = Int32.toInt (x2_48 + v_90)) := mn_k (by decide)
                      try have t_162 : Int32.toInt (x5_98 + 1) = Int32.toInt x5_98 + 1 := ti_add rfl (by decide) (by omega) (by omega)
                      exact hk_91 (q_158, x1_94, (mnI 1000000000 (x2_48 + v_90)), x3_49, v_69, (x5_98 + 1)) (show (TC q_158) ∧ (cFr [43, 44] [] q_46 q_158) ∧ ((mnI 1000000000 (x2_48 + v_90)) = (mnI 1000000000 (x2_48 + v_90))) ∧ (x3_49 = x3_49) ∧ (v_69 = v_69) ∧ (1 ≤ Int32.toInt (x5_98 + 1)) ∧ (Int32.toInt (x5_98 + 1) ≤ 7) ∧ (Int32.toInt x3_49 < Int32.toInt x1_94) ∧ (Int32.toInt x1_94 ≤ Int32.toInt (q_46.1 32 14)) ∧ (BL q_158 (Int32.toInt x1_94)) from ⟨hTq_158, (by rw [eq_158]; exact (((cFr.rf : cFr [43, 44] [] q_46 q_46).t a_100 (by decide) (by decide)) : cFr [43, 44] [] q_46 q_93).i (by decide)), rfl, rfl, rfl, by omega, by omega, by omega, by omega, bl_c (n := Int32.toInt x1_94) hB_159 (show Int32.toInt x1_94 ≤ Int32.toInt x1_94 by omega)⟩) (show (7 - Int32.toInt (x5_98 + 1)).toNat < (7 - Int32.toInt x5_98).toNat by omega)
                    · have f_163 : 0 ≤ Int32.toInt (q_93.1 32 105) ∧ Int32.toInt (q_93.1 32 105) ≤ 46080 := rg_32_105 a_99
                      have w_164 : Int32.toInt (q_93.1 32 105) = Int32.toInt (q_46.1 32 105) := by rw [a_100.1 32 105 (by decide) (by decide)]
                      refine dOk_G (dg_ok (show 0 ≤ Int32.toInt x1_94 by omega) (show Int32.toInt x1_94 < ((Int32.toNatClampNeg (q_93.1 32 105) : Nat) : Int) by rw [cl_eq (show 0 ≤ Int32.toInt (q_93.1 32 105) by omega)]; omega)) ?_
                      have n_165 : ((Int32.toNatClampNeg x1_94 : Nat) : Int) = Int32.toInt x1_94 := cl_eq (by omega)
                      refine dOk_L (fun q_166 eq_166 => ?_)
                      have hTq_166 : TC q_166 := by rw [eq_166]; exact sa_44 a_99
                      have hFq_166 : cFr [37, 42, 43, 44] [(32, 17), (32, 18)] q q_166 := by rw [eq_166]; exact hFq_93.i (by decide)
                      have hB_167 : BL q_166 (Int32.toInt x1_94 + 1) := by rw [eq_166]; exact bl_p (n := Int32.toInt x1_94) a_108 (show ((Int32.toNatClampNeg x1_94 : Nat) : Int) = Int32.toInt x1_94 by omega) (show 0 ≤ Int32.toInt r_140 by omega) (show Int32.toInt r_140 < Int32.toInt (q_93.1 32 14) by omega)
                      unfold zX3_rowsToOrder_s32_161
                      have f_168 : 0 ≤ Int32.toInt (q_166.1 32 104) ∧ Int32.toInt (q_166.1 32 104) ≤ 46080 := rg_32_104 hTq_166
                      try have w_169 : Int32.toInt (q_166.1 32 104) = Int32.toInt (q_93.1 32 104) := by rw [eq_166, cui_o (by decide)]
                      refine dOk_G (dg_ok (show 0 ≤ Int32.toInt r_140 by omega) (show Int32.toInt r_140 < ((Int32.toNatClampNeg (q_166.1 32 104) : Nat) : Int) by rw [cl_eq (show 0 ≤ Int32.toInt (q_166.1 32 104) by omega)]; omega)) ?_
                      refine dOk_L (fun v_170 ev_170 => ?_)
                      refine dOk_G (dg_ok (show 0 ≤ Int32.toInt v_69 by omega) (show Int32.toInt v_69 < ((Int32.toNatClampNeg (q_166.1 32 104) : Nat) : Int) by rw [cl_eq (show 0 ≤ Int32.toInt (q_166.1 32 104) by omega)]; omega)) ?_
                      refine dOk_L (fun v_171 ev_171 => ?_)
                      refine dOk_G (dg_ok (show 0 ≤ Int32.toInt r_140 by omega) (show Int32.toInt r_140 < ((Int32.toNatClampNeg (q_166.1 32 104) : Nat) : Int) by rw [cl_eq (show 0 ≤ Int32.toInt (q_166.1 32 104) by omega)]; omega)) ?_
                      refine dOk_L (fun q_172 eq_172 => ?_)
                      have hTq_172 : TC q_172 := by rw [eq_172]; exact sa_43 hTq_166
                      have hFq_172 : cFr [37, 42, 43, 44] [(32, 17), (32, 18)] q q_172 := by rw [eq_172]; exact hFq_166.i (by decide)
                      have hB_173 : BL q_172 (Int32.toInt x1_94 + 1) := by rw [eq_172]; exact bl_o hB_167 rfl
                      unfold zX3_rowsToOrder_s32_188
                      try have t_174 : Int32.toInt (x1_94 + 1) = Int32.toInt x1_94 + 1 := ti_add rfl (by decide) (by omega) (by omega)
                      try have t_175 : Int32.toInt (x2_48 + v_90) = Int32.toInt x2_48 + Int32.toInt v_90 := ti_add rfl rfl (by omega) (by omega)
                      have t_176 : Int32.toInt (mnI 1000000000 (x2_48 + v_90)) ≤ 1000000000 ∧ Int32.toInt (mnI 1000000000 (x2_48 + v_90)) ≤ Int32.toInt (x2_48 + v_90) ∧ (Int32.toInt (mnI 1000000000 (x2_48 + v_90)) = 1000000000 ∨ Int32.toInt (mnI 1000000000 (x2_48 + v_90)) = Int32.toInt (x2_48 + v_90)) := mn_k (by decide)
                      try have t_177 : Int32.toInt (x5_98 + 1) = Int32.toInt x5_98 + 1 := ti_add rfl (by decide) (by omega) (by omega)
                      exact hk_91 (q_172, (x1_94 + 1), (mnI 1000000000 (x2_48 + v_90)), x3_49, v_69, (x5_98 + 1)) (show (TC q_172) ∧ (cFr [43, 44] [] q_46 q_172) ∧ ((mnI 1000000000 (x2_48 + v_90)) = (mnI 1000000000 (x2_48 + v_90))) ∧ (x3_49 = x3_49) ∧ (v_69 = v_69) ∧ (1 ≤ Int32.toInt (x5_98 + 1)) ∧ (Int32.toInt (x5_98 + 1) ≤ 7) ∧ (Int32.toInt x3_49 < Int32.toInt (x1_94 + 1)) ∧ (Int32.toInt (x1_94 + 1) ≤ Int32.toInt (q_46.1 32 14)) ∧ (BL q_172 (Int32.toInt (x1_94 + 1))) from ⟨hTq_172, (by rw [eq_172]; exact ((by rw [eq_166]; exact (((cFr.rf : cFr [43, 44] [] q_46 q_46).t a_100 (by decide) (by decide)) : cFr [43, 44] [] q_46 q_93).i (by decide)) : cFr [43, 44] [] q_46 q_166).i (by decide)), rfl, rfl, rfl, by omega, by omega, by omega, by omega, bl_c (n := Int32.toInt x1_94 + 1) hB_173 (show Int32.toInt (x1_94 + 1) ≤ Int32.toInt x1_94 + 1 by omega)⟩) (show (7 - Int32.toInt (x5_98 + 1)).toNat < (7 - Int32.toInt x5_98).toNat by omega)
                  · unfold zX3_rowsToOrder_s32_161
                    refine dOk_G (dg_ok (show 0 ≤ Int32.toInt r_140 by omega) (show Int32.toInt r_140 < ((Int32.toNatClampNeg (q_93.1 32 104) : Nat) : Int) by rw [cl_eq (show 0 ≤ Int32.toInt (q_93.1 32 104) by omega)]; omega)) ?_
                    refine dOk_L (fun v_178 ev_178 => ?_)
                    have w_179 : Int32.toInt v_178 = Int32.toInt v_149 := by rw [ev_178, ev_149]
                    refine dOk_G (dg_ok (show 0 ≤ Int32.toInt v_69 by omega) (show Int32.toInt v_69 < ((Int32.toNatClampNeg (q_93.1 32 104) : Nat) : Int) by rw [cl_eq (show 0 ≤ Int32.toInt (q_93.1 32 104) by omega)]; omega)) ?_
                    refine dOk_L (fun v_180 ev_180 => ?_)
                    refine dOk_G (dg_ok (show 0 ≤ Int32.toInt r_140 by omega) (show Int32.toInt r_140 < ((Int32.toNatClampNeg (q_93.1 32 104) : Nat) : Int) by rw [cl_eq (show 0 ≤ Int32.toInt (q_93.1 32 104) by omega)]; omega)) ?_
                    refine dOk_L (fun q_181 eq_181 => ?_)
                    have hTq_181 : TC q_181 := by rw [eq_181]; exact sa_43 a_99
                    have hFq_181 : cFr [37, 42, 43, 44] [(32, 17), (32, 18)] q q_181 := by rw [eq_181]; exact hFq_93.i (by decide)
                    have hB_182 : BL q_181 (Int32.toInt x1_94) := by rw [eq_181]; exact bl_o a_108 rfl
                    unfold zX3_rowsToOrder_s32_188
                    try have t_183 : Int32.toInt (x2_48 + v_90) = Int32.toInt x2_48 + Int32.toInt v_90 := ti_add rfl rfl (by omega) (by omega)
                    have t_184 : Int32.toInt (mnI 1000000000 (x2_48 + v_90)) ≤ 1000000000 ∧ Int32.toInt (mnI 1000000000 (x2_48 + v_90)) ≤ Int32.toInt (x2_48 + v_90) ∧ (Int32.toInt (mnI 1000000000 (x2_48 + v_90)) = 1000000000 ∨ Int32.toInt (mnI 1000000000 (x2_48 + v_90)) = Int32.toInt (x2_48 + v_90)) := mn_k (by decide)
                    try have t_185 : Int32.toInt (x5_98 + 1) = Int32.toInt x5_98 + 1 := ti_add rfl (by decide) (by omega) (by omega)
                    exact hk_91 (q_181, x1_94, (mnI 1000000000 (x2_48 + v_90)), x3_49, v_69, (x5_98 + 1)) (show (TC q_181) ∧ (cFr [43, 44] [] q_46 q_181) ∧ ((mnI 1000000000 (x2_48 + v_90)) = (mnI 1000000000 (x2_48 + v_90))) ∧ (x3_49 = x3_49) ∧ (v_69 = v_69) ∧ (1 ≤ Int32.toInt (x5_98 + 1)) ∧ (Int32.toInt (x5_98 + 1) ≤ 7) ∧ (Int32.toInt x3_49 < Int32.toInt x1_94) ∧ (Int32.toInt x1_94 ≤ Int32.toInt (q_46.1 32 14)) ∧ (BL q_181 (Int32.toInt x1_94)) from ⟨hTq_181, (by rw [eq_181]; exact (((cFr.rf : cFr [43, 44] [] q_46 q_46).t a_100 (by decide) (by decide)) : cFr [43, 44] [] q_46 q_93).i (by decide)), rfl, rfl, rfl, by omega, by omega, by omega, by omega, bl_c (n := Int32.toInt x1_94) hB_182 (show Int32.toInt x1_94 ≤ Int32.toInt x1_94 by omega)⟩) (show (7 - Int32.toInt (x5_98 + 1)).toNat < (7 - Int32.toInt x5_98).toNat by omega)
            · try have t_186 : Int32.toInt (x2_48 + v_90) = Int32.toInt x2_48 + Int32.toInt v_90 := ti_add rfl rfl (by omega) (by omega)
              have t_187 : Int32.toInt (mnI 1000000000 (x2_48 + v_90)) ≤ 1000000000 ∧ Int32.toInt (mnI 1000000000 (x2_48 + v_90)) ≤ Int32.toInt (x2_48 + v_90) ∧ (Int32.toInt (mnI 1000000000 (x2_48 + v_90)) = 1000000000 ∨ Int32.toInt (mnI 1000000000 (x2_48 + v_90)) = Int32.toInt (x2_48 + v_90)) := mn_k (by decide)
              exact (show (TC q_46) ∧ (cFr [43, 44] [] q_46 q_46) ∧ ((mnI 1000000000 (x2_48 + v_90)) = (mnI 1000000000 (x2_48 + v_90))) ∧ (x3_49 = x3_49) ∧ (v_69 = v_69) ∧ (1 ≤ (1 : Int)) ∧ ((1 : Int) ≤ 7) ∧ (Int32.toInt x3_49 < Int32.toInt x1_47) ∧ (Int32.toInt x1_47 ≤ Int32.toInt (q_46.1 32 14)) ∧ (BL q_46 (Int32.toInt x1_47)) from ⟨a_50, cFr.rf, rfl, rfl, rfl, by omega, by omega, by omega, by omega, bl_c (n := Int32.toInt x1_47) a_55 (show Int32.toInt x1_47 ≤ Int32.toInt x1_47 by omega)⟩)
            · try have t_188 : Int32.toInt (x2_48 + v_90) = Int32.toInt x2_48 + Int32.toInt v_90 := ti_add rfl rfl (by omega) (by omega)
              have t_189 : Int32.toInt (mnI 1000000000 (x2_48 + v_90)) ≤ 1000000000 ∧ Int32.toInt (mnI 1000000000 (x2_48 + v_90)) ≤ Int32.toInt (x2_48 + v_90) ∧ (Int32.toInt (mnI 1000000000 (x2_48 + v_90)) = 1000000000 ∨ Int32.toInt (mnI 1000000000 (x2_48 + v_90)) = Int32.toInt (x2_48 + v_90)) := mn_k (by decide)
              show (7 - (1 : Int)).toNat < 1000000000000
              omega
          · unfold zX3_rowsToOrder_s32_99
            unfold zX3_rowsToOrder_s32_102
            refine dFix_ok (fun (a : dK × Int32 × Int32 × Int32 × Int32 × Int32) => (TC a.1) ∧ (cFr [43, 44] [] q_46 a.1) ∧ (a.2.2.1 = x2_48) ∧ (a.2.2.2.1 = x3_49) ∧ (a.2.2.2.2.1 = v_69) ∧ (1 ≤ Int32.toInt a.2.2.2.2.2) ∧ (Int32.toInt a.2.2.2.2.2 ≤ 7) ∧ (Int32.toInt a.2.2.2.1 < Int32.toInt a.2.1) ∧ (Int32.toInt a.2.1 ≤ Int32.toInt (q_46.1 32 14)) ∧ (BL a.1 (Int32.toInt a.2.1))) (fun (a : dK × Int32 × Int32 × Int32 × Int32 × Int32) => (7 - Int32.toInt a.2.2.2.2.2).toNat) ?_ _ ?_ _ (dF_gt ?_)
            · intro a ha k_191 hk_190
              obtain ⟨q_192, x1_193, x2_194, x3_195, x4_196, x5_197⟩ := a
              replace ha : (TC q_192) ∧ (cFr [43, 44] [] q_46 q_192) ∧ (x2_194 = x2_48) ∧ (x3_195 = x3_49) ∧ (x4_196 = v_69) ∧ (1 ≤ Int32.toInt x5_197) ∧ (Int32.toInt x5_197 ≤ 7) ∧ (Int32.toInt x3_195 < Int32.toInt x1_193) ∧ (Int32.toInt x1_193 ≤ Int32.toInt (q_46.1 32 14)) ∧ (BL q_192 (Int32.toInt x1_193)) := ha
              obtain ⟨a_198, a_199, a_200, a_201, a_202, a_203, a_204, a_205, a_206, a_207⟩ := ha
              show dOk (zX3_rowsToOrder_s32_102b _ (fun q x1 x2 x3 x4 x5 => k_191 (q, x1, x2, x3, x4, x5)) q_192 x1_193 x2_194 x3_195 x4_196 x5_197) _
              unfold zX3_rowsToOrder_s32_102b
              have hFq_192 : cFr [37, 42, 43, 44] [(32, 17), (32, 18)] q q_192 := hFq_46.t a_199 (by decide) (by decide)
              subst x2_194
              subst x3_195
              subst x4_196
              have f_208 : 0 ≤ Int32.toInt (q_192.1 32 13) ∧ Int32.toInt (q_192.1 32 13) ≤ 6 := rg_32_13 a_198
              have f_209 : 0 ≤ Int32.toInt (q_46.1 32 13) ∧ Int32.toInt (q_46.1 32 13) ≤ 6 := rg_32_13 a_50
              have f_210 : 0 ≤ Int32.toInt (q_33.1 32 13) ∧ Int32.toInt (q_33.1 32 13) ≤ 6 := rg_32_13 hTq_33
              have f_211 : 0 ≤ Int32.toInt (q_25.1 32 13) ∧ Int32.toInt (q_25.1 32 13) ≤ 6 := rg_32_13 hTq_25
              have f_212 : 0 ≤ Int32.toInt (q_16.1 32 13) ∧ Int32.toInt (q_16.1 32 13) ≤ 6 := rg_32_13 hTq_16
              have f_213 : 0 ≤ Int32.toInt (q_1.1 32 13) ∧ Int32.toInt (q_1.1 32 13) ≤ 6 := rg_32_13 i_3
              have f_214 : 0 ≤ Int32.toInt (q.1 32 13) ∧ Int32.toInt (q.1 32 13) ≤ 6 := rg_32_13 hT
              have w_215 : Int32.toInt (q_1.1 32 13) = Int32.toInt (q.1 32 13) := by rw [i_4.1 32 13 (by decide) (by decide)]
              have w_216 : Int32.toInt (q_16.1 32 13) = Int32.toInt (q_1.1 32 13) := by rw [eq_16]; rfl
              try have w_217 : Int32.toInt (q_25.1 32 13) = Int32.toInt (q_16.1 32 13) := by rw [eq_25, cui_o (by decide)]
              have w_218 : Int32.toInt (q_33.1 32 13) = Int32.toInt (q_25.1 32 13) := by rw [eq_33, cui_o (by decide)]
              have w_219 : Int32.toInt (q_46.1 32 13) = Int32.toInt (q_33.1 32 13) := by rw [a_51.1 32 13 (by decide) (by decide)]
              have w_220 : Int32.toInt (q_192.1 32 13) = Int32.toInt (q_46.1 32 13) := by rw [a_199.1 32 13 (by decide) (by decide)]
              refine dOk_lt (A := Int32.toInt (q_192.1 32 13)) (B := Int32.toInt x5_197) rfl rfl (fun c_221 => ?_) (fun c_222 => ?_)
              · try have t_223 : Int32.toInt (x3_49 + 1) = Int32.toInt x3_49 + 1 := ti_add rfl (by decide) (by omega) (by omega)
                exact hk_44 (q_192, x1_193, x2_48, (x3_49 + 1)) (show (TC q_192) ∧ (cFr [43, 44] [] q_33 q_192) ∧ (0 ≤ Int32.toInt (x3_49 + 1)) ∧ (Int32.toInt (x3_49 + 1) ≤ Int32.toInt x1_193) ∧ (Int32.toInt x1_193 ≤ Int32.toInt (q_33.1 32 14)) ∧ (BL q_192 (Int32.toInt x1_193)) from ⟨a_198, ((((cFr.rf : cFr [43, 44] [] q_33 q_33).t a_51 (by decide) (by decide)) : cFr [43, 44] [] q_33 q_46).t a_199 (by decide) (by decide)), by omega, by omega, by omega, bl_c (n := Int32.toInt x1_193) a_207 (show Int32.toInt x1_193 ≤ Int32.toInt x1_193 by omega)⟩) (show (Int32.toInt (q_33.1 32 14) - Int32.toInt (x3_49 + 1)).toNat < (Int32.toInt (q_33.1 32 14) - Int32.toInt x3_49).toNat by omega)
              · have f_224 : 0 ≤ Int32.toInt (q_192.1 32 14) ∧ Int32.toInt (q_192.1 32 14) ≤ 46080 := rg_32_14 a_198
                have w_225 : Int32.toInt (q_192.1 32 14) = Int32.toInt (q_46.1 32 14) := by rw [a_199.1 32 14 (by decide) (by decide)]
                refine dOk_B (ok_X3_isCloser_s32 q_192 v_69 x5_197 a_198 (ld_fr hp0 hFq_192 rfl) (show 0 ≤ Int32.toInt v_69 by omega) (show Int32.toInt v_69 < Int32.toInt (q_192.1 32 14) by omega) (show 1 ≤ Int32.toInt x5_197 by omega) (show Int32.toInt x5_197 ≤ Int32.toInt (q_192.1 32 13) by omega)) (fun r_226 q_227 h_228 => ?_)
                replace h_228 : (q_227 = q_192) ∧ ((Int32.toInt r_226 = 0 ∨ Int32.toInt r_226 = 1)) := h_228
                obtain ⟨i_229, i_230⟩ := h_228
                subst q_227
                refine dOk_eq (A := Int32.toInt r_226) (B := 0) rfl (by decide) (fun c_231z c_231 => ?_) (fun c_232z c_232 => ?_)
                · unfold zX3_rowsToOrder_s32_188
                  try have t_234 : Int32.toInt (x5_197 + 1) = Int32.toInt x5_197 + 1 := ti_add rfl (by decide) (by omega) (by omega)
                  exact hk_190 (q_192, x1_193, x2_48, x3_49, v_69, (x5_197 + 1)) (show (TC q_192) ∧ (cFr [43, 44] [] q_46 q_192) ∧ (x2_48 = x2_48) ∧ (x3_49 = x3_49) ∧ (v_69 = v_69) ∧ (1 ≤ Int32.toInt (x5_197 + 1)) ∧ (Int32.toInt (x5_197 + 1) ≤ 7) ∧ (Int32.toInt x3_49 < Int32.toInt x1_193) ∧ (Int32.toInt x1_193 ≤ Int32.toInt (q_46.1 32 14)) ∧ (BL q_192 (Int32.toInt x1_193)) from ⟨a_198, ((cFr.rf : cFr [43, 44] [] q_46 q_46).t a_199 (by decide) (by decide)), rfl, rfl, rfl, by omega, by omega, by omega, by omega, bl_c (n := Int32.toInt x1_193) a_207 (show Int32.toInt x1_193 ≤ Int32.toInt x1_193 by omega)⟩) (show (7 - Int32.toInt (x5_197 + 1)).toNat < (7 - Int32.toInt x5_197).toNat by omega)
                · refine dOk_B (ok_X3_turned_s32 q_192 v_69 x5_197 a_198 (ld_fr hp0 hFq_192 rfl) (show 0 ≤ Int32.toInt v_69 by omega) (show Int32.toInt v_69 < Int32.toInt (q_192.1 32 14) by omega)) (fun r_235 q_236 h_237 => ?_)
                  replace h_237 : (q_236 = q_192) ∧ (0 ≤ Int32.toInt r_235) ∧ (Int32.toInt r_235 < Int32.toInt (q_192.1 32 14)) := h_237
                  obtain ⟨i_238, i_239, i_240⟩ := h_237
                  subst q_236
                  have f_241 : 0 ≤ Int32.toInt (q_192.1 32 104) ∧ Int32.toInt (q_192.1 32 104) ≤ 46080 := rg_32_104 a_198
                  have f_242 : 0 ≤ Int32.toInt (q_46.1 32 104) ∧ Int32.toInt (q_46.1 32 104) ≤ 46080 := rg_32_104 a_50
                  have f_243 : 0 ≤ Int32.toInt (q_33.1 32 104) ∧ Int32.toInt (q_33.1 32 104) ≤ 46080 := rg_32_104 hTq_33
                  have f_244 : 0 ≤ Int32.toInt (q_25.1 32 104) ∧ Int32.toInt (q_25.1 32 104) ≤ 46080 := rg_32_104 hTq_25
                  try have w_245 : Int32.toInt (q_25.1 32 104) = Int32.toInt (q_16.1 32 104) := by rw [eq_25, cui_o (by decide)]
                  have w_246 : Int32.toInt (q_33.1 32 104) = Int32.toInt (q_25.1 32 104) := by rw [eq_33, cui_o (by decide)]
                  have w_247 : Int32.toInt (q_46.1 32 104) = Int32.toInt (q_33.1 32 104) := by rw [a_51.1 32 104 (by decide) (by decide)]
                  have w_248 : Int32.toInt (q_192.1 32 104) = Int32.toInt (q_46.1 32 104) := by rw [a_199.1 32 104 (by decide) (by decide)]
                  refine dOk_G (dg_ok (show 0 ≤ Int32.toInt r_235 by omega) (show Int32.toInt r_235 < ((Int32.toNatClampNeg (q_192.1 32 104) : Nat) : Int) by rw [cl_eq (show 0 ≤ Int32.toInt (q_192.1 32 104) by omega)]; omega)) ?_
                  have n_249 : ((Int32.toNatClampNeg r_235 : Nat) : Int) = Int32.toInt r_235 := cl_eq (by omega)
                  refine dOk_L (fun v_250 ev_250 => ?_)
                  refine dOk_eq (A := Int32.toInt v_250) (B := 0) rfl (by decide) (fun c_251z c_251 => ?_) (fun c_252z c_252 => ?_)
                  · refine dOk_le (A := Int32.toInt (q_192.1 32 14)) (B := Int32.toInt x1_193) rfl rfl (fun c_254 => ?_) (fun c_255 => ?_)
                    · unfold zX3_rowsToOrder_s32_161
                      refine dOk_G (dg_ok (show 0 ≤ Int32.toInt r_235 by omega) (show Int32.toInt r_235 < ((Int32.toNatClampNeg (q_192.1 32 104) : Nat) : Int) by rw [cl_eq (show 0 ≤ Int32.toInt (q_192.1 32 104) by omega)]; omega)) ?_
                      refine dOk_L (fun v_256 ev_256 => ?_)
                      have w_257 : Int32.toInt v_256 = Int32.toInt v_250 := by rw [ev_256, ev_250]
                      refine dOk_G (dg_ok (show 0 ≤ Int32.toInt v_69 by omega) (show Int32.toInt v_69 < ((Int32.toNatClampNeg (q_192.1 32 104) : Nat) : Int) by rw [cl_eq (show 0 ≤ Int32.toInt (q_192.1 32 104) by omega)]; omega)) ?_
                      refine dOk_L (fun v_258 ev_258 => ?_)
                      refine dOk_G (dg_ok (show 0 ≤ Int32.toInt r_235 by omega) (show Int32.toInt r_235 < ((Int32.toNatClampNeg (q_192.1 32 104) : Nat) : Int) by rw [cl_eq (show 0 ≤ Int32.toInt (q_192.1 32 104) by omega)]; omega)) ?_
                      refine dOk_L (fun q_259 eq_259 => ?_)
                      have hTq_259 : TC q_259 := by rw [eq_259]; exact sa_43 a_198
                      have hFq_259 : cFr [37, 42, 43, 44] [(32, 17), (32, 18)] q q_259 := by rw [eq_259]; exact hFq_192.i (by decide)
                      have hB_260 : BL q_259 (Int32.toInt x1_193) := by rw [eq_259]; exact bl_o a_207 rfl
                      unfold zX3_rowsToOrder_s32_188
                      try have t_261 : Int32.toInt (x5_197 + 1) = Int32.toInt x5_197 + 1 := ti_add rfl (by decide) (by omega) (by omega)
                      exact hk_190 (q_259, x1_193, x2_48, x3_49, v_69, (x5_197 + 1)) (show (TC q_259) ∧ (cFr [43, 44] [] q_46 q_259) ∧ (x2_48 = x2_48) ∧ (x3_49 = x3_49) ∧ (v_69 = v_69) ∧ (1 ≤ Int32.toInt (x5_197 + 1)) ∧ (Int32.toInt (x5_197 + 1) ≤ 7) ∧ (Int32.toInt x3_49 < Int32.toInt x1_193) ∧ (Int32.toInt x1_193 ≤ Int32.toInt (q_46.1 32 14)) ∧ (BL q_259 (Int32.toInt x1_193)) from ⟨hTq_259, (by rw [eq_259]; exact (((cFr.rf : cFr [43, 44] [] q_46 q_46).t a_199 (by decide) (by decide)) : cFr [43, 44] [] q_46 q_192).i (by decide)), rfl, rfl, rfl, by omega, by omega, by omega, by omega, bl_c (n := Int32.toInt x1_193) hB_260 (show Int32.toInt x1_193 ≤ Int32.toInt x1_193 by omega)⟩) (show (7 - Int32.toInt (x5_197 + 1)).toNat < (7 - Int32.toInt x5_197).toNat by omega)
                    · have f_262 : 0 ≤ Int32.toInt (q_192.1 32 105) ∧ Int32.toInt (q_192.1 32 105) ≤ 46080 := rg_32_105 a_198
                      have w_263 : Int32.toInt (q_192.1 32 105) = Int32.toInt (q_46.1 32 105) := by rw [a_199.1 32 105 (by decide) (by decide)]
                      refine dOk_G (dg_ok (show 0 ≤ Int32.toInt x1_193 by omega) (show Int32.toInt x1_193 < ((Int32.toNatClampNeg (q_192.1 32 105) : Nat) : Int) by rw [cl_eq (show 0 ≤ Int32.toInt (q_192.1 32 105) by omega)]; omega)) ?_
                      have n_264 : ((Int32.toNatClampNeg x1_193 : Nat) : Int) = Int32.toInt x1_193 := cl_eq (by omega)
                      refine dOk_L (fun q_265 eq_265 => ?_)
                      have hTq_265 : TC q_265 := by rw [eq_265]; exact sa_44 a_198
                      have hFq_265 : cFr [37, 42, 43, 44] [(32, 17), (32, 18)] q q_265 := by rw [eq_265]; exact hFq_192.i (by decide)
                      have hB_266 : BL q_265 (Int32.toInt x1_193 + 1) := by rw [eq_265]; exact bl_p (n := Int32.toInt x1_193) a_207 (show ((Int32.toNatClampNeg x1_193 : Nat) : Int) = Int32.toInt x1_193 by omega) (show 0 ≤ Int32.toInt r_235 by omega) (show Int32.toInt r_235 < Int32.toInt (q_192.1 32 14) by omega)
                      unfold zX3_rowsToOrder_s32_161
                      have f_267 : 0 ≤ Int32.toInt (q_265.1 32 104) ∧ Int32.toInt (q_265.1 32 104) ≤ 46080 := rg_32_104 hTq_265
                      try have w_268 : Int32.toInt (q_265.1 32 104) = Int32.toInt (q_192.1 32 104) := by rw [eq_265, cui_o (by decide)]
                      refine dOk_G (dg_ok (show 0 ≤ Int32.toInt r_235 by omega) (show Int32.toInt r_235 < ((Int32.toNatClampNeg (q_265.1 32 104) : Nat) : Int) by rw [cl_eq (show 0 ≤ Int32.toInt (q_265.1 32 104) by omega)]; omega)) ?_
                      refine dOk_L (fun v_269 ev_269 => ?_)
                      refine dOk_G (dg_ok (show 0 ≤ Int32.toInt v_69 by omega) (show Int32.toInt v_69 < ((Int32.toNatClampNeg (q_265.1 32 104) : Nat) : Int) by rw [cl_eq (show 0 ≤ Int32.toInt (q_265.1 32 104) by omega)]; omega)) ?_
                      refine dOk_L (fun v_270 ev_270 => ?_)
                      refine dOk_G (dg_ok (show 0 ≤ Int32.toInt r_235 by omega) (show Int32.toInt r_235 < ((Int32.toNatClampNeg (q_265.1 32 104) : Nat) : Int) by rw [cl_eq (show 0 ≤ Int32.toInt (q_265.1 32 104) by omega)]; omega)) ?_
                      refine dOk_L (fun q_271 eq_271 => ?_)
                      have hTq_271 : TC q_271 := by rw [eq_271]; exact sa_43 hTq_265
                      have hFq_271 : cFr [37, 42, 43, 44] [(32, 17), (32, 18)] q q_271 := by rw [eq_271]; exact hFq_265.i (by decide)
                      have hB_272 : BL q_271 (Int32.toInt x1_193 + 1) := by rw [eq_271]; exact bl_o hB_266 rfl
                      unfold zX3_rowsToOrder_s32_188
                      try have t_273 : Int32.toInt (x1_193 + 1) = Int32.toInt x1_193 + 1 := ti_add rfl (by decide) (by omega) (by omega)
                      try have t_274 : Int32.toInt (x5_197 + 1) = Int32.toInt x5_197 + 1 := ti_add rfl (by decide) (by omega) (by omega)
                      exact hk_190 (q_271, (x1_193 + 1), x2_48, x3_49, v_69, (x5_197 + 1)) (show (TC q_271) ∧ (cFr [43, 44] [] q_46 q_271) ∧ (x2_48 = x2_48) ∧ (x3_49 = x3_49) ∧ (v_69 = v_69) ∧ (1 ≤ Int32.toInt (x5_197 + 1)) ∧ (Int32.toInt (x5_197 + 1) ≤ 7) ∧ (Int32.toInt x3_49 < Int32.toInt (x1_193 + 1)) ∧ (Int32.toInt (x1_193 + 1) ≤ Int32.toInt (q_46.1 32 14)) ∧ (BL q_271 (Int32.toInt (x1_193 + 1))) from ⟨hTq_271, (by rw [eq_271]; exact ((by rw [eq_265]; exact (((cFr.rf : cFr [43, 44] [] q_46 q_46).t a_199 (by decide) (by decide)) : cFr [43, 44] [] q_46 q_192).i (by decide)) : cFr [43, 44] [] q_46 q_265).i (by decide)), rfl, rfl, rfl, by omega, by omega, by omega, by omega, bl_c (n := Int32.toInt x1_193 + 1) hB_272 (show Int32.toInt (x1_193 + 1) ≤ Int32.toInt x1_193 + 1 by omega)⟩) (show (7 - Int32.toInt (x5_197 + 1)).toNat < (7 - Int32.toInt x5_197).toNat by omega)
                  · unfold zX3_rowsToOrder_s32_161
                    refine dOk_G (dg_ok (show 0 ≤ Int32.toInt r_235 by omega) (show Int32.toInt r_235 < ((Int32.toNatClampNeg (q_192.1 32 104) : Nat) : Int) by rw [cl_eq (show 0 ≤ Int32.toInt (q_192.1 32 104) by omega)]; omega)) ?_
                    refine dOk_L (fun v_275 ev_275 => ?_)
                    have w_276 : Int32.toInt v_275 = Int32.toInt v_250 := by rw [ev_275, ev_250]
                    refine dOk_G (dg_ok (show 0 ≤ Int32.toInt v_69 by omega) (show Int32.toInt v_69 < ((Int32.toNatClampNeg (q_192.1 32 104) : Nat) : Int) by rw [cl_eq (show 0 ≤ Int32.toInt (q_192.1 32 104) by omega)]; omega)) ?_
                    refine dOk_L (fun v_277 ev_277 => ?_)
                    refine dOk_G (dg_ok (show 0 ≤ Int32.toInt r_235 by omega) (show Int32.toInt r_235 < ((Int32.toNatClampNeg (q_192.1 32 104) : Nat) : Int) by rw [cl_eq (show 0 ≤ Int32.toInt (q_192.1 32 104) by omega)]; omega)) ?_
                    refine dOk_L (fun q_278 eq_278 => ?_)
                    have hTq_278 : TC q_278 := by rw [eq_278]; exact sa_43 a_198
                    have hFq_278 : cFr [37, 42, 43, 44] [(32, 17), (32, 18)] q q_278 := by rw [eq_278]; exact hFq_192.i (by decide)
                    have hB_279 : BL q_278 (Int32.toInt x1_193) := by rw [eq_278]; exact bl_o a_207 rfl
                    unfold zX3_rowsToOrder_s32_188
                    try have t_280 : Int32.toInt (x5_197 + 1) = Int32.toInt x5_197 + 1 := ti_add rfl (by decide) (by omega) (by omega)
                    exact hk_190 (q_278, x1_193, x2_48, x3_49, v_69, (x5_197 + 1)) (show (TC q_278) ∧ (cFr [43, 44] [] q_46 q_278) ∧ (x2_48 = x2_48) ∧ (x3_49 = x3_49) ∧ (v_69 = v_69) ∧ (1 ≤ Int32.toInt (x5_197 + 1)) ∧ (Int32.toInt (x5_197 + 1) ≤ 7) ∧ (Int32.toInt x3_49 < Int32.toInt x1_193) ∧ (Int32.toInt x1_193 ≤ Int32.toInt (q_46.1 32 14)) ∧ (BL q_278 (Int32.toInt x1_193)) from ⟨hTq_278, (by rw [eq_278]; exact (((cFr.rf : cFr [43, 44] [] q_46 q_46).t a_199 (by decide) (by decide)) : cFr [43, 44] [] q_46 q_192).i (by decide)), rfl, rfl, rfl, by omega, by omega, by omega, by omega, bl_c (n := Int32.toInt x1_193) hB_279 (show Int32.toInt x1_193 ≤ Int32.toInt x1_193 by omega)⟩) (show (7 - Int32.toInt (x5_197 + 1)).toNat < (7 - Int32.toInt x5_197).toNat by omega)
            · exact (show (TC q_46) ∧ (cFr [43, 44] [] q_46 q_46) ∧ (x2_48 = x2_48) ∧ (x3_49 = x3_49) ∧ (v_69 = v_69) ∧ (1 ≤ (1 : Int)) ∧ ((1 : Int) ≤ 7) ∧ (Int32.toInt x3_49 < Int32.toInt x1_47) ∧ (Int32.toInt x1_47 ≤ Int32.toInt (q_46.1 32 14)) ∧ (BL q_46 (Int32.toInt x1_47)) from ⟨a_50, cFr.rf, rfl, rfl, rfl, by omega, by omega, by omega, by omega, bl_c (n := Int32.toInt x1_47) a_55 (show Int32.toInt x1_47 ≤ Int32.toInt x1_47 by omega)⟩)
            · show (7 - (1 : Int)).toNat < 1000000000000
              omega
    · have f_281 : 0 ≤ Int32.toInt (q_33.1 32 14) ∧ Int32.toInt (q_33.1 32 14) ≤ 46080 := rg_32_14 hTq_33
      have w_282 : Int32.toInt (q_33.1 32 14) = Int32.toInt (q_25.1 32 14) := by rw [eq_33, cui_o (by decide)]
      exact (show (TC q_33) ∧ (cFr [43, 44] [] q_33 q_33) ∧ (0 ≤ (0 : Int)) ∧ ((0 : Int) ≤ (1 : Int)) ∧ ((1 : Int) ≤ Int32.toInt (q_33.1 32 14)) ∧ (BL q_33 ((1 : Int))) from ⟨hTq_33, cFr.rf, by omega, by omega, by omega, bl_c (n := 0 + 1) hB_43 (show (1 : Int) ≤ 0 + 1 by omega)⟩)
    · have f_283 : 0 ≤ Int32.toInt (q_33.1 32 14) ∧ Int32.toInt (q_33.1 32 14) ≤ 46080 := rg_32_14 hTq_33
      have w_284 : Int32.toInt (q_33.1 32 14) = Int32.toInt (q_25.1 32 14) := by rw [eq_33, cui_o (by decide)]
      show (Int32.toInt (q_33.1 32 14) - (0 : Int)).toNat < 1000000000000
      omega
