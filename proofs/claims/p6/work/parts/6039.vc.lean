set_option maxHeartbeats 4000000 in
set_option maxRecDepth 100000 in
theorem ok_X3_worstTowers_s32 (q : dK) (p1 : Int32) (hT : TC q) (hp0 : LD q) : dOk (zX3_worstTowers_s32 q p1) (fun (o : Int32 × dK) => (TC o.2) ∧ (cFr [37, 42, 44] [(32, 17), (32, 18)] q o.2)) := by
  unfold zX3_worstTowers_s32
  have hLs := ld_sz hp0
  refine dOk_V (ok_X3_measure_s32 q hT hp0) (fun q_1 h_2 => ?_)
  replace h_2 : (TC q_1) ∧ (cFr [37, 42, 44] [(32, 17), (32, 18)] q q_1) := h_2
  obtain ⟨i_3, i_4⟩ := h_2
  have hFq_1 : cFr [37, 42, 44] [(32, 17), (32, 18)] q q_1 := (cFr.rf (q := q)).t i_4 (by decide) (by decide)
  unfold zX3_worstTowers_s32_14
  refine dFix_ok (fun (a : dK × Int32 × Int32 × Int32 × Int32 × Int32) => (a.1 = q_1) ∧ (a.2.1 = p1) ∧ (0 ≤ Int32.toInt a.2.2.2.2.2) ∧ (Int32.toInt a.2.2.2.2.2 ≤ Int32.toInt (q_1.1 32 14))) (fun (a : dK × Int32 × Int32 × Int32 × Int32 × Int32) => (Int32.toInt (q_1.1 32 14) - Int32.toInt a.2.2.2.2.2).toNat) ?_ _ ?_ _ (dF_gt ?_)
  · intro a ha k_6 hk_5
    obtain ⟨q_7, x1_8, x2_9, x3_10, x4_11, x5_12⟩ := a
    replace ha : (q_7 = q_1) ∧ (x1_8 = p1) ∧ (0 ≤ Int32.toInt x5_12) ∧ (Int32.toInt x5_12 ≤ Int32.toInt (q_1.1 32 14)) := ha
    obtain ⟨a_13, a_14, a_15, a_16⟩ := ha
    show dOk (zX3_worstTowers_s32_14b  (fun q x1 x2 x3 x4 x5 => k_6 (q, x1, x2, x3, x4, x5)) q_7 x1_8 x2_9 x3_10 x4_11 x5_12) _
    unfold zX3_worstTowers_s32_14b
    subst q_7
    subst x1_8
    have f_17 : 0 ≤ Int32.toInt (q_1.1 32 14) ∧ Int32.toInt (q_1.1 32 14) ≤ 46080 := rg_32_14 i_3
    have f_18 : 0 ≤ Int32.toInt (q.1 32 14) ∧ Int32.toInt (q.1 32 14) ≤ 46080 := rg_32_14 hT
    have w_19 : Int32.toInt (q_1.1 32 14) = Int32.toInt (q.1 32 14) := by rw [i_4.1 32 14 (by decide) (by decide)]
    refine dOk_le (A := Int32.toInt (q_1.1 32 14)) (B := Int32.toInt x5_12) rfl rfl (fun c_20 => ?_) (fun c_21 => ?_)
    · refine dOk_eq (A := Int32.toInt p1) (B := 0) rfl (by decide) (fun c_22z c_22 => ?_) (fun c_23z c_23 => ?_)
      · exact dOk_some (show (TC q_1) ∧ (cFr [37, 42, 44] [(32, 17), (32, 18)] q q_1) from ⟨i_3, hFq_1⟩)
      · refine dOk_eq (A := Int32.toInt p1) (B := 1) rfl (by decide) (fun c_25z c_25 => ?_) (fun c_26z c_26 => ?_)
        · unfold zX3_worstTowers_s32_102
          exact dOk_some (show (TC q_1) ∧ (cFr [37, 42, 44] [(32, 17), (32, 18)] q q_1) from ⟨i_3, hFq_1⟩)
        · unfold zX3_worstTowers_s32_102
          exact dOk_some (show (TC q_1) ∧ (cFr [37, 42, 44] [(32, 17), (32, 18)] q q_1) from ⟨i_3, hFq_1⟩)
    · have f_28 : 0 ≤ Int32.toInt (q_1.1 32 103) ∧ Int32.toInt (q_1.1 32 103) ≤ 46080 := rg_32_103 i_3
      have f_29 : 0 ≤ Int32.toInt (q.1 32 103) ∧ Int32.toInt (q.1 32 103) ≤ 46080 := rg_32_103 hT
      have w_30 : Int32.toInt (q_1.1 32 103) = Int32.toInt (q.1 32 103) := by rw [i_4.1 32 103 (by decide) (by decide)]
      refine dOk_G (dg_ok (show 0 ≤ Int32.toInt x5_12 by omega) (show Int32.toInt x5_12 < ((Int32.toNatClampNeg (q_1.1 32 103) : Nat) : Int) by rw [cl_eq (show 0 ≤ Int32.toInt (q_1.1 32 103) by omega)]; omega)) ?_
      have n_31 : ((Int32.toNatClampNeg x5_12 : Nat) : Int) = Int32.toInt x5_12 := cl_eq (by omega)
      refine dOk_L (fun v_32 ev_32 => ?_)
      refine dOk_le (A := Int32.toInt v_32) (B := Int32.toInt x2_9) rfl rfl (fun c_33 => ?_) (fun c_34 => ?_)
      · unfold zX3_worstTowers_s32_43
        refine dOk_eq (A := Int32.toInt v_32) (B := Int32.toInt x2_9) rfl rfl (fun c_35z c_35 => ?_) (fun c_36z c_36 => ?_)
        · unfold zX3_worstTowers_s32_55
          refine dOk_V (ok_X9_bit 1) (fun r_38 h_39 => ?_)
          replace h_39 : ((Int32.toInt r_38 = 0 ∨ Int32.toInt r_38 = 1)) := h_39
          have i_40 := h_39
          refine dOk_eq (A := Int32.toInt v_32) (B := (-1)) rfl (by decide) (fun c_41z c_41 => ?_) (fun c_42z c_42 => ?_)
          · unfold zX3_worstTowers_s32_73
            refine dOk_V (ok_X9_bit 0) (fun r_44 h_45 => ?_)
            replace h_45 : ((Int32.toInt r_44 = 0 ∨ Int32.toInt r_44 = 1)) := h_45
            have i_46 := h_45
            try have t_47 : Int32.toInt (x3_10 + r_38) = Int32.toInt x3_10 + Int32.toInt r_38 := ti_add rfl rfl (by omega) (by omega)
            try have t_48 : Int32.toInt (x4_11 + r_44) = Int32.toInt x4_11 + Int32.toInt r_44 := ti_add rfl rfl (by omega) (by omega)
            try have t_49 : Int32.toInt (x5_12 + 1) = Int32.toInt x5_12 + 1 := ti_add rfl (by decide) (by omega) (by omega)
            exact hk_5 (q_1, p1, x2_9, (x3_10 + r_38), (x4_11 + r_44), (x5_12 + 1)) (show (q_1 = q_1) ∧ (p1 = p1) ∧ (0 ≤ Int32.toInt (x5_12 + 1)) ∧ (Int32.toInt (x5_12 + 1) ≤ Int32.toInt (q_1.1 32 14)) from ⟨rfl, rfl, by omega, by omega⟩) (show (Int32.toInt (q_1.1 32 14) - Int32.toInt (x5_12 + 1)).toNat < (Int32.toInt (q_1.1 32 14) - Int32.toInt x5_12).toNat by omega)
          · unfold zX3_worstTowers_s32_73
            refine dOk_V (ok_X9_bit 1) (fun r_50 h_51 => ?_)
            replace h_51 : ((Int32.toInt r_50 = 0 ∨ Int32.toInt r_50 = 1)) := h_51
            have i_52 := h_51
            try have t_53 : Int32.toInt (x3_10 + r_38) = Int32.toInt x3_10 + Int32.toInt r_38 := ti_add rfl rfl (by omega) (by omega)
            try have t_54 : Int32.toInt (x4_11 + r_50) = Int32.toInt x4_11 + Int32.toInt r_50 := ti_add rfl rfl (by omega) (by omega)
            try have t_55 : Int32.toInt (x5_12 + 1) = Int32.toInt x5_12 + 1 := ti_add rfl (by decide) (by omega) (by omega)
            exact hk_5 (q_1, p1, x2_9, (x3_10 + r_38), (x4_11 + r_50), (x5_12 + 1)) (show (q_1 = q_1) ∧ (p1 = p1) ∧ (0 ≤ Int32.toInt (x5_12 + 1)) ∧ (Int32.toInt (x5_12 + 1) ≤ Int32.toInt (q_1.1 32 14)) from ⟨rfl, rfl, by omega, by omega⟩) (show (Int32.toInt (q_1.1 32 14) - Int32.toInt (x5_12 + 1)).toNat < (Int32.toInt (q_1.1 32 14) - Int32.toInt x5_12).toNat by omega)
        · unfold zX3_worstTowers_s32_55
          refine dOk_V (ok_X9_bit 0) (fun r_56 h_57 => ?_)
          replace h_57 : ((Int32.toInt r_56 = 0 ∨ Int32.toInt r_56 = 1)) := h_57
          have i_58 := h_57
          refine dOk_eq (A := Int32.toInt v_32) (B := (-1)) rfl (by decide) (fun c_59z c_59 => ?_) (fun c_60z c_60 => ?_)
          · unfold zX3_worstTowers_s32_73
            refine dOk_V (ok_X9_bit 0) (fun r_62 h_63 => ?_)
            replace h_63 : ((Int32.toInt r_62 = 0 ∨ Int32.toInt r_62 = 1)) := h_63
            have i_64 := h_63
            try have t_65 : Int32.toInt (x3_10 + r_56) = Int32.toInt x3_10 + Int32.toInt r_56 := ti_add rfl rfl (by omega) (by omega)
            try have t_66 : Int32.toInt (x4_11 + r_62) = Int32.toInt x4_11 + Int32.toInt r_62 := ti_add rfl rfl (by omega) (by omega)
            try have t_67 : Int32.toInt (x5_12 + 1) = Int32.toInt x5_12 + 1 := ti_add rfl (by decide) (by omega) (by omega)
            exact hk_5 (q_1, p1, x2_9, (x3_10 + r_56), (x4_11 + r_62), (x5_12 + 1)) (show (q_1 = q_1) ∧ (p1 = p1) ∧ (0 ≤ Int32.toInt (x5_12 + 1)) ∧ (Int32.toInt (x5_12 + 1) ≤ Int32.toInt (q_1.1 32 14)) from ⟨rfl, rfl, by omega, by omega⟩) (show (Int32.toInt (q_1.1 32 14) - Int32.toInt (x5_12 + 1)).toNat < (Int32.toInt (q_1.1 32 14) - Int32.toInt x5_12).toNat by omega)
          · unfold zX3_worstTowers_s32_73
            refine dOk_V (ok_X9_bit 1) (fun r_68 h_69 => ?_)
            replace h_69 : ((Int32.toInt r_68 = 0 ∨ Int32.toInt r_68 = 1)) := h_69
            have i_70 := h_69
            try have t_71 : Int32.toInt (x3_10 + r_56) = Int32.toInt x3_10 + Int32.toInt r_56 := ti_add rfl rfl (by omega) (by omega)
            try have t_72 : Int32.toInt (x4_11 + r_68) = Int32.toInt x4_11 + Int32.toInt r_68 := ti_add rfl rfl (by omega) (by omega)
            try have t_73 : Int32.toInt (x5_12 + 1) = Int32.toInt x5_12 + 1 := ti_add rfl (by decide) (by omega) (by omega)
            exact hk_5 (q_1, p1, x2_9, (x3_10 + r_56), (x4_11 + r_68), (x5_12 + 1)) (show (q_1 = q_1) ∧ (p1 = p1) ∧ (0 ≤ Int32.toInt (x5_12 + 1)) ∧ (Int32.toInt (x5_12 + 1) ≤ Int32.toInt (q_1.1 32 14)) from ⟨rfl, rfl, by omega, by omega⟩) (show (Int32.toInt (q_1.1 32 14) - Int32.toInt (x5_12 + 1)).toNat < (Int32.toInt (q_1.1 32 14) - Int32.toInt x5_12).toNat by omega)
      · unfold zX3_worstTowers_s32_43
        refine dOk_eq (A := Int32.toInt v_32) (B := Int32.toInt v_32) rfl rfl (fun c_74z c_74 => ?_) (fun c_75z c_75 => ?_)
        · unfold zX3_worstTowers_s32_55
          refine dOk_V (ok_X9_bit 1) (fun r_77 h_78 => ?_)
          replace h_78 : ((Int32.toInt r_77 = 0 ∨ Int32.toInt r_77 = 1)) := h_78
          have i_79 := h_78
          refine dOk_eq (A := Int32.toInt v_32) (B := (-1)) rfl (by decide) (fun c_80z c_80 => ?_) (fun c_81z c_81 => ?_)
          · unfold zX3_worstTowers_s32_73
            refine dOk_V (ok_X9_bit 0) (fun r_83 h_84 => ?_)
            replace h_84 : ((Int32.toInt r_83 = 0 ∨ Int32.toInt r_83 = 1)) := h_84
            have i_85 := h_84
            try have t_86 : Int32.toInt (0 + r_77) = 0 + Int32.toInt r_77 := ti_add (by decide) rfl (by omega) (by omega)
            try have t_87 : Int32.toInt (x4_11 + r_83) = Int32.toInt x4_11 + Int32.toInt r_83 := ti_add rfl rfl (by omega) (by omega)
            try have t_88 : Int32.toInt (x5_12 + 1) = Int32.toInt x5_12 + 1 := ti_add rfl (by decide) (by omega) (by omega)
            exact hk_5 (q_1, p1, v_32, (0 + r_77), (x4_11 + r_83), (x5_12 + 1)) (show (q_1 = q_1) ∧ (p1 = p1) ∧ (0 ≤ Int32.toInt (x5_12 + 1)) ∧ (Int32.toInt (x5_12 + 1) ≤ Int32.toInt (q_1.1 32 14)) from ⟨rfl, rfl, by omega, by omega⟩) (show (Int32.toInt (q_1.1 32 14) - Int32.toInt (x5_12 + 1)).toNat < (Int32.toInt (q_1.1 32 14) - Int32.toInt x5_12).toNat by omega)
          · unfold zX3_worstTowers_s32_73
            refine dOk_V (ok_X9_bit 1) (fun r_89 h_90 => ?_)
            replace h_90 : ((Int32.toInt r_89 = 0 ∨ Int32.toInt r_89 = 1)) := h_90
            have i_91 := h_90
            try have t_92 : Int32.toInt (0 + r_77) = 0 + Int32.toInt r_77 := ti_add (by decide) rfl (by omega) (by omega)
            try have t_93 : Int32.toInt (x4_11 + r_89) = Int32.toInt x4_11 + Int32.toInt r_89 := ti_add rfl rfl (by omega) (by omega)
            try have t_94 : Int32.toInt (x5_12 + 1) = Int32.toInt x5_12 + 1 := ti_add rfl (by decide) (by omega) (by omega)
            exact hk_5 (q_1, p1, v_32, (0 + r_77), (x4_11 + r_89), (x5_12 + 1)) (show (q_1 = q_1) ∧ (p1 = p1) ∧ (0 ≤ Int32.toInt (x5_12 + 1)) ∧ (Int32.toInt (x5_12 + 1) ≤ Int32.toInt (q_1.1 32 14)) from ⟨rfl, rfl, by omega, by omega⟩) (show (Int32.toInt (q_1.1 32 14) - Int32.toInt (x5_12 + 1)).toNat < (Int32.toInt (q_1.1 32 14) - Int32.toInt x5_12).toNat by omega)
        · unfold zX3_worstTowers_s32_55
          refine dOk_V (ok_X9_bit 0) (fun r_95 h_96 => ?_)
          replace h_96 : ((Int32.toInt r_95 = 0 ∨ Int32.toInt r_95 = 1)) := h_96
          have i_97 := h_96
          refine dOk_eq (A := Int32.toInt v_32) (B := (-1)) rfl (by decide) (fun c_98z c_98 => ?_) (fun c_99z c_99 => ?_)
          · unfold zX3_worstTowers_s32_73
            refine dOk_V (ok_X9_bit 0) (fun r_101 h_102 => ?_)
            replace h_102 : ((Int32.toInt r_101 = 0 ∨ Int32.toInt r_101 = 1)) := h_102
            have i_103 := h_102
            try have t_104 : Int32.toInt (0 + r_95) = 0 + Int32.toInt r_95 := ti_add (by decide) rfl (by omega) (by omega)
            try have t_105 : Int32.toInt (x4_11 + r_101) = Int32.toInt x4_11 + Int32.toInt r_101 := ti_add rfl rfl (by omega) (by omega)
            try have t_106 : Int32.toInt (x5_12 + 1) = Int32.toInt x5_12 + 1 := ti_add rfl (by decide) (by omega) (by omega)
            exact hk_5 (q_1, p1, v_32, (0 + r_95), (x4_11 + r_101), (x5_12 + 1)) (show (q_1 = q_1) ∧ (p1 = p1) ∧ (0 ≤ Int32.toInt (x5_12 + 1)) ∧ (Int32.toInt (x5_12 + 1) ≤ Int32.toInt (q_1.1 32 14)) from ⟨rfl, rfl, by omega, by omega⟩) (show (Int32.toInt (q_1.1 32 14) - Int32.toInt (x5_12 + 1)).toNat < (Int32.toInt (q_1.1 32 14) - Int32.toInt x5_12).toNat by omega)
          · unfold zX3_worstTowers_s32_73
            refine dOk_V (ok_X9_bit 1) (fun r_107 h_108 => ?_)
            replace h_108 : ((Int32.toInt r_107 = 0 ∨ Int32.toInt r_107 = 1)) := h_108
            have i_109 := h_108
            try have t_110 : Int32.toInt (0 + r_95) = 0 + Int32.toInt r_95 := ti_add (by decide) rfl (by omega) (by omega)
            try have t_111 : Int32.toInt (x4_11 + r_107) = Int32.toInt x4_11 + Int32.toInt r_107 := ti_add rfl rfl (by omega) (by omega)
            try have t_112 : Int32.toInt (x5_12 + 1) = Int32.toInt x5_12 + 1 := ti_add rfl (by decide) (by omega) (by omega)
            exact hk_5 (q_1, p1, v_32, (0 + r_95), (x4_11 + r_107), (x5_12 + 1)) (show (q_1 = q_1) ∧ (p1 = p1) ∧ (0 ≤ Int32.toInt (x5_12 + 1)) ∧ (Int32.toInt (x5_12 + 1) ≤ Int32.toInt (q_1.1 32 14)) from ⟨rfl, rfl, by omega, by omega⟩) (show (Int32.toInt (q_1.1 32 14) - Int32.toInt (x5_12 + 1)).toNat < (Int32.toInt (q_1.1 32 14) - Int32.toInt x5_12).toNat by omega)
  · have f_113 : 0 ≤ Int32.toInt (q_1.1 32 14) ∧ Int32.toInt (q_1.1 32 14) ≤ 46080 := rg_32_14 i_3
    have f_114 : 0 ≤ Int32.toInt (q.1 32 14) ∧ Int32.toInt (q.1 32 14) ≤ 46080 := rg_32_14 hT
    have w_115 : Int32.toInt (q_1.1 32 14) = Int32.toInt (q.1 32 14) := by rw [i_4.1 32 14 (by decide) (by decide)]
    exact (show (q_1 = q_1) ∧ (p1 = p1) ∧ (0 ≤ (0 : Int)) ∧ ((0 : Int) ≤ Int32.toInt (q_1.1 32 14)) from ⟨rfl, rfl, by omega, by omega⟩)
  · have f_116 : 0 ≤ Int32.toInt (q_1.1 32 14) ∧ Int32.toInt (q_1.1 32 14) ≤ 46080 := rg_32_14 i_3
    have f_117 : 0 ≤ Int32.toInt (q.1 32 14) ∧ Int32.toInt (q.1 32 14) ≤ 46080 := rg_32_14 hT
    have w_118 : Int32.toInt (q_1.1 32 14) = Int32.toInt (q.1 32 14) := by rw [i_4.1 32 14 (by decide) (by decide)]
    show (Int32.toInt (q_1.1 32 14) - (0 : Int)).toNat < 1000000000000
    omega

set_option maxHeartbeats 4000000 in
set_option maxRecDepth 100000 in
theorem ok_X3_fits_s32 (q : dK) (p1 : Int32) (p2 : Int32) (p3 : Int32) (hT : TC q) (hp0 : LD q) (hp1 : 0 ≤ Int32.toInt p1) (hp2 : Int32.toInt p1 < Int32.toInt (q.1 32 14)) : dOk (zX3_fits_s32 q p1 p2 p3) (fun (o : Int32 × dK) => (o.2 = q) ∧ ((Int32.toInt o.1 = 0 ∨ Int32.toInt o.1 = 1))) := by
  unfold zX3_fits_s32
  have hLs := ld_sz hp0
  refine dOk_eq (A := Int32.toInt p2) (B := 1) rfl (by decide) (fun c_1z c_1 => ?_) (fun c_2z c_2 => ?_)
  · have f_4 : 0 ≤ Int32.toInt (q.1 32 13) ∧ Int32.toInt (q.1 32 13) ≤ 6 := rg_32_13 hT
    have f_5 : 0 ≤ Int32.toInt (q.1 32 14) ∧ Int32.toInt (q.1 32 14) ≤ 46080 := rg_32_14 hT
    have f_6 : 0 ≤ Int32.toInt (q.1 32 100) ∧ Int32.toInt (q.1 32 100) ≤ 46080 := rg_32_100 hT
    try have t_7 := ld_o (t := p1) hp0 (by omega) (by omega)
    try have t_8 := ti_shr (x := p1) (s := q.1 32 13) (by omega)
    refine dOk_eq (A := Int32.toInt (p1 >>> ((q.1 32 13 : Int32) &&& 31))) (B := Int32.toInt p3) rfl rfl (fun c_9z c_9 => ?_) (fun c_10z c_10 => ?_)
    · unfold zX3_fits_s32_24
      refine dOk_G (dbl_ok (show (1 : Int) = 0 ∨ (1 : Int) = 1 by omega)) ?_
      exact dOk_some (show (q = q) ∧ (((1 : Int) = 0 ∨ (1 : Int) = 1)) from ⟨rfl, by omega⟩)
    · unfold zX3_fits_s32_24
      refine dOk_G (dbl_ok (show (0 : Int) = 0 ∨ (0 : Int) = 1 by omega)) ?_
      exact dOk_some (show (q = q) ∧ (((0 : Int) = 0 ∨ (0 : Int) = 1)) from ⟨rfl, by omega⟩)
  · refine dOk_eq (A := Int32.toInt p2) (B := 2) rfl (by decide) (fun c_12z c_12 => ?_) (fun c_13z c_13 => ?_)
    · have f_15 : 0 ≤ Int32.toInt (q.1 32 13) ∧ Int32.toInt (q.1 32 13) ≤ 6 := rg_32_13 hT
      have f_16 : 0 ≤ Int32.toInt (q.1 32 14) ∧ Int32.toInt (q.1 32 14) ≤ 46080 := rg_32_14 hT
      have f_17 : 0 ≤ Int32.toInt (q.1 32 100) ∧ Int32.toInt (q.1 32 100) ≤ 46080 := rg_32_100 hT
      try have t_18 := ld_o (t := p1) hp0 (by omega) (by omega)
      try have t_19 := ti_shr (x := p1) (s := q.1 32 13) (by omega)
      refine dOk_G (dg_ok (show 0 ≤ Int32.toInt (p1 >>> ((q.1 32 13 : Int32) &&& 31)) by omega) (show Int32.toInt (p1 >>> ((q.1 32 13 : Int32) &&& 31)) < ((Int32.toNatClampNeg (q.1 32 100) : Nat) : Int) by rw [cl_eq (show 0 ≤ Int32.toInt (q.1 32 100) by omega)]; omega)) ?_
      have n_20 : ((Int32.toNatClampNeg (p1 >>> ((q.1 32 13 : Int32) &&& 31)) : Nat) : Int) = Int32.toInt (p1 >>> ((q.1 32 13 : Int32) &&& 31)) := cl_eq (by omega)
      refine dOk_L (fun v_21 ev_21 => ?_)
      refine dOk_eq (A := Int32.toInt (v_21 &&& 7)) (B := Int32.toInt p3) rfl rfl (fun c_22z c_22 => ?_) (fun c_23z c_23 => ?_)
      · unfold zX3_fits_s32_49
        refine dOk_G (dbl_ok (show (1 : Int) = 0 ∨ (1 : Int) = 1 by omega)) ?_
        exact dOk_some (show (q = q) ∧ (((1 : Int) = 0 ∨ (1 : Int) = 1)) from ⟨rfl, by omega⟩)
      · unfold zX3_fits_s32_48
        unfold zX3_fits_s32_49
        refine dOk_G (dbl_ok (show (0 : Int) = 0 ∨ (0 : Int) = 1 by omega)) ?_
        exact dOk_some (show (q = q) ∧ (((0 : Int) = 0 ∨ (0 : Int) = 1)) from ⟨rfl, by omega⟩)
    · unfold zX3_fits_s32_48
      unfold zX3_fits_s32_49
      refine dOk_G (dbl_ok (show (0 : Int) = 0 ∨ (0 : Int) = 1 by omega)) ?_
      exact dOk_some (show (q = q) ∧ (((0 : Int) = 0 ∨ (0 : Int) = 1)) from ⟨rfl, by omega⟩)
