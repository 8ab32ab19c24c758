set_option maxHeartbeats 4000000 in
set_option maxRecDepth 100000 in
theorem ok_keeps (q : dS) (p1 : Int32) (hT : TS q) : dOk (zX10_keeps q p1) (fun (o : dS) => (TS o) ∧ (dFr [14] [32] q o)) := by
  unfold zX10_keeps
  have f_1 : 0 ≤ Int32.toInt (q.1 0 32) ∧ Int32.toInt (q.1 0 32) ≤ 16 := hT.1 0 32
  refine dOk_eq (A := Int32.toInt (q.1 0 32)) (B := 16) rfl (by decide) (fun c_2z c_2 => ?_) (fun c_3z c_3 => ?_)
  · unfold zX10_keeps_14
    refine dFix_ok (fun (a : dS × Int32 × Int32 × Int32) => (TS a.1) ∧ (dFr [14] [] q a.1) ∧ (a.2.1 = p1) ∧ (a.2.2.1 = 15) ∧ (0 ≤ Int32.toInt a.2.2.2) ∧ (Int32.toInt a.2.2.2 ≤ 225)) (fun (a : dS × Int32 × Int32 × Int32) => (225 - Int32.toInt a.2.2.2).toNat) ?_ _ ?_ _ (dF_gt ?_)
    · intro a ha k_6 hk_5
      obtain ⟨q_7, x1_8, x2_9, x3_10⟩ := a
      replace ha : (TS q_7) ∧ (dFr [14] [] q q_7) ∧ (x1_8 = p1) ∧ (x2_9 = 15) ∧ (0 ≤ Int32.toInt x3_10) ∧ (Int32.toInt x3_10 ≤ 225) := ha
      obtain ⟨a_11, a_12, a_13, a_14, a_15, a_16⟩ := ha
      show dOk (zX10_keeps_14b  (fun q x1 x2 x3 => k_6 (q, x1, x2, x3)) q_7 x1_8 x2_9 x3_10) _
      unfold zX10_keeps_14b
      have hFq_7 : dFr [14] [32] q q_7 := (dFr.rf (q := q)).t a_12 (by decide) (by decide)
      subst x1_8
      subst x2_9
      try have t_17 : Int32.toInt (15 * 15) = 15 * 15 := ti_mul (by decide) (by decide) (by omega) (by omega)
      refine dOk_le (A := Int32.toInt (15 * 15)) (B := Int32.toInt x3_10) rfl rfl (fun c_18 => ?_) (fun c_19 => ?_)
      · refine dOk_L (fun q_20 eq_20 => ?_)
        have f_21 : 0 ≤ Int32.toInt (q_7.1 0 32) ∧ Int32.toInt (q_7.1 0 32) ≤ 16 := a_11.1 0 32
        have w_22 : Int32.toInt (q_7.1 0 32) = Int32.toInt (q.1 0 32) := by rw [a_12.2 32 (by decide)]
        try have t_23 : Int32.toInt (q_7.1 0 32 - 1) = Int32.toInt (q_7.1 0 32) - 1 := ti_sub rfl (by decide) (by omega) (by omega)
        have hTq_20 : TS q_20 := by rw [eq_20]; exact ts_f a_11 (show 0 ≤ Int32.toInt (q_7.1 0 32 - 1) by omega) (show Int32.toInt (q_7.1 0 32 - 1) ≤ 16 by omega)
        have hFq_20 : dFr [14] [32] q q_20 := by rw [eq_20]; exact hFq_7.f (by decide)
        unfold zX10_keeps_52
        unfold zX10_keeps_54
        refine dFix_ok (fun (a : dS × Int32 × Int32 × Int32) => (TS a.1) ∧ (dFr [14] [] q_20 a.1) ∧ (a.2.1 = p1) ∧ (a.2.2.1 = 15) ∧ (0 ≤ Int32.toInt a.2.2.2) ∧ (Int32.toInt a.2.2.2 ≤ 14)) (fun (a : dS × Int32 × Int32 × Int32) => (14 - Int32.toInt a.2.2.2).toNat) ?_ _ ?_ _ (dF_gt ?_)
        · intro a ha k_25 hk_24
          obtain ⟨q_26, x1_27, x2_28, x3_29⟩ := a
          replace ha : (TS q_26) ∧ (dFr [14] [] q_20 q_26) ∧ (x1_27 = p1) ∧ (x2_28 = 15) ∧ (0 ≤ Int32.toInt x3_29) ∧ (Int32.toInt x3_29 ≤ 14) := ha
          obtain ⟨a_30, a_31, a_32, a_33, a_34, a_35⟩ := ha
          show dOk (zX10_keeps_54b  (fun q x1 x2 x3 => k_25 (q, x1, x2, x3)) q_26 x1_27 x2_28 x3_29) _
          unfold zX10_keeps_54b
          have hFq_26 : dFr [14] [32] q q_26 := hFq_20.t a_31 (by decide) (by decide)
          subst x1_27
          subst x2_28
          refine dOk_le (A := 14) (B := Int32.toInt x3_29) (by decide) rfl (fun c_36 => ?_) (fun c_37 => ?_)
          · have f_38 : 0 ≤ Int32.toInt (q_26.1 0 32) ∧ Int32.toInt (q_26.1 0 32) ≤ 16 := a_30.1 0 32
            have f_39 : 0 ≤ Int32.toInt (q_20.1 0 32) ∧ Int32.toInt (q_20.1 0 32) ≤ 16 := hTq_20.1 0 32
            have w_40 : Int32.toInt (q_20.1 0 32) = Int32.toInt (q_7.1 0 32 - 1) := by rw [eq_20, dui_e]
            have w_41 : Int32.toInt (q_26.1 0 32) = Int32.toInt (q_20.1 0 32) := by rw [a_31.2 32 (by decide)]
            try have t_42 : Int32.toInt (15 * q_26.1 0 32) = 15 * Int32.toInt (q_26.1 0 32) := ti_mul (by decide) rfl (by omega) (by omega)
            try have t_43 : Int32.toInt (15 * q_26.1 0 32 + 14) = Int32.toInt (15 * q_26.1 0 32) + 14 := ti_add rfl (by decide) (by omega) (by omega)
            refine dOk_G (dg_ok (show 0 ≤ Int32.toInt (15 * q_26.1 0 32 + 14) by omega) (show Int32.toInt (15 * q_26.1 0 32 + 14) < ((240 : Nat) : Int) by omega)) ?_
            have n_44 : ((Int32.toNatClampNeg (15 * q_26.1 0 32 + 14) : Nat) : Int) = Int32.toInt (15 * q_26.1 0 32 + 14) := cl_eq (by omega)
            refine dOk_L (fun q_45 eq_45 => ?_)
            have hTq_45 : TS q_45 := by rw [eq_45]; first | exact ts_set a_30 (by decide) (by simp only [tlo, klo]; omega) (by simp only [thi, khi]; omega) | exact ts_14x a_30 (by omega)
            have hFq_45 : dFr [14] [32] q q_45 := by rw [eq_45]; exact hFq_26.i (by decide) (by decide)
            refine dOk_L (fun q_46 eq_46 => ?_)
            have f_47 : 0 ≤ Int32.toInt (q_45.1 0 32) ∧ Int32.toInt (q_45.1 0 32) ≤ 16 := hTq_45.1 0 32
            try have w_48 : Int32.toInt (q_45.1 0 32) = Int32.toInt (q_26.1 0 32) := by rw [eq_45, dui_o (by decide)]
            try have t_49 : Int32.toInt (q_45.1 0 32 + 1) = Int32.toInt (q_45.1 0 32) + 1 := ti_add rfl (by decide) (by omega) (by omega)
            have hTq_46 : TS q_46 := by rw [eq_46]; exact ts_f hTq_45 (show 0 ≤ Int32.toInt (q_45.1 0 32 + 1) by omega) (show Int32.toInt (q_45.1 0 32 + 1) ≤ 16 by omega)
            have hFq_46 : dFr [14] [32] q q_46 := by rw [eq_46]; exact hFq_45.f (by decide)
            exact dOk_some (show (TS q_46) ∧ (dFr [14] [32] q q_46) from ⟨hTq_46, hFq_46⟩)
          · refine dOk_G (dg_ok (show 0 ≤ Int32.toInt x3_29 by omega) (show Int32.toInt x3_29 < ((5640 : Nat) : Int) by omega)) ?_
            have n_50 : ((Int32.toNatClampNeg x3_29 : Nat) : Int) = Int32.toInt x3_29 := cl_eq (by omega)
            refine dOk_L (fun v_51 ev_51 => ?_)
            try have g_52 : klo (Int32.toNatClampNeg x3_29) ≤ Int32.toInt v_51 ∧ Int32.toInt v_51 ≤ khi (Int32.toNatClampNeg x3_29) := by rw [ev_51]; exact te_k a_30 _
            try have f_53 : 0 ≤ Int32.toInt v_51 ∧ Int32.toInt v_51 ≤ 5 := by rw [ev_51]; exact te_2r a_30 (by omega) (by omega)
            try have f_54 : 0 ≤ Int32.toInt v_51 ∧ Int32.toInt v_51 ≤ 1 := by rw [ev_51]; exact te_2h a_30 (by omega) (by omega)
            try have f_55 : 0 ≤ Int32.toInt v_51 ∧ Int32.toInt v_51 ≤ 5 := by rw [ev_51]; exact te_2s a_30 (by omega) (by omega)
            try have f_56 : 0 ≤ Int32.toInt v_51 ∧ Int32.toInt v_51 ≤ 400 := by rw [ev_51]; exact te_2z a_30 (by omega) (by omega)
            have f_57 : 0 ≤ Int32.toInt (q_26.1 0 32) ∧ Int32.toInt (q_26.1 0 32) ≤ 16 := a_30.1 0 32
            have f_58 : 0 ≤ Int32.toInt (q_20.1 0 32) ∧ Int32.toInt (q_20.1 0 32) ≤ 16 := hTq_20.1 0 32
            have w_59 : Int32.toInt (q_20.1 0 32) = Int32.toInt (q_7.1 0 32 - 1) := by rw [eq_20, dui_e]
            have w_60 : Int32.toInt (q_26.1 0 32) = Int32.toInt (q_20.1 0 32) := by rw [a_31.2 32 (by decide)]
            try have t_61 : Int32.toInt (15 * q_26.1 0 32) = 15 * Int32.toInt (q_26.1 0 32) := ti_mul (by decide) rfl (by omega) (by omega)
            try have t_62 : Int32.toInt (15 * q_26.1 0 32 + x3_29) = Int32.toInt (15 * q_26.1 0 32) + Int32.toInt x3_29 := ti_add rfl rfl (by omega) (by omega)
            refine dOk_G (dg_ok (show 0 ≤ Int32.toInt (15 * q_26.1 0 32 + x3_29) by omega) (show Int32.toInt (15 * q_26.1 0 32 + x3_29) < ((240 : Nat) : Int) by omega)) ?_
            have n_63 : ((Int32.toNatClampNeg (15 * q_26.1 0 32 + x3_29) : Nat) : Int) = Int32.toInt (15 * q_26.1 0 32 + x3_29) := cl_eq (by omega)
            refine dOk_L (fun q_64 eq_64 => ?_)
            have hTq_64 : TS q_64 := by rw [eq_64]; first | exact ts_14 a_30 (show (Int32.toNatClampNeg (15 * q_26.1 0 32 + x3_29)) % 15 = Int32.toNatClampNeg x3_29 by omega) (by omega) g_52 | exact ts_set a_30 (by decide) (by simp only [tlo, klo]; omega) (by simp only [thi, khi]; omega) | exact ts_14x a_30 (by omega)
            have hFq_64 : dFr [14] [32] q q_64 := by rw [eq_64]; exact hFq_26.i (by decide) (by decide)
            try have t_65 : Int32.toInt (x3_29 + 1) = Int32.toInt x3_29 + 1 := ti_add rfl (by decide) (by omega) (by omega)
            exact hk_24 (q_64, p1, 15, (x3_29 + 1)) (show (TS q_64) ∧ (dFr [14] [] q_20 q_64) ∧ (p1 = p1) ∧ (15 = 15) ∧ (0 ≤ Int32.toInt (x3_29 + 1)) ∧ (Int32.toInt (x3_29 + 1) ≤ 14) from ⟨hTq_64, (by rw [eq_64]; exact (((dFr.rf : dFr [14] [] q_20 q_20).t a_31 (by decide) (by decide)) : dFr [14] [] q_20 q_26).i (by decide) (by decide)), rfl, rfl, by omega, by omega⟩) (show (14 - Int32.toInt (x3_29 + 1)).toNat < (14 - Int32.toInt x3_29).toNat by omega)
        · exact (show (TS q_20) ∧ (dFr [14] [] q_20 q_20) ∧ (p1 = p1) ∧ (15 = 15) ∧ (0 ≤ (0 : Int)) ∧ ((0 : Int) ≤ 14) from ⟨hTq_20, dFr.rf, rfl, rfl, by omega, by omega⟩)
        · show (14 - (0 : Int)).toNat < 1000000000000
          omega
      · try have t_66 : Int32.toInt (x3_10 + 15) = Int32.toInt x3_10 + 15 := ti_add rfl (by decide) (by omega) (by omega)
        refine dOk_G (dg_ok (show 0 ≤ Int32.toInt (x3_10 + 15) by omega) (show Int32.toInt (x3_10 + 15) < ((240 : Nat) : Int) by omega)) ?_
        have n_67 : ((Int32.toNatClampNeg (x3_10 + 15) : Nat) : Int) = Int32.toInt (x3_10 + 15) := cl_eq (by omega)
        refine dOk_L (fun v_68 ev_68 => ?_)
        try have g_69 : klo ((Int32.toNatClampNeg (x3_10 + 15)) % 15) ≤ Int32.toInt v_68 ∧ Int32.toInt v_68 ≤ khi ((Int32.toNatClampNeg (x3_10 + 15)) % 15) := by rw [ev_68]; exact te_14 a_11 (by omega)
        refine dOk_G (dg_ok (show 0 ≤ Int32.toInt x3_10 by omega) (show Int32.toInt x3_10 < ((240 : Nat) : Int) by omega)) ?_
        have n_70 : ((Int32.toNatClampNeg x3_10 : Nat) : Int) = Int32.toInt x3_10 := cl_eq (by omega)
        refine dOk_L (fun q_71 eq_71 => ?_)
        have hTq_71 : TS q_71 := by rw [eq_71]; exact ts_cp (s := Int32.toNatClampNeg (x3_10 + 15)) 14 14 (by decide) (by decide) a_11 a_11 (by omega) ev_68
        have hFq_71 : dFr [14] [32] q q_71 := by rw [eq_71]; exact hFq_7.i (by decide) (by decide)
        try have t_72 : Int32.toInt (x3_10 + 1) = Int32.toInt x3_10 + 1 := ti_add rfl (by decide) (by omega) (by omega)
        exact hk_5 (q_71, p1, 15, (x3_10 + 1)) (show (TS q_71) ∧ (dFr [14] [] q q_71) ∧ (p1 = p1) ∧ (15 = 15) ∧ (0 ≤ Int32.toInt (x3_10 + 1)) ∧ (Int32.toInt (x3_10 + 1) ≤ 225) from ⟨hTq_71, (by rw [eq_71]; exact (((dFr.rf : dFr [14] [] q q).t a_12 (by decide) (by decide)) : dFr [14] [] q q_7).i (by decide) (by decide)), rfl, rfl, by omega, by omega⟩) (show (225 - Int32.toInt (x3_10 + 1)).toNat < (225 - Int32.toInt x3_10).toNat by omega)
    · exact (show (TS q) ∧ (dFr [14] [] q q) ∧ (p1 = p1) ∧ (15 = 15) ∧ (0 ≤ (0 : Int)) ∧ ((0 : Int) ≤ 225) from ⟨hT, dFr.rf, rfl, rfl, by omega, by omega⟩)
    · show (225 - (0 : Int)).toNat < 1000000000000
      omega
  · unfold zX10_keeps_52
    unfold zX10_keeps_54
    refine dFix_ok (fun (a : dS × Int32 × Int32 × Int32) => (TS a.1) ∧ (dFr [14] [] q a.1) ∧ (a.2.1 = p1) ∧ (a.2.2.1 = 15) ∧ (0 ≤ Int32.toInt a.2.2.2) ∧ (Int32.toInt a.2.2.2 ≤ 14)) (fun (a : dS × Int32 × Int32 × Int32) => (14 - Int32.toInt a.2.2.2).toNat) ?_ _ ?_ _ (dF_gt ?_)
    · intro a ha k_74 hk_73
      obtain ⟨q_75, x1_76, x2_77, x3_78⟩ := a
      replace ha : (TS q_75) ∧ (dFr [14] [] q q_75) ∧ (x1_76 = p1) ∧ (x2_77 = 15) ∧ (0 ≤ Int32.toInt x3_78) ∧ (Int32.toInt x3_78 ≤ 14) := ha
      obtain ⟨a_79, a_80, a_81, a_82, a_83, a_84⟩ := ha
      show dOk (zX10_keeps_54b  (fun q x1 x2 x3 => k_74 (q, x1, x2, x3)) q_75 x1_76 x2_77 x3_78) _
      unfold zX10_keeps_54b
      have hFq_75 : dFr [14] [32] q q_75 := (dFr.rf (q := q)).t a_80 (by decide) (by decide)
      subst x1_76
      subst x2_77
      refine dOk_le (A := 14) (B := Int32.toInt x3_78) (by decide) rfl (fun c_85 => ?_) (fun c_86 => ?_)
      · have f_87 : 0 ≤ Int32.toInt (q_75.1 0 32) ∧ Int32.toInt (q_75.1 0 32) ≤ 16 := a_79.1 0 32
        have w_88 : Int32.toInt (q_75.1 0 32) = Int32.toInt (q.1 0 32) := by rw [a_80.2 32 (by decide)]
        try have t_89 : Int32.toInt (15 * q_75.1 0 32) = 15 * Int32.toInt (q_75.1 0 32) := ti_mul (by decide) rfl (by omega) (by omega)
        try have t_90 : Int32.toInt (15 * q_75.1 0 32 + 14) = Int32.toInt (15 * q_75.1 0 32) + 14 := ti_add rfl (by decide) (by omega) (by omega)
        refine dOk_G (dg_ok (show 0 ≤ Int32.toInt (15 * q_75.1 0 32 + 14) by omega) (show Int32.toInt (15 * q_75.1 0 32 + 14) < ((240 : Nat) : Int) by omega)) ?_
        have n_91 : ((Int32.toNatClampNeg (15 * q_75.1 0 32 + 14) : Nat) : Int) = Int32.toInt (15 * q_75.1 0 32 + 14) := cl_eq (by omega)
        refine dOk_L (fun q_92 eq_92 => ?_)
        have hTq_92 : TS q_92 := by rw [eq_92]; first | exact ts_set a_79 (by decide) (by simp only [tlo, klo]; omega) (by simp only [thi, khi]; omega) | exact ts_14x a_79 (by omega)
        have hFq_92 : dFr [14] [32] q q_92 := by rw [eq_92]; exact hFq_75.i (by decide) (by decide)
        refine dOk_L (fun q_93 eq_93 => ?_)
        have f_94 : 0 ≤ Int32.toInt (q_92.1 0 32) ∧ Int32.toInt (q_92.1 0 32) ≤ 16 := hTq_92.1 0 32
        try have w_95 : Int32.toInt (q_92.1 0 32) = Int32.toInt (q_75.1 0 32) := by rw [eq_92, dui_o (by decide)]
        try have t_96 : Int32.toInt (q_92.1 0 32 + 1) = Int32.toInt (q_92.1 0 32) + 1 := ti_add rfl (by decide) (by omega) (by omega)
        have hTq_93 : TS q_93 := by rw [eq_93]; exact ts_f hTq_92 (show 0 ≤ Int32.toInt (q_92.1 0 32 + 1) by omega) (show Int32.toInt (q_92.1 0 32 + 1) ≤ 16 by omega)
        have hFq_93 : dFr [14] [32] q q_93 := by rw [eq_93]; exact hFq_92.f (by decide)
        exact dOk_some (show (TS q_93) ∧ (dFr [14] [32] q q_93) from ⟨hTq_93, hFq_93⟩)
      · refine dOk_G (dg_ok (show 0 ≤ Int32.toInt x3_78 by omega) (show Int32.toInt x3_78 < ((5640 : Nat) : Int) by omega)) ?_
        have n_97 : ((Int32.toNatClampNeg x3_78 : Nat) : Int) = Int32.toInt x3_78 := cl_eq (by omega)
        refine dOk_L (fun v_98 ev_98 => ?_)
        try have g_99 : klo (Int32.toNatClampNeg x3_78) ≤ Int32.toInt v_98 ∧ Int32.toInt v_98 ≤ khi (Int32.toNatClampNeg x3_78) := by rw [ev_98]; exact te_k a_79 _
        try have f_100 : 0 ≤ Int32.toInt v_98 ∧ Int32.toInt v_98 ≤ 5 := by rw [ev_98]; exact te_2r a_79 (by omega) (by omega)
        try have f_101 : 0 ≤ Int32.toInt v_98 ∧ Int32.toInt v_98 ≤ 1 := by rw [ev_98]; exact te_2h a_79 (by omega) (by omega)
        try have f_102 : 0 ≤ Int32.toInt v_98 ∧ Int32.toInt v_98 ≤ 5 := by rw [ev_98]; exact te_2s a_79 (by omega) (by omega)
        try have f_103 : 0 ≤ Int32.toInt v_98 ∧ Int32.toInt v_98 ≤ 400 := by rw [ev_98]; exact te_2z a_79 (by omega) (by omega)
        have f_104 : 0 ≤ Int32.toInt (q_75.1 0 32) ∧ Int32.toInt (q_75.1 0 32) ≤ 16 := a_79.1 0 32
        have w_105 : Int32.toInt (q_75.1 0 32) = Int32.toInt (q.1 0 32) := by rw [a_80.2 32 (by decide)]
        try have t_106 : Int32.toInt (15 * q_75.1 0 32) = 15 * Int32.toInt (q_75.1 0 32) := ti_mul (by decide) rfl (by omega) (by omega)
        try have t_107 : Int32.toInt (15 * q_75.1 0 32 + x3_78) = Int32.toInt (15 * q_75.1 0 32) + Int32.toInt x3_78 := ti_add rfl rfl (by omega) (by omega)
        refine dOk_G (dg_ok (show 0 ≤ Int32.toInt (15 * q_75.1 0 32 + x3_78) by omega) (show Int32.toInt (15 * q_75.1 0 32 + x3_78) < ((240 : Nat) : Int) by omega)) ?_
        have n_108 : ((Int32.toNatClampNeg (15 * q_75.1 0 32 + x3_78) : Nat) : Int) = Int32.toInt (15 * q_75.1 0 32 + x3_78) := cl_eq (by omega)
        refine dOk_L (fun q_109 eq_109 => ?_)
        have hTq_109 : TS q_109 := by rw [eq_109]; first | exact ts_14 a_79 (show (Int32.toNatClampNeg (15 * q_75.1 0 32 + x3_78)) % 15 = Int32.toNatClampNeg x3_78 by omega) (by omega) g_99 | exact ts_set a_79 (by decide) (by simp only [tlo, klo]; omega) (by simp only [thi, khi]; omega) | exact ts_14x a_79 (by omega)
        have hFq_109 : dFr [14] [32] q q_109 := by rw [eq_109]; exact hFq_75.i (by decide) (by decide)
        try have t_110 : Int32.toInt (x3_78 + 1) = Int32.toInt x3_78 + 1 := ti_add rfl (by decide) (by omega) (by omega)
        exact hk_73 (q_109, p1, 15, (x3_78 + 1)) (show (TS q_109) ∧ (dFr [14] [] q q_109) ∧ (p1 = p1) ∧ (15 = 15) ∧ (0 ≤ Int32.toInt (x3_78 + 1)) ∧ (Int32.toInt (x3_78 + 1) ≤ 14) from ⟨hTq_109, (by rw [eq_109]; exact (((dFr.rf : dFr [14] [] q q).t a_80 (by decide) (by decide)) : dFr [14] [] q q_75).i (by decide) (by decide)), rfl, rfl, by omega, by omega⟩) (show (14 - Int32.toInt (x3_78 + 1)).toNat < (14 - Int32.toInt x3_78).toNat by omega)
    · exact (show (TS q) ∧ (dFr [14] [] q q) ∧ (p1 = p1) ∧ (15 = 15) ∧ (0 ≤ (0 : Int)) ∧ ((0 : Int) ≤ 14) from ⟨hT, dFr.rf, rfl, rfl, by omega, by omega⟩)
    · show (14 - (0 : Int)).toNat < 1000000000000
      omega

set_option maxHeartbeats 4000000 in
set_option maxRecDepth 100000 in
theorem ok_undo (q : dS) (hT : TS q) : dOk (zX10_undo q) (fun (o : Int32 × dS) => (TS o.2) ∧ (dFk [1, 2] [0, 32] q o.2)) := by
  unfold zX10_undo
  have f_1 : 0 ≤ Int32.toInt (q.1 0 32) ∧ Int32.toInt (q.1 0 32) ≤ 16 := hT.1 0 32
  refine dOk_eq (A := Int32.toInt (q.1 0 32)) (B := 0) rfl (by decide) (fun c_2z c_2 => ?_) (fun c_3z c_3 => ?_)
  · refine dOk_B (ok_refuses q (-3) hT (show (-6) ≤ (-3 : Int) by omega) (show (-3 : Int) ≤ 0 by omega)) (fun r_5 q_6 h_7 => ?_)
    replace h_7 : (TS q_6) ∧ (dFr [1] [0] q q_6) ∧ (Int32.toInt r_5 = (-3 : Int)) := h_7
    obtain ⟨i_8, i_9, i_10⟩ := h_7
    have hFq_6 : dFk [1, 2] [0, 32] q q_6 := (dFk.rf (q := q)).tr i_9 (by decide) (by decide) (by decide)
    exact dOk_some (show (TS q_6) ∧ (dFk [1, 2] [0, 32] q q_6) from ⟨i_8, hFq_6⟩)
  · refine dOk_L (fun q_11 eq_11 => ?_)
    try have t_12 : Int32.toInt (q.1 0 32 - 1) = Int32.toInt (q.1 0 32) - 1 := ti_sub rfl (by decide) (by omega) (by omega)
    have hTq_11 : TS q_11 := by rw [eq_11]; exact ts_f hT (show 0 ≤ Int32.toInt (q.1 0 32 - 1) by omega) (show Int32.toInt (q.1 0 32 - 1) ≤ 16 by omega)
    have hFq_11 : dFk [1, 2] [0, 32] q q_11 := by rw [eq_11]; exact (dFk.rf (q := q)).f (by decide)
    unfold zX10_undo_34
    refine dFix_ok (fun (a : dS × Int32 × Int32) => (TS a.1) ∧ (dFk [2] [] q_11 a.1) ∧ (a.2.1 = (15 * q_11.1 0 32)) ∧ (0 ≤ Int32.toInt a.2.2) ∧ (Int32.toInt a.2.2 ≤ 14)) (fun (a : dS × Int32 × Int32) => (14 - Int32.toInt a.2.2).toNat) ?_ _ ?_ _ (dF_gt ?_)
    · intro a ha k_14 hk_13
      obtain ⟨q_15, x1_16, x2_17⟩ := a
      replace ha : (TS q_15) ∧ (dFk [2] [] q_11 q_15) ∧ (x1_16 = (15 * q_11.1 0 32)) ∧ (0 ≤ Int32.toInt x2_17) ∧ (Int32.toInt x2_17 ≤ 14) := ha
      obtain ⟨a_18, a_19, a_20, a_21, a_22⟩ := ha
      show dOk (zX10_undo_34b  (fun q x1 x2 => k_14 (q, x1, x2)) q_15 x1_16 x2_17) _
      unfold zX10_undo_34b
      have hFq_15 : dFk [1, 2] [0, 32] q q_15 := hFq_11.t a_19 (by decide) (by decide)
      subst x1_16
      have f_23 : 0 ≤ Int32.toInt (q_11.1 0 32) ∧ Int32.toInt (q_11.1 0 32) ≤ 16 := hTq_11.1 0 32
      have w_24 : Int32.toInt (q_11.1 0 32) = Int32.toInt (q.1 0 32 - 1) := by rw [eq_11, dui_e]
      refine dOk_le (A := 14) (B := Int32.toInt x2_17) (by decide) rfl (fun c_25 => ?_) (fun c_26 => ?_)
      · try have t_27 : Int32.toInt (15 * q_11.1 0 32) = 15 * Int32.toInt (q_11.1 0 32) := ti_mul (by decide) rfl (by omega) (by omega)
        try have t_28 : Int32.toInt (15 * q_11.1 0 32 + 14) = Int32.toInt (15 * q_11.1 0 32) + 14 := ti_add rfl (by decide) (by omega) (by omega)
        refine dOk_G (dg_ok (show 0 ≤ Int32.toInt (15 * q_11.1 0 32 + 14) by omega) (show Int32.toInt (15 * q_11.1 0 32 + 14) < ((240 : Nat) : Int) by omega)) ?_
        have n_29 : ((Int32.toNatClampNeg (15 * q_11.1 0 32 + 14) : Nat) : Int) = Int32.toInt (15 * q_11.1 0 32 + 14) := cl_eq (by omega)
        refine dOk_L (fun v_30 ev_30 => ?_)
        try have g_31 : klo ((Int32.toNatClampNeg (15 * q_11.1 0 32 + 14)) % 15) ≤ Int32.toInt v_30 ∧ Int32.toInt v_30 ≤ khi ((Int32.toNatClampNeg (15 * q_11.1 0 32 + 14)) % 15) := by rw [ev_30]; exact te_14 a_18 (by omega)
        refine dOk_B (ok_good q_15 v_30 a_18) (fun r_32 q_33 h_34 => ?_)
        replace h_34 : (TS q_33) ∧ (dFr [] [0] q_15 q_33) ∧ (Int32.toInt r_32 = Int32.toInt v_30) := h_34
        obtain ⟨i_35, i_36, i_37⟩ := h_34
        have hFq_33 : dFk [1, 2] [0, 32] q q_33 := hFq_15.tr i_36 (by decide) (by decide) (by decide)
        exact dOk_some (show (TS q_33) ∧ (dFk [1, 2] [0, 32] q q_33) from ⟨i_35, hFq_33⟩)
      · try have t_38 : Int32.toInt (15 * q_11.1 0 32) = 15 * Int32.toInt (q_11.1 0 32) := ti_mul (by decide) rfl (by omega) (by omega)
        try have t_39 : Int32.toInt (15 * q_11.1 0 32 + x2_17) = Int32.toInt (15 * q_11.1 0 32) + Int32.toInt x2_17 := ti_add rfl rfl (by omega) (by omega)
        refine dOk_G (dg_ok (show 0 ≤ Int32.toInt (15 * q_11.1 0 32 + x2_17) by omega) (show Int32.toInt (15 * q_11.1 0 32 + x2_17) < ((240 : Nat) : Int) by omega)) ?_
        have n_40 : ((Int32.toNatClampNeg (15 * q_11.1 0 32 + x2_17) : Nat) : Int) = Int32.toInt (15 * q_11.1 0 32 + x2_17) := cl_eq (by omega)
        refine dOk_L (fun v_41 ev_41 => ?_)
        try have g_42 : klo ((Int32.toNatClampNeg (15 * q_11.1 0 32 + x2_17)) % 15) ≤ Int32.toInt v_41 ∧ Int32.toInt v_41 ≤ khi ((Int32.toNatClampNeg (15 * q_11.1 0 32 + x2_17)) % 15) := by rw [ev_41]; exact te_14 a_18 (by omega)
        refine dOk_G (dg_ok (show 0 ≤ Int32.toInt x2_17 by omega) (show Int32.toInt x2_17 < ((5640 : Nat) : Int) by omega)) ?_
        have n_43 : ((Int32.toNatClampNeg x2_17 : Nat) : Int) = Int32.toInt x2_17 := cl_eq (by omega)
        refine dOk_L (fun q_44 eq_44 => ?_)
        have hTq_44 : TS q_44 := by rw [eq_44]; first | exact ts_2c a_18 (by omega) (show Int32.toNatClampNeg x2_17 = (Int32.toNatClampNeg (15 * q_11.1 0 32 + x2_17)) % 15 by omega) g_42 | exact ts_set2 a_18 (by omega) (show klo (Int32.toNatClampNeg x2_17) ≤ Int32.toInt v_41 by unfold klo; omega) (show Int32.toInt v_41 ≤ khi (Int32.toNatClampNeg x2_17) by unfold khi; omega)
        have hFq_44 : dFk [1, 2] [0, 32] q q_44 := by rw [eq_44]; exact hFq_15.k (by omega) (by decide)
        try have t_45 : Int32.toInt (x2_17 + 1) = Int32.toInt x2_17 + 1 := ti_add rfl (by decide) (by omega) (by omega)
        exact hk_13 (q_44, (15 * q_11.1 0 32), (x2_17 + 1)) (show (TS q_44) ∧ (dFk [2] [] q_11 q_44) ∧ ((15 * q_11.1 0 32) = (15 * q_11.1 0 32)) ∧ (0 ≤ Int32.toInt (x2_17 + 1)) ∧ (Int32.toInt (x2_17 + 1) ≤ 14) from ⟨hTq_44, (by rw [eq_44]; exact (((dFk.rf : dFk [2] [] q_11 q_11).t a_19 (by decide) (by decide)) : dFk [2] [] q_11 q_15).k (by omega) (by decide)), rfl, by omega, by omega⟩) (show (14 - Int32.toInt (x2_17 + 1)).toNat < (14 - Int32.toInt x2_17).toNat by omega)
    · have f_46 : 0 ≤ Int32.toInt (q_11.1 0 32) ∧ Int32.toInt (q_11.1 0 32) ≤ 16 := hTq_11.1 0 32
      have w_47 : Int32.toInt (q_11.1 0 32) = Int32.toInt (q.1 0 32 - 1) := by rw [eq_11, dui_e]
      try have t_48 : Int32.toInt (15 * q_11.1 0 32) = 15 * Int32.toInt (q_11.1 0 32) := ti_mul (by decide) rfl (by omega) (by omega)
      exact (show (TS q_11) ∧ (dFk [2] [] q_11 q_11) ∧ ((15 * q_11.1 0 32) = (15 * q_11.1 0 32)) ∧ (0 ≤ (0 : Int)) ∧ ((0 : Int) ≤ 14) from ⟨hTq_11, dFk.rf, rfl, by omega, by omega⟩)
    · have f_49 : 0 ≤ Int32.toInt (q_11.1 0 32) ∧ Int32.toInt (q_11.1 0 32) ≤ 16 := hTq_11.1 0 32
      have w_50 : Int32.toInt (q_11.1 0 32) = Int32.toInt (q.1 0 32 - 1) := by rw [eq_11, dui_e]
      try have t_51 : Int32.toInt (15 * q_11.1 0 32) = 15 * Int32.toInt (q_11.1 0 32) := ti_mul (by decide) rfl (by omega) (by omega)
      show (14 - (0 : Int)).toNat < 1000000000000
      omega

set_option maxHeartbeats 4000000 in
set_option maxRecDepth 100000 in
theorem ok_goodOr (q : dS) (p1 : Int32) (hT : TS q) (hp0 : (-6) ≤ Int32.toInt p1) : dOk (zX10_goodOr q p1) (fun (o : Int32 × dS) => (TS o.2) ∧ (dFr [1] [0] q o.2) ∧ (Int32.toInt o.1 = Int32.toInt p1)) := by
  unfold zX10_goodOr
  refine dOk_le (A := 0) (B := Int32.toInt p1) (by decide) rfl (fun c_1 => ?_) (fun c_2 => ?_)
  · refine dOk_B (ok_good q p1 hT) (fun r_3 q_4 h_5 => ?_)
    replace h_5 : (TS q_4) ∧ (dFr [] [0] q q_4) ∧ (Int32.toInt r_3 = Int32.toInt p1) := h_5
    obtain ⟨i_6, i_7, i_8⟩ := h_5
    have hFq_4 : dFr [1] [0] q q_4 := (dFr.rf (q := q)).t i_7 (by decide) (by decide)
    unfold zX10_goodOr_17
    exact dOk_some (show (TS q_4) ∧ (dFr [1] [0] q q_4) ∧ (Int32.toInt r_3 = Int32.toInt p1) from ⟨i_6, hFq_4, by omega⟩)
  · refine dOk_B (ok_refuses q p1 hT (show (-6) ≤ Int32.toInt p1 by omega) (show Int32.toInt p1 ≤ 0 by omega)) (fun r_9 q_10 h_11 => ?_)
    replace h_11 : (TS q_10) ∧ (dFr [1] [0] q q_10) ∧ (Int32.toInt r_9 = Int32.toInt p1) := h_11
    obtain ⟨i_12, i_13, i_14⟩ := h_11
    have hFq_10 : dFr [1] [0] q q_10 := (dFr.rf (q := q)).t i_13 (by decide) (by decide)
    unfold zX10_goodOr_17
    exact dOk_some (show (TS q_10) ∧ (dFr [1] [0] q q_10) ∧ (Int32.toInt r_9 = Int32.toInt p1) from ⟨i_12, hFq_10, by omega⟩)

set_option maxHeartbeats 4000000 in
set_option maxRecDepth 100000 in
theorem ok_rightsKept (q : dS) (p1 : Int32) (hT : TS q) : dOk (zX10_rightsKept q p1) (fun (o : Int32 × dS) => (TS o.2) ∧ (dFk [2, 14] [32] q o.2) ∧ (-3 ≤ Int32.toInt o.1 ∧ Int32.toInt o.1 ≤ 99)) := by
  unfold zX10_rightsKept
  refine dOk_V (ok_lies p1 0 5) (fun r_1 h_2 => ?_)
  replace h_2 : ((Int32.toInt r_1 = 1 ∧ (0 : Int) ≤ Int32.toInt p1 ∧ Int32.toInt p1 ≤ (5 : Int)) ∨ (Int32.toInt r_1 = 0 ∧ (Int32.toInt p1 < (0 : Int) ∨ (5 : Int) < Int32.toInt p1))) := h_2
  have i_3 := h_2
  refine dOk_eq (A := Int32.toInt r_1) (B := 0) rfl (by decide) (fun c_4z c_4 => ?_) (fun c_5z c_5 => ?_)
  · exact dOk_some (show (TS q) ∧ (dFk [2, 14] [32] q q) ∧ (-3 ≤ (-1 : Int) ∧ (-1 : Int) ≤ 99) from ⟨hT, (dFk.rf (q := q)), by omega⟩)
  · refine dOk_B (ok_isPlace q p1 hT) (fun r_7 q_8 h_9 => ?_)
    replace h_9 : (q_8 = q) ∧ ((Int32.toInt r_7 = 1 ∧ 0 ≤ Int32.toInt p1 ∧ Int32.toInt p1 < Int32.toInt (q.1 2 29)) ∨ (Int32.toInt r_7 = 0 ∧ (Int32.toInt p1 < 0 ∨ Int32.toInt (q.1 2 29) ≤ Int32.toInt p1))) := h_9
    obtain ⟨i_10, i_11⟩ := h_9
    subst q_8
    have f_12 : 0 ≤ Int32.toInt (q.1 2 29) ∧ Int32.toInt (q.1 2 29) ≤ 6 := hT.1 2 29
    refine dOk_eq (A := Int32.toInt r_7) (B := 0) rfl (by decide) (fun c_13z c_13 => ?_) (fun c_14z c_14 => ?_)
    · exact dOk_some (show (TS q) ∧ (dFk [2, 14] [32] q q) ∧ (-3 ≤ (-3 : Int) ∧ (-3 : Int) ≤ 99) from ⟨hT, (dFk.rf (q := q)), by omega⟩)
    · refine dOk_V (ok_keeps q 1 hT) (fun q_16 h_17 => ?_)
      replace h_17 : (TS q_16) ∧ (dFr [14] [32] q q_16) := h_17
      obtain ⟨i_18, i_19⟩ := h_17
      have hFq_16 : dFk [2, 14] [32] q q_16 := (dFk.rf (q := q)).tr i_19 (by decide) (by decide) (by decide)
      try have t_20 : Int32.toInt (6 + p1) = 6 + Int32.toInt p1 := ti_add (by decide) rfl (by omega) (by omega)
      refine dOk_G (dg_ok (show 0 ≤ Int32.toInt (6 + p1) by omega) (show Int32.toInt (6 + p1) < ((5640 : Nat) : Int) by omega)) ?_
      have n_21 : ((Int32.toNatClampNeg (6 + p1) : Nat) : Int) = Int32.toInt (6 + p1) := cl_eq (by omega)
      refine dOk_L (fun v_22 ev_22 => ?_)
      try have g_23 : klo (Int32.toNatClampNeg (6 + p1)) ≤ Int32.toInt v_22 ∧ Int32.toInt v_22 ≤ khi (Int32.toNatClampNeg (6 + p1)) := by rw [ev_22]; exact te_k i_18 _
      try have f_24 : 0 ≤ Int32.toInt v_22 ∧ Int32.toInt v_22 ≤ 5 := by rw [ev_22]; exact te_2r i_18 (by omega) (by omega)
      try have f_25 : 0 ≤ Int32.toInt v_22 ∧ Int32.toInt v_22 ≤ 1 := by rw [ev_22]; exact te_2h i_18 (by omega) (by omega)
      try have f_26 : 0 ≤ Int32.toInt v_22 ∧ Int32.toInt v_22 ≤ 5 := by rw [ev_22]; exact te_2s i_18 (by omega) (by omega)
      try have f_27 : 0 ≤ Int32.toInt v_22 ∧ Int32.toInt v_22 ≤ 400 := by rw [ev_22]; exact te_2z i_18 (by omega) (by omega)
      refine dOk_G (dg_ok (show 0 ≤ Int32.toInt (6 + p1) by omega) (show Int32.toInt (6 + p1) < ((5640 : Nat) : Int) by omega)) ?_
      refine dOk_L (fun q_28 eq_28 => ?_)
      try have t_29 : Int32.toInt (1 - v_22) = 1 - Int32.toInt v_22 := ti_sub (by decide) rfl (by omega) (by omega)
      have hTq_28 : TS q_28 := by rw [eq_28]; exact ts_set2 i_18 (by omega) (show klo (Int32.toNatClampNeg (6 + p1)) ≤ Int32.toInt (1 - v_22) by unfold klo; omega) (show Int32.toInt (1 - v_22) ≤ khi (Int32.toNatClampNeg (6 + p1)) by unfold khi; omega)
      have hFq_28 : dFk [2, 14] [32] q q_28 := by rw [eq_28]; exact hFq_16.k (by omega) (by decide)
      refine dOk_G (dg_ok (show 0 ≤ Int32.toInt (6 + p1) by omega) (show Int32.toInt (6 + p1) < ((5640 : Nat) : Int) by omega)) ?_
      refine dOk_L (fun v_30 ev_30 => ?_)
      try have g_31 : klo (Int32.toNatClampNeg (6 + p1)) ≤ Int32.toInt v_30 ∧ Int32.toInt v_30 ≤ khi (Int32.toNatClampNeg (6 + p1)) := by rw [ev_30]; exact te_k hTq_28 _
      try have f_32 : 0 ≤ Int32.toInt v_30 ∧ Int32.toInt v_30 ≤ 5 := by rw [ev_30]; exact te_2r hTq_28 (by omega) (by omega)
      try have f_33 : 0 ≤ Int32.toInt v_30 ∧ Int32.toInt v_30 ≤ 1 := by rw [ev_30]; exact te_2h hTq_28 (by omega) (by omega)
      try have f_34 : 0 ≤ Int32.toInt v_30 ∧ Int32.toInt v_30 ≤ 5 := by rw [ev_30]; exact te_2s hTq_28 (by omega) (by omega)
      try have f_35 : 0 ≤ Int32.toInt v_30 ∧ Int32.toInt v_30 ≤ 400 := by rw [ev_30]; exact te_2z hTq_28 (by omega) (by omega)
      exact dOk_some (show (TS q_28) ∧ (dFk [2, 14] [32] q q_28) ∧ (-3 ≤ Int32.toInt v_30 ∧ Int32.toInt v_30 ≤ 99) from ⟨hTq_28, hFq_28, by omega⟩)

set_option maxHeartbeats 4000000 in
set_option maxRecDepth 100000 in
theorem ok_swapsKept (q : dS) (p1 : Int32) (hT : TS q) : dOk (zX10_swapsKept q p1) (fun (o : Int32 × dS) => (TS o.2) ∧ (dFk [2, 14] [32] q o.2) ∧ (-3 ≤ Int32.toInt o.1 ∧ Int32.toInt o.1 ≤ 99)) := by
  unfold zX10_swapsKept
  refine dOk_V (ok_lies p1 0 4) (fun r_1 h_2 => ?_)
  replace h_2 : ((Int32.toInt r_1 = 1 ∧ (0 : Int) ≤ Int32.toInt p1 ∧ Int32.toInt p1 ≤ (4 : Int)) ∨ (Int32.toInt r_1 = 0 ∧ (Int32.toInt p1 < (0 : Int) ∨ (4 : Int) < Int32.toInt p1))) := h_2
  have i_3 := h_2
  refine dOk_eq (A := Int32.toInt r_1) (B := 0) rfl (by decide) (fun c_4z c_4 => ?_) (fun c_5z c_5 => ?_)
  · exact dOk_some (show (TS q) ∧ (dFk [2, 14] [32] q q) ∧ (-3 ≤ (-1 : Int) ∧ (-1 : Int) ≤ 99) from ⟨hT, (dFk.rf (q := q)), by omega⟩)
  · try have t_7 : Int32.toInt (p1 + 1) = Int32.toInt p1 + 1 := ti_add rfl (by decide) (by omega) (by omega)
    refine dOk_B (ok_isPlace q (p1 + 1) hT) (fun r_8 q_9 h_10 => ?_)
    replace h_10 : (q_9 = q) ∧ ((Int32.toInt r_8 = 1 ∧ 0 ≤ Int32.toInt (p1 + 1) ∧ Int32.toInt (p1 + 1) < Int32.toInt (q.1 2 29)) ∨ (Int32.toInt r_8 = 0 ∧ (Int32.toInt (p1 + 1) < 0 ∨ Int32.toInt (q.1 2 29) ≤ Int32.toInt (p1 + 1)))) := h_10
    obtain ⟨i_11, i_12⟩ := h_10
    subst q_9
    have f_13 : 0 ≤ Int32.toInt (q.1 2 29) ∧ Int32.toInt (q.1 2 29) ≤ 6 := hT.1 2 29
    refine dOk_eq (A := Int32.toInt r_8) (B := 0) rfl (by decide) (fun c_14z c_14 => ?_) (fun c_15z c_15 => ?_)
    · exact dOk_some (show (TS q) ∧ (dFk [2, 14] [32] q q) ∧ (-3 ≤ (-3 : Int) ∧ (-3 : Int) ≤ 99) from ⟨hT, (dFk.rf (q := q)), by omega⟩)
    · refine dOk_V (ok_keeps q 2 hT) (fun q_17 h_18 => ?_)
      replace h_18 : (TS q_17) ∧ (dFr [14] [32] q q_17) := h_18
      obtain ⟨i_19, i_20⟩ := h_18
      have hFq_17 : dFk [2, 14] [32] q q_17 := (dFk.rf (q := q)).tr i_20 (by decide) (by decide) (by decide)
      refine dOk_V (ok_exchanges q_17 p1 (p1 + 1) i_19 (show 0 ≤ Int32.toInt p1 ∧ Int32.toInt p1 ≤ 5 by omega) (show 0 ≤ Int32.toInt (p1 + 1) ∧ Int32.toInt (p1 + 1) ≤ 5 by omega)) (fun q_21 h_22 => ?_)
      replace h_22 : (TS q_21) ∧ (dFk [2] [] q_17 q_21) ∧ (Int32.toInt (q_21.1 2 12) = Int32.toInt (q_17.1 2 12)) ∧ (Int32.toInt (q_21.1 2 13) = Int32.toInt (q_17.1 2 13)) ∧ (Int32.toInt (q_21.1 2 29) = Int32.toInt (q_17.1 2 29)) := h_22
      obtain ⟨i_23, i_24, i_25, i_26, i_27⟩ := h_22
      have hFq_21 : dFk [2, 14] [32] q q_21 := hFq_17.t i_24 (by decide) (by decide)
      have f_28 : 0 ≤ Int32.toInt (q_21.1 2 12) ∧ Int32.toInt (q_21.1 2 12) ≤ 9999 := i_23.1 2 12
      have f_29 : 0 ≤ Int32.toInt (q_17.1 2 12) ∧ Int32.toInt (q_17.1 2 12) ≤ 9999 := i_19.1 2 12
      have f_30 : 0 ≤ Int32.toInt (q.1 2 12) ∧ Int32.toInt (q.1 2 12) ≤ 9999 := hT.1 2 12
      have w_31 : Int32.toInt (q_17.1 2 12) = Int32.toInt (q.1 2 12) := by rw [i_20.1 2 (by decide) (by decide)]
      have f_32 : 0 ≤ Int32.toInt (q_21.1 2 13) ∧ Int32.toInt (q_21.1 2 13) ≤ 999 := i_23.1 2 13
      have f_33 : 0 ≤ Int32.toInt (q_17.1 2 13) ∧ Int32.toInt (q_17.1 2 13) ≤ 999 := i_19.1 2 13
      have f_34 : 0 ≤ Int32.toInt (q.1 2 13) ∧ Int32.toInt (q.1 2 13) ≤ 999 := hT.1 2 13
      have w_35 : Int32.toInt (q_17.1 2 13) = Int32.toInt (q.1 2 13) := by rw [i_20.1 2 (by decide) (by decide)]
      have f_36 : 0 ≤ Int32.toInt (q_21.1 2 29) ∧ Int32.toInt (q_21.1 2 29) ≤ 6 := i_23.1 2 29
      have f_37 : 0 ≤ Int32.toInt (q_17.1 2 29) ∧ Int32.toInt (q_17.1 2 29) ≤ 6 := i_19.1 2 29
      have w_38 : Int32.toInt (q_17.1 2 29) = Int32.toInt (q.1 2 29) := by rw [i_20.1 2 (by decide) (by decide)]
      have w_39 : Int32.toInt (q_21.1 2 29) = Int32.toInt (q_17.1 2 29) := by rw [i_24.2 29 (by decide)]
      try have t_40 : Int32.toInt (0 + p1) = 0 + Int32.toInt p1 := ti_add (by decide) rfl (by omega) (by omega)
      refine dOk_G (dg_ok (show 0 ≤ Int32.toInt (0 + p1) by omega) (show Int32.toInt (0 + p1) < ((5640 : Nat) : Int) by omega)) ?_
      have n_41 : ((Int32.toNatClampNeg (0 + p1) : Nat) : Int) = Int32.toInt (0 + p1) := cl_eq (by omega)
      refine dOk_L (fun v_42 ev_42 => ?_)
      try have g_43 : klo (Int32.toNatClampNeg (0 + p1)) ≤ Int32.toInt v_42 ∧ Int32.toInt v_42 ≤ khi (Int32.toNatClampNeg (0 + p1)) := by rw [ev_42]; exact te_k i_23 _
      try have f_44 : 0 ≤ Int32.toInt v_42 ∧ Int32.toInt v_42 ≤ 5 := by rw [ev_42]; exact te_2r i_23 (by omega) (by omega)
      try have f_45 : 0 ≤ Int32.toInt v_42 ∧ Int32.toInt v_42 ≤ 1 := by rw [ev_42]; exact te_2h i_23 (by omega) (by omega)
      try have f_46 : 0 ≤ Int32.toInt v_42 ∧ Int32.toInt v_42 ≤ 5 := by rw [ev_42]; exact te_2s i_23 (by omega) (by omega)
      try have f_47 : 0 ≤ Int32.toInt v_42 ∧ Int32.toInt v_42 ≤ 400 := by rw [ev_42]; exact te_2z i_23 (by omega) (by omega)
      exact dOk_some (show (TS q_21) ∧ (dFk [2, 14] [32] q q_21) ∧ (-3 ≤ Int32.toInt v_42 ∧ Int32.toInt v_42 ≤ 99) from ⟨i_23, hFq_21, by omega⟩)

set_option maxHeartbeats 4000000 in
set_option maxRecDepth 100000 in
theorem ok_right (q : dS) (p1 : Int32) (hT : TS q) : dOk (zX10_right q p1) (fun (o : Int32 × dS) => (TS o.2) ∧ (dFk [1, 2, 14] [0, 32] q o.2)) := by
  unfold zX10_right
  refine dOk_B (ok_rightsKept q p1 hT) (fun r_1 q_2 h_3 => ?_)
  replace h_3 : (TS q_2) ∧ (dFk [2, 14] [32] q q_2) ∧ (-3 ≤ Int32.toInt r_1 ∧ Int32.toInt r_1 ≤ 99) := h_3
  obtain ⟨i_4, i_5, i_6⟩ := h_3
  have hFq_2 : dFk [1, 2, 14] [0, 32] q q_2 := (dFk.rf (q := q)).t i_5 (by decide) (by decide)
  refine dOk_B (ok_goodOr q_2 r_1 i_4 (show (-6) ≤ Int32.toInt r_1 by omega)) (fun r_7 q_8 h_9 => ?_)
  replace h_9 : (TS q_8) ∧ (dFr [1] [0] q_2 q_8) ∧ (Int32.toInt r_7 = Int32.toInt r_1) := h_9
  obtain ⟨i_10, i_11, i_12⟩ := h_9
  have hFq_8 : dFk [1, 2, 14] [0, 32] q q_8 := hFq_2.tr i_11 (by decide) (by decide) (by decide)
  exact dOk_some (show (TS q_8) ∧ (dFk [1, 2, 14] [0, 32] q q_8) from ⟨i_10, hFq_8⟩)

set_option maxHeartbeats 4000000 in
set_option maxRecDepth 100000 in
theorem ok_swap (q : dS) (p1 : Int32) (hT : TS q) : dOk (zX10_swap q p1) (fun (o : Int32 × dS) => (TS o.2) ∧ (dFk [1, 2, 14] [0, 32] q o.2)) := by
  unfold zX10_swap
  refine dOk_B (ok_swapsKept q p1 hT) (fun r_1 q_2 h_3 => ?_)
  replace h_3 : (TS q_2) ∧ (dFk [2, 14] [32] q q_2) ∧ (-3 ≤ Int32.toInt r_1 ∧ Int32.toInt r_1 ≤ 99) := h_3
  obtain ⟨i_4, i_5, i_6⟩ := h_3
  have hFq_2 : dFk [1, 2, 14] [0, 32] q q_2 := (dFk.rf (q := q)).t i_5 (by decide) (by decide)
  refine dOk_B (ok_goodOr q_2 r_1 i_4 (show (-6) ≤ Int32.toInt r_1 by omega)) (fun r_7 q_8 h_9 => ?_)
  replace h_9 : (TS q_8) ∧ (dFr [1] [0] q_2 q_8) ∧ (Int32.toInt r_7 = Int32.toInt r_1) := h_9
  obtain ⟨i_10, i_11, i_12⟩ := h_9
  have hFq_8 : dFk [1, 2, 14] [0, 32] q q_8 := hFq_2.tr i_11 (by decide) (by decide) (by decide)
  exact dOk_some (show (TS q_8) ∧ (dFk [1, 2, 14] [0, 32] q q_8) from ⟨i_10, hFq_8⟩)

set_option maxHeartbeats 4000000 in
set_option maxRecDepth 100000 in
theorem ok_allOrders (p1 : Int32) (hp0 : Int32.toInt p1 ≤ 6) : dOk (zX10_allOrders p1) (fun (o : Int32) => (((Int32.toInt p1 ≤ 1 ∧ Int32.toInt o = 1) ∨ (Int32.toInt p1 = 2 ∧ Int32.toInt o = 2) ∨ (Int32.toInt p1 = 3 ∧ Int32.toInt o = 6) ∨ (Int32.toInt p1 = 4 ∧ Int32.toInt o = 24) ∨ (Int32.toInt p1 = 5 ∧ Int32.toInt o = 120) ∨ (Int32.toInt p1 = 6 ∧ Int32.toInt o = 720)))) := by
  unfold zX10_allOrders
  unfold zX10_allOrders_4
  refine dFix_ok (fun (a : Int32 × Int32 × Int32) => (a.1 = p1) ∧ (((Int32.toInt a.2.2 = 2 ∧ Int32.toInt a.2.1 = 1) ∨ (Int32.toInt a.2.2 = 3 ∧ Int32.toInt a.2.1 = 2) ∨ (Int32.toInt a.2.2 = 4 ∧ Int32.toInt a.2.1 = 6) ∨ (Int32.toInt a.2.2 = 5 ∧ Int32.toInt a.2.1 = 24) ∨ (Int32.toInt a.2.2 = 6 ∧ Int32.toInt a.2.1 = 120) ∨ (Int32.toInt a.2.2 = 7 ∧ Int32.toInt a.2.1 = 720))) ∧ (Int32.toInt a.2.2 ≤ 2 ∨ Int32.toInt a.2.2 ≤ Int32.toInt a.1 + 1)) (fun (a : Int32 × Int32 × Int32) => (8 - Int32.toInt a.2.2).toNat) ?_ _ ?_ _ (dF_gt ?_)
  · intro a ha k_2 hk_1
    obtain ⟨x0_3, x1_4, x2_5⟩ := a
    replace ha : (x0_3 = p1) ∧ (((Int32.toInt x2_5 = 2 ∧ Int32.toInt x1_4 = 1) ∨ (Int32.toInt x2_5 = 3 ∧ Int32.toInt x1_4 = 2) ∨ (Int32.toInt x2_5 = 4 ∧ Int32.toInt x1_4 = 6) ∨ (Int32.toInt x2_5 = 5 ∧ Int32.toInt x1_4 = 24) ∨ (Int32.toInt x2_5 = 6 ∧ Int32.toInt x1_4 = 120) ∨ (Int32.toInt x2_5 = 7 ∧ Int32.toInt x1_4 = 720))) ∧ (Int32.toInt x2_5 ≤ 2 ∨ Int32.toInt x2_5 ≤ Int32.toInt x0_3 + 1) := ha
    obtain ⟨a_6, a_7, a_8⟩ := ha
    show dOk (zX10_allOrders_4b  (fun x0 x1 x2 => k_2 (x0, x1, x2)) x0_3 x1_4 x2_5) _
    unfold zX10_allOrders_4b
    subst x0_3
    have zz := fac_step (x1 := x1_4) (x2 := x2_5) (by omega)
    refine dOk_lt (A := Int32.toInt p1) (B := Int32.toInt x2_5) rfl rfl (fun c_9 => ?_) (fun c_10 => ?_)
    · exact dOk_some (show (((Int32.toInt p1 ≤ 1 ∧ Int32.toInt x1_4 = 1) ∨ (Int32.toInt p1 = 2 ∧ Int32.toInt x1_4 = 2) ∨ (Int32.toInt p1 = 3 ∧ Int32.toInt x1_4 = 6) ∨ (Int32.toInt p1 = 4 ∧ Int32.toInt x1_4 = 24) ∨ (Int32.toInt p1 = 5 ∧ Int32.toInt x1_4 = 120) ∨ (Int32.toInt p1 = 6 ∧ Int32.toInt x1_4 = 720))) from (by omega))
    · try have t_11 : Int32.toInt (x1_4 * x2_5) = Int32.toInt x1_4 * Int32.toInt x2_5 := ti_mul rfl rfl (by omega) (by omega)
      try have t_12 : Int32.toInt (x2_5 + 1) = Int32.toInt x2_5 + 1 := ti_add rfl (by decide) (by omega) (by omega)
      exact hk_1 (p1, (x1_4 * x2_5), (x2_5 + 1)) (show (p1 = p1) ∧ (((Int32.toInt (x2_5 + 1) = 2 ∧ Int32.toInt (x1_4 * x2_5) = 1) ∨ (Int32.toInt (x2_5 + 1) = 3 ∧ Int32.toInt (x1_4 * x2_5) = 2) ∨ (Int32.toInt (x2_5 + 1) = 4 ∧ Int32.toInt (x1_4 * x2_5) = 6) ∨ (Int32.toInt (x2_5 + 1) = 5 ∧ Int32.toInt (x1_4 * x2_5) = 24) ∨ (Int32.toInt (x2_5 + 1) = 6 ∧ Int32.toInt (x1_4 * x2_5) = 120) ∨ (Int32.toInt (x2_5 + 1) = 7 ∧ Int32.toInt (x1_4 * x2_5) = 720))) ∧ (Int32.toInt (x2_5 + 1) ≤ 2 ∨ Int32.toInt (x2_5 + 1) ≤ Int32.toInt p1 + 1) from ⟨rfl, by omega, by omega⟩) (show (8 - Int32.toInt (x2_5 + 1)).toNat < (8 - Int32.toInt x2_5).toNat by omega)
  · exact (show (p1 = p1) ∧ ((((2 : Int) = 2 ∧ (1 : Int) = 1) ∨ ((2 : Int) = 3 ∧ (1 : Int) = 2) ∨ ((2 : Int) = 4 ∧ (1 : Int) = 6) ∨ ((2 : Int) = 5 ∧ (1 : Int) = 24) ∨ ((2 : Int) = 6 ∧ (1 : Int) = 120) ∨ ((2 : Int) = 7 ∧ (1 : Int) = 720))) ∧ ((2 : Int) ≤ 2 ∨ (2 : Int) ≤ Int32.toInt p1 + 1) from ⟨rfl, by omega, by omega⟩)
  · show (8 - (2 : Int)).toNat < 1000000000000
    omega
