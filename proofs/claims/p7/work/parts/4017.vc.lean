set_option maxHeartbeats 4000000 in
set_option maxRecDepth 100000 in
theorem ok_keeps (q : dS) (p1 : Int32) (hT : TS q) : dOk (zX10_keeps q p1) (fun (o : dS) => (TS o) ∧ (dFr [14] [32] q o)) := by
  unfold zX10_keeps
  have f_1 : 0 ≤ Int32.toInt (q.1 0 32) ∧ Int32.toInt (q.1 0 32) ≤ 16 := hT.1 0 32
  refine dOk_eq (A := Int32.toInt (q.1 0 32)) (B := 16) rfl (by decide) (fun c_2z c_2 => ?_) (fun c_3z c_3 => ?_)
  · unfold zX10_keeps_14
    refine dFix_ok (fun (a : dS × Int32 × Int32 × Int32) => (TS a.1) ∧ (dFr [14] [] q a.1) ∧ (a.2.1 = p1) ∧ (a.2.2.1 = 15) ∧ (0 ≤ Int32.toInt a.2.2.2) ∧ (Int32.toInt a.2.2.2 ≤ 225)) (fun (a : dS × Int32 × Int32 × Int32) => (225 - Int32.toInt a.2.2.2).toNat) ?_ _ ?_ _ (dF_gt ?_)
    · intro a ha k_6 hk_5
      obtain ⟨q_7, x1_8, x2_9, x3_10⟩ := a
      have ha : (TS q_7) ∧ (dFr [14] [] q q_7) ∧ (x1_8 = p1) ∧ (x2_9 = 15) ∧ (0 ≤ Int32.toInt x3_10) ∧ (Int32.toInt x3_10 ≤ 225) := ha
      obtain ⟨a_11, a_12, a_13, a_14, a_15, a_16⟩ := ha
      show dOk (zX10_keeps_14b  (fun q x1 x2 x3 => k_6 (q, x1, x2, x3)) q_7 x1_8 x2_9 x3_10) _
      unfold zX10_keeps_14b
      have hFq_7 : dFr [14] [32] q q_7 := (dFr.rf (q := q)).t a_12 (by decide) (by decide)
      subst x1_8
      subst x2_9
      try have t_17 : Int32.toInt (15 * 15) = 15 * 15 := ti_mul (by decide) (by decide) (by omega) (by omega)
      refine dOk_le (A := Int32.toInt (15 * 15)) (B := Int32.toInt x3_10) rfl rfl (fun c_18 => ?_) (fun c_19 => ?_)
      · refine dOk_L (fun q_20 eq_20 => ?_)
        have f_21 : 0 ≤ Int32.toInt (q_7.1 0 32) ∧ Int32.toInt (q_7.1 0 32) ≤ 16 := a_11.1 0 32
        have w_22 : Int32.toInt (q_7.1 0 32) = Int32.toInt (q.1 0 32) := by rw [a_12.2 32 (by decide)]
        try have t_23 : Int32.toInt (q_7.1 0 32 - 1) = Int32.toInt (q_7.1 0 32) - 1 := ti_sub rfl (by decide) (by omega) (by omega)
        have hTq_20 : TS q_20 := by rw [eq_20]; exact ts_f a_11 (show 0 ≤ Int32.toInt (q_7.1 0 32 - 1) by omega) (show Int32.toInt (q_7.1 0 32 - 1) ≤ 16 by omega)
        have hFq_20 : dFr [14] [32] q q_20 := by rw [eq_20]; exact hFq_7.f (by decide)
        unfold zX10_keeps_52
        unfold zX10_keeps_54
        refine dFix_ok (fun (a : dS × Int32 × Int32 × Int32) => (TS a.1) ∧ (dFr [14] [] q_20 a.1) ∧ (a.2.1 = p1) ∧ (a.2.2.1 = 15) ∧ (0 ≤ Int32.toInt a.2.2.2) ∧ (Int32.toInt a.2.2.2 ≤ 14)) (fun (a : dS × Int32 × Int32 × Int32) => (14 - Int32.toInt a.2.2.2).toNat) ?_ _ ?_ _ (dF_gt ?_)
        · intro a ha k_25 hk_24
          obtain ⟨q_26, x1_27, x2_28, x3_29⟩ := a
          have ha : (TS q_26) ∧ (dFr [14] [] q_20 q_26) ∧ (x1_27 = p1) ∧ (x2_28 = 15) ∧ (0 ≤ Int32.toInt x3_29) ∧ (Int32.toInt x3_29 ≤ 14) := ha
          obtain ⟨a_30, a_31, a_32, a_33, a_34, a_35⟩ := ha
          show dOk (zX10_keeps_54b  (fun q x1 x2 x3 => k_25 (q, x1, x2, x3)) q_26 x1_27 x2_28 x3_29) _
          unfold zX10_keeps_54b
          have hFq_26 : dFr [14] [32] q q_26 := hFq_20.t a_31 (by decide) (by decide)
          subst x1_27
          subst x2_28
          refine dOk_le (A := 14) (B := Int32.toInt x3_29) (by decide) rfl (fun c_36 => ?_) (fun c_37 => ?_)
          · have f_38 : 0 ≤ Int32.toInt (q_26.1 0 32) ∧ Int32.toInt (q_26.1 0 32) ≤ 16 := a_30.1 0 32
            have f_39 : 0 ≤ Int32.toInt (q_20.1 0 32) ∧ Int32.toInt (q_20.1 0 32) ≤ 16 := hTq_20.1 0 32
            have w_40 : Int32.toInt (q_20.1 0 32) = Int32.toInt (q_7.1 0 32 - 1) := by rw [eq_20, dui_e]
            have w_41 : Int32.toInt (q_26.1 0 32) = Int32.toInt (q_20.1 0 32) := by rw [a_31.2 32 (by decide)]
            try have t_42 : Int32.toInt (15 * q_26.1 0 32) = 15 * Int32.toInt (q_26.1 0 32) := ti_mul (by decide) rfl (by omega) (by omega)
            try have t_43 : Int32.toInt (15 * q_26.1 0 32 + 14) = Int32.toInt (15 * q_26.1 0 32) + 14 := ti_add rfl (by decide) (by omega) (by omega)
            refine dOk_G (dg_ok (show 0 ≤ Int32.toInt (15 * q_26.1 0 32 + 14) by omega) (show Int32.toInt (15 * q_26.1 0 32 + 14) < ((240 : Nat) : Int) by omega)) ?_
            have n_44 : ((Int32.toNatClampNeg (15 * q_26.1 0 32 + 14) : Nat) : Int) = Int32.toInt (15 * q_26.1 0 32 + 14) := cl_eq (by omega)
            refine dOk_L (fun q_45 eq_45 => ?_)
            have hTq_45 : TS q_45 := by rw [eq_45]; first | exact ts_set a_30 (by decide) (by simp only [tlo, klo]; omega) (by simp only [thi, khi]; omega) | exact ts_14x a_30 (by omega)
            have hFq_45 : dFr [14] [32] q q_45 := by rw [eq_45]; exact hFq_26.i (by decide) (by decide)
            refine dOk_L (fun q_46 eq_46 => ?_)
            have f_47 : 0 ≤ Int32.toInt (q_45.1 0 32) ∧ Int32.toInt (q_45.1 0 32) ≤ 16 := hTq_45.1 0 32
            try have w_48 : Int32.toInt (q_45.1 0 32) = Int32.toInt (q_26.1 0 32) := by rw [eq_45, dui_o (by decide)]
            try have t_49 : Int32.toInt (q_45.1 0 32 + 1) = Int32.toInt (q_45.1 0 32) + 1 := ti_add rfl (by decide) (by omega) (by omega)
            have hTq_46 : TS q_46 := by rw [eq_46]; exact ts_f hTq_45 (show 0 ≤ Int32.toInt (q_45.1 0 32 + 1) by omega) (show Int32.toInt (q_45.1 0 32 + 1) ≤ 16 by omega)
            have hFq_46 : dFr [14] [32] q q_46 := by rw [eq_46]; exact hFq_45.f (by decide)
            exact dOk_some (show (TS q_46) ∧ (dFr [14] [32] q q_46) from ⟨hTq_46, hFq_46⟩)
          · refine dOk_G (dg_ok (show 0 ≤ Int32.toInt x3_29 by omega) (show Int32.toInt x3_29 < ((5640 : Nat) : Int) by omega)) ?_
            have n_50 : ((Int32.toNatClampNeg x3_29 : Nat) : Int) = Int32.toInt x3_29 := cl_eq (by omega)
            refine dOk_L (fun v_51 ev_51 => ?_)
            try have g_52 : klo (Int32.toNatClampNeg x3_29) ≤ Int32.toInt v_51 ∧ Int32.toInt v_51 ≤ khi (Int32.toNatClampNeg x3_29) := by rw [ev_51]; exact te_k a_30 _
            try have f_53 : 0 ≤ Int32.toInt v_51 ∧ Int32.toInt v_51 ≤ 5 := by rw [ev_51]; exact te_2r a_30 (by omega) (by omega)
            try have f_54 : 0 ≤ Int32.toInt v_51 ∧ Int32.toInt v_51 ≤ 1 := by rw [ev_51]; exact te_2h a_30 (by omega) (by omega)
            try have f_55 : 0 ≤ Int32.toInt v_51 ∧ Int32.toInt v_51 ≤ 5 := by rw [ev_51]; exact te_2s a_30 (by omega) (by omega)
            try have f_56 : 0 ≤ Int32.toInt v_51 ∧ Int32.toInt v_51 ≤ 400 := by rw [ev_51]; exact te_2z a_30 (by omega) (by omega)
            have f_57 : 0 ≤ Int32.toInt (q_26.1 0 32) ∧ Int32.toInt (q_26.1 0 32) ≤ 16 := a_30.1 0 32
            have f_58 : 0 ≤ Int32.toInt (q_20.1 0 32) ∧ Int32.toInt (q_20.1 0 32) ≤ 16 := hTq_20.1 0 32
            have w_59 : Int32.toInt (q_20.1 0 32) = Int32.toInt (q_7.1 0 32 - 1) := by rw [eq_20, dui_e]
            have w_60 : Int32.toInt (q_26.1 0 32) = Int32.toInt (q_20.1 0 32) := by rw [a_31.2 32 (by decide)]
            try have t_61 : Int32.toInt (15 * q_26.1 0 32) = 15 * Int32.toInt (q_26.1 0 32) := ti_mul (by decide) rfl (by omega) (by omega)
            try have t_62 : Int32.toInt (15 * q_26.1 0 32 + x3_29) = Int32.toInt (15 * q_26.1 0 32) + Int32.toInt x3_29 := ti_add rfl rfl (by omega) (by omega)
            refine dOk_G (dg_ok (show 0 ≤ Int32.toInt (15 * q_26.1 0 32 + x3_29) by omega) (show Int32.toInt (15 * q_26.1 0 32 + x3_29) < ((240 : Nat) : Int) by omega)) ?_
            have n_63 : ((Int32.toNatClampNeg (15 * q_26.1 0 32 + x3_29) : Nat) : Int) = Int32.toInt (15 * q_26.1 0 32 + x3_29) := cl_eq (by omega)
            refine dOk_L (fun q_64 eq_64 => ?_)
            have hTq_64 : TS q_64 := by rw [eq_64]; first | exact ts_14 a_30 (show (Int32.toNatClampNeg (15 * q_26.1 0 32 + x3_29)) % 15 = Int32.toNatClampNeg x3_29 by omega) (by omega) g_52 | exact ts_set a_30 (by decide) (by simp only [tlo, klo]; omega) (by simp only [thi, khi]; omega) | exact ts_14x a_30 (by omega)
            have hFq_64 : dFr [14] [32] q q_64 := by rw [eq_64]; exact hFq_26.i (by decide) (by decide)
            have l_65 : Int32.toInt 15 = 15 := by decide
            try have t_66 : Int32.toInt (x3_29 + 1) = Int32.toInt x3_29 + 1 := ti_add rfl (by decide) (by omega) (by omega)
            exact hk_24 (q_64, p1, 15, (x3_29 + 1)) (show (TS q_64) ∧ (dFr [14] [] q_20 q_64) ∧ (p1 = p1) ∧ (15 = 15) ∧ (0 ≤ Int32.toInt (x3_29 + 1)) ∧ (Int32.toInt (x3_29 + 1) ≤ 14) from ⟨hTq_64, (by rw [eq_64]; exact ((((dFr.rf : dFr [14] [] q_20 q_20)).t a_31 (by decide) (by decide))).i (by decide) (by decide)), rfl, rfl, by omega, by omega⟩) (show (14 - Int32.toInt (x3_29 + 1)).toNat < (14 - Int32.toInt x3_29).toNat by omega)
        · have l_67 : Int32.toInt 15 = 15 := by decide
          have l_68 : Int32.toInt 0 = 0 := by decide
          exact (show (TS q_20) ∧ (dFr [14] [] q_20 q_20) ∧ (p1 = p1) ∧ (15 = 15) ∧ (0 ≤ Int32.toInt 0) ∧ (Int32.toInt 0 ≤ 14) from ⟨hTq_20, dFr.rf, rfl, rfl, by omega, by omega⟩)
        · have l_69 : Int32.toInt 15 = 15 := by decide
          have l_70 : Int32.toInt 0 = 0 := by decide
          show (14 - Int32.toInt 0).toNat < 1000000000000
          omega
      · try have t_71 : Int32.toInt (x3_10 + 15) = Int32.toInt x3_10 + 15 := ti_add rfl (by decide) (by omega) (by omega)
        refine dOk_G (dg_ok (show 0 ≤ Int32.toInt (x3_10 + 15) by omega) (show Int32.toInt (x3_10 + 15) < ((240 : Nat) : Int) by omega)) ?_
        have n_72 : ((Int32.toNatClampNeg (x3_10 + 15) : Nat) : Int) = Int32.toInt (x3_10 + 15) := cl_eq (by omega)
        refine dOk_L (fun v_73 ev_73 => ?_)
        try have g_74 : klo ((Int32.toNatClampNeg (x3_10 + 15)) % 15) ≤ Int32.toInt v_73 ∧ Int32.toInt v_73 ≤ khi ((Int32.toNatClampNeg (x3_10 + 15)) % 15) := by rw [ev_73]; exact te_14 a_11 (by omega)
        refine dOk_G (dg_ok (show 0 ≤ Int32.toInt x3_10 by omega) (show Int32.toInt x3_10 < ((240 : Nat) : Int) by omega)) ?_
        have n_75 : ((Int32.toNatClampNeg x3_10 : Nat) : Int) = Int32.toInt x3_10 := cl_eq (by omega)
        refine dOk_L (fun q_76 eq_76 => ?_)
        have hTq_76 : TS q_76 := by rw [eq_76]; exact ts_cp (s := Int32.toNatClampNeg (x3_10 + 15)) 14 14 (by decide) (by decide) a_11 a_11 (by omega) ev_73
        have hFq_76 : dFr [14] [32] q q_76 := by rw [eq_76]; exact hFq_7.i (by decide) (by decide)
        have l_77 : Int32.toInt 15 = 15 := by decide
        try have t_78 : Int32.toInt (x3_10 + 1) = Int32.toInt x3_10 + 1 := ti_add rfl (by decide) (by omega) (by omega)
        exact hk_5 (q_76, p1, 15, (x3_10 + 1)) (show (TS q_76) ∧ (dFr [14] [] q q_76) ∧ (p1 = p1) ∧ (15 = 15) ∧ (0 ≤ Int32.toInt (x3_10 + 1)) ∧ (Int32.toInt (x3_10 + 1) ≤ 225) from ⟨hTq_76, (by rw [eq_76]; exact ((((dFr.rf : dFr [14] [] q q)).t a_12 (by decide) (by decide))).i (by decide) (by decide)), rfl, rfl, by omega, by omega⟩) (show (225 - Int32.toInt (x3_10 + 1)).toNat < (225 - Int32.toInt x3_10).toNat by omega)
    · have l_79 : Int32.toInt 15 = 15 := by decide
      have l_80 : Int32.toInt 0 = 0 := by decide
      exact (show (TS q) ∧ (dFr [14] [] q q) ∧ (p1 = p1) ∧ (15 = 15) ∧ (0 ≤ Int32.toInt 0) ∧ (Int32.toInt 0 ≤ 225) from ⟨hT, dFr.rf, rfl, rfl, by omega, by omega⟩)
    · have l_81 : Int32.toInt 15 = 15 := by decide
      have l_82 : Int32.toInt 0 = 0 := by decide
      show (225 - Int32.toInt 0).toNat < 1000000000000
      omega
  · unfold zX10_keeps_52
    unfold zX10_keeps_54
    refine dFix_ok (fun (a : dS × Int32 × Int32 × Int32) => (TS a.1) ∧ (dFr [14] [] q a.1) ∧ (a.2.1 = p1) ∧ (a.2.2.1 = 15) ∧ (0 ≤ Int32.toInt a.2.2.2) ∧ (Int32.toInt a.2.2.2 ≤ 14)) (fun (a : dS × Int32 × Int32 × Int32) => (14 - Int32.toInt a.2.2.2).toNat) ?_ _ ?_ _ (dF_gt ?_)
    · intro a ha k_84 hk_83
      obtain ⟨q_85, x1_86, x2_87, x3_88⟩ := a
      have ha : (TS q_85) ∧ (dFr [14] [] q q_85) ∧ (x1_86 = p1) ∧ (x2_87 = 15) ∧ (0 ≤ Int32.toInt x3_88) ∧ (Int32.toInt x3_88 ≤ 14) := ha
      obtain ⟨a_89, a_90, a_91, a_92, a_93, a_94⟩ := ha
      show dOk (zX10_keeps_54b  (fun q x1 x2 x3 => k_84 (q, x1, x2, x3)) q_85 x1_86 x2_87 x3_88) _
      unfold zX10_keeps_54b
      have hFq_85 : dFr [14] [32] q q_85 := (dFr.rf (q := q)).t a_90 (by decide) (by decide)
      subst x1_86
      subst x2_87
      refine dOk_le (A := 14) (B := Int32.toInt x3_88) (by decide) rfl (fun c_95 => ?_) (fun c_96 => ?_)
      · have f_97 : 0 ≤ Int32.toInt (q_85.1 0 32) ∧ Int32.toInt (q_85.1 0 32) ≤ 16 := a_89.1 0 32
        have w_98 : Int32.toInt (q_85.1 0 32) = Int32.toInt (q.1 0 32) := by rw [a_90.2 32 (by decide)]
        try have t_99 : Int32.toInt (15 * q_85.1 0 32) = 15 * Int32.toInt (q_85.1 0 32) := ti_mul (by decide) rfl (by omega) (by omega)
        try have t_100 : Int32.toInt (15 * q_85.1 0 32 + 14) = Int32.toInt (15 * q_85.1 0 32) + 14 := ti_add rfl (by decide) (by omega) (by omega)
        refine dOk_G (dg_ok (show 0 ≤ Int32.toInt (15 * q_85.1 0 32 + 14) by omega) (show Int32.toInt (15 * q_85.1 0 32 + 14) < ((240 : Nat) : Int) by omega)) ?_
        have n_101 : ((Int32.toNatClampNeg (15 * q_85.1 0 32 + 14) : Nat) : Int) = Int32.toInt (15 * q_85.1 0 32 + 14) := cl_eq (by omega)
        refine dOk_L (fun q_102 eq_102 => ?_)
        have hTq_102 : TS q_102 := by rw [eq_102]; first | exact ts_set a_89 (by decide) (by simp only [tlo, klo]; omega) (by simp only [thi, khi]; omega) | exact ts_14x a_89 (by omega)
        have hFq_102 : dFr [14] [32] q q_102 := by rw [eq_102]; exact hFq_85.i (by decide) (by decide)
        refine dOk_L (fun q_103 eq_103 => ?_)
        have f_104 : 0 ≤ Int32.toInt (q_102.1 0 32) ∧ Int32.toInt (q_102.1 0 32) ≤ 16 := hTq_102.1 0 32
        try have w_105 : Int32.toInt (q_102.1 0 32) = Int32.toInt (q_85.1 0 32) := by rw [eq_102, dui_o (by decide)]
        try have t_106 : Int32.toInt (q_102.1 0 32 + 1) = Int32.toInt (q_102.1 0 32) + 1 := ti_add rfl (by decide) (by omega) (by omega)
        have hTq_103 : TS q_103 := by rw [eq_103]; exact ts_f hTq_102 (show 0 ≤ Int32.toInt (q_102.1 0 32 + 1) by omega) (show Int32.toInt (q_102.1 0 32 + 1) ≤ 16 by omega)
        have hFq_103 : dFr [14] [32] q q_103 := by rw [eq_103]; exact hFq_102.f (by decide)
        exact dOk_some (show (TS q_103) ∧ (dFr [14] [32] q q_103) from ⟨hTq_103, hFq_103⟩)
      · refine dOk_G (dg_ok (show 0 ≤ Int32.toInt x3_88 by omega) (show Int32.toInt x3_88 < ((5640 : Nat) : Int) by omega)) ?_
        have n_107 : ((Int32.toNatClampNeg x3_88 : Nat) : Int) = Int32.toInt x3_88 := cl_eq (by omega)
        refine dOk_L (fun v_108 ev_108 => ?_)
        try have g_109 : klo (Int32.toNatClampNeg x3_88) ≤ Int32.toInt v_108 ∧ Int32.toInt v_108 ≤ khi (Int32.toNatClampNeg x3_88) := by rw [ev_108]; exact te_k a_89 _
        try have f_110 : 0 ≤ Int32.toInt v_108 ∧ Int32.toInt v_108 ≤ 5 := by rw [ev_108]; exact te_2r a_89 (by omega) (by omega)
        try have f_111 : 0 ≤ Int32.toInt v_108 ∧ Int32.toInt v_108 ≤ 1 := by rw [ev_108]; exact te_2h a_89 (by omega) (by omega)
        try have f_112 : 0 ≤ Int32.toInt v_108 ∧ Int32.toInt v_108 ≤ 5 := by rw [ev_108]; exact te_2s a_89 (by omega) (by omega)
        try have f_113 : 0 ≤ Int32.toInt v_108 ∧ Int32.toInt v_108 ≤ 400 := by rw [ev_108]; exact te_2z a_89 (by omega) (by omega)
        have f_114 : 0 ≤ Int32.toInt (q_85.1 0 32) ∧ Int32.toInt (q_85.1 0 32) ≤ 16 := a_89.1 0 32
        have w_115 : Int32.toInt (q_85.1 0 32) = Int32.toInt (q.1 0 32) := by rw [a_90.2 32 (by decide)]
        try have t_116 : Int32.toInt (15 * q_85.1 0 32) = 15 * Int32.toInt (q_85.1 0 32) := ti_mul (by decide) rfl (by omega) (by omega)
        try have t_117 : Int32.toInt (15 * q_85.1 0 32 + x3_88) = Int32.toInt (15 * q_85.1 0 32) + Int32.toInt x3_88 := ti_add rfl rfl (by omega) (by omega)
        refine dOk_G (dg_ok (show 0 ≤ Int32.toInt (15 * q_85.1 0 32 + x3_88) by omega) (show Int32.toInt (15 * q_85.1 0 32 + x3_88) < ((240 : Nat) : Int) by omega)) ?_
        have n_118 : ((Int32.toNatClampNeg (15 * q_85.1 0 32 + x3_88) : Nat) : Int) = Int32.toInt (15 * q_85.1 0 32 + x3_88) := cl_eq (by omega)
        refine dOk_L (fun q_119 eq_119 => ?_)
        have hTq_119 : TS q_119 := by rw [eq_119]; first | exact ts_14 a_89 (show (Int32.toNatClampNeg (15 * q_85.1 0 32 + x3_88)) % 15 = Int32.toNatClampNeg x3_88 by omega) (by omega) g_109 | exact ts_set a_89 (by decide) (by simp only [tlo, klo]; omega) (by simp only [thi, khi]; omega) | exact ts_14x a_89 (by omega)
        have hFq_119 : dFr [14] [32] q q_119 := by rw [eq_119]; exact hFq_85.i (by decide) (by decide)
        have l_120 : Int32.toInt 15 = 15 := by decide
        try have t_121 : Int32.toInt (x3_88 + 1) = Int32.toInt x3_88 + 1 := ti_add rfl (by decide) (by omega) (by omega)
        exact hk_83 (q_119, p1, 15, (x3_88 + 1)) (show (TS q_119) ∧ (dFr [14] [] q q_119) ∧ (p1 = p1) ∧ (15 = 15) ∧ (0 ≤ Int32.toInt (x3_88 + 1)) ∧ (Int32.toInt (x3_88 + 1) ≤ 14) from ⟨hTq_119, (by rw [eq_119]; exact ((((dFr.rf : dFr [14] [] q q)).t a_90 (by decide) (by decide))).i (by decide) (by decide)), rfl, rfl, by omega, by omega⟩) (show (14 - Int32.toInt (x3_88 + 1)).toNat < (14 - Int32.toInt x3_88).toNat by omega)
    · have l_122 : Int32.toInt 15 = 15 := by decide
      have l_123 : Int32.toInt 0 = 0 := by decide
      exact (show (TS q) ∧ (dFr [14] [] q q) ∧ (p1 = p1) ∧ (15 = 15) ∧ (0 ≤ Int32.toInt 0) ∧ (Int32.toInt 0 ≤ 14) from ⟨hT, dFr.rf, rfl, rfl, by omega, by omega⟩)
    · have l_124 : Int32.toInt 15 = 15 := by decide
      have l_125 : Int32.toInt 0 = 0 := by decide
      show (14 - Int32.toInt 0).toNat < 1000000000000
      omega

set_option maxHeartbeats 4000000 in
set_option maxRecDepth 100000 in
theorem ok_undo (q : dS) (hT : TS q) : dOk (zX10_undo q) (fun (o : Int32 × dS) => (TS o.2) ∧ (dFr [1, 2] [0, 32] q o.2)) := by
  unfold zX10_undo
  have f_1 : 0 ≤ Int32.toInt (q.1 0 32) ∧ Int32.toInt (q.1 0 32) ≤ 16 := hT.1 0 32
  refine dOk_eq (A := Int32.toInt (q.1 0 32)) (B := 0) rfl (by decide) (fun c_2z c_2 => ?_) (fun c_3z c_3 => ?_)
  · have l_5 : Int32.toInt (-3) = (-3) := by decide
    refine dOk_B (ok_refuses q (-3) hT (show (-6) ≤ Int32.toInt (-3) by omega) (show Int32.toInt (-3) ≤ 0 by omega)) (fun r_6 q_7 h_8 => ?_)
    have h_8 : (TS q_7) ∧ (dFr [1] [0] q q_7) ∧ (Int32.toInt r_6 = Int32.toInt (-3)) := h_8
    obtain ⟨i_9, i_10, i_11⟩ := h_8
    have hFq_7 : dFr [1, 2] [0, 32] q q_7 := (dFr.rf (q := q)).t i_10 (by decide) (by decide)
    exact dOk_some (show (TS q_7) ∧ (dFr [1, 2] [0, 32] q q_7) from ⟨i_9, hFq_7⟩)
  · refine dOk_L (fun q_12 eq_12 => ?_)
    try have t_13 : Int32.toInt (q.1 0 32 - 1) = Int32.toInt (q.1 0 32) - 1 := ti_sub rfl (by decide) (by omega) (by omega)
    have hTq_12 : TS q_12 := by rw [eq_12]; exact ts_f hT (show 0 ≤ Int32.toInt (q.1 0 32 - 1) by omega) (show Int32.toInt (q.1 0 32 - 1) ≤ 16 by omega)
    have hFq_12 : dFr [1, 2] [0, 32] q q_12 := by rw [eq_12]; exact (dFr.rf (q := q)).f (by decide)
    unfold zX10_undo_34
    refine dFix_ok (fun (a : dS × Int32 × Int32) => (TS a.1) ∧ (dFr [2] [] q_12 a.1) ∧ (a.2.1 = (15 * q_12.1 0 32)) ∧ (0 ≤ Int32.toInt a.2.2) ∧ (Int32.toInt a.2.2 ≤ 14)) (fun (a : dS × Int32 × Int32) => (14 - Int32.toInt a.2.2).toNat) ?_ _ ?_ _ (dF_gt ?_)
    · intro a ha k_15 hk_14
      obtain ⟨q_16, x1_17, x2_18⟩ := a
      have ha : (TS q_16) ∧ (dFr [2] [] q_12 q_16) ∧ (x1_17 = (15 * q_12.1 0 32)) ∧ (0 ≤ Int32.toInt x2_18) ∧ (Int32.toInt x2_18 ≤ 14) := ha
      obtain ⟨a_19, a_20, a_21, a_22, a_23⟩ := ha
      show dOk (zX10_undo_34b  (fun q x1 x2 => k_15 (q, x1, x2)) q_16 x1_17 x2_18) _
      unfold zX10_undo_34b
      have hFq_16 : dFr [1, 2] [0, 32] q q_16 := hFq_12.t a_20 (by decide) (by decide)
      subst x1_17
      have f_24 : 0 ≤ Int32.toInt (q_12.1 0 32) ∧ Int32.toInt (q_12.1 0 32) ≤ 16 := hTq_12.1 0 32
      have w_25 : Int32.toInt (q_12.1 0 32) = Int32.toInt (q.1 0 32 - 1) := by rw [eq_12, dui_e]
      refine dOk_le (A := 14) (B := Int32.toInt x2_18) (by decide) rfl (fun c_26 => ?_) (fun c_27 => ?_)
      · try have t_28 : Int32.toInt (15 * q_12.1 0 32) = 15 * Int32.toInt (q_12.1 0 32) := ti_mul (by decide) rfl (by omega) (by omega)
        try have t_29 : Int32.toInt (15 * q_12.1 0 32 + 14) = Int32.toInt (15 * q_12.1 0 32) + 14 := ti_add rfl (by decide) (by omega) (by omega)
        refine dOk_G (dg_ok (show 0 ≤ Int32.toInt (15 * q_12.1 0 32 + 14) by omega) (show Int32.toInt (15 * q_12.1 0 32 + 14) < ((240 : Nat) : Int) by omega)) ?_
        have n_30 : ((Int32.toNatClampNeg (15 * q_12.1 0 32 + 14) : Nat) : Int) = Int32.toInt (15 * q_12.1 0 32 + 14) := cl_eq (by omega)
        refine dOk_L (fun v_31 ev_31 => ?_)
        try have g_32 : klo ((Int32.toNatClampNeg (15 * q_12.1 0 32 + 14)) % 15) ≤ Int32.toInt v_31 ∧ Int32.toInt v_31 ≤ khi ((Int32.toNatClampNeg (15 * q_12.1 0 32 + 14)) % 15) := by rw [ev_31]; exact te_14 a_19 (by omega)
        refine dOk_B (ok_good q_16 v_31 a_19) (fun r_33 q_34 h_35 => ?_)
        have h_35 : (TS q_34) ∧ (dFr [] [0] q_16 q_34) ∧ (Int32.toInt r_33 = Int32.toInt v_31) := h_35
        obtain ⟨i_36, i_37, i_38⟩ := h_35
        have hFq_34 : dFr [1, 2] [0, 32] q q_34 := hFq_16.t i_37 (by decide) (by decide)
        exact dOk_some (show (TS q_34) ∧ (dFr [1, 2] [0, 32] q q_34) from ⟨i_36, hFq_34⟩)
      · try have t_39 : Int32.toInt (15 * q_12.1 0 32) = 15 * Int32.toInt (q_12.1 0 32) := ti_mul (by decide) rfl (by omega) (by omega)
        try have t_40 : Int32.toInt (15 * q_12.1 0 32 + x2_18) = Int32.toInt (15 * q_12.1 0 32) + Int32.toInt x2_18 := ti_add rfl rfl (by omega) (by omega)
        refine dOk_G (dg_ok (show 0 ≤ Int32.toInt (15 * q_12.1 0 32 + x2_18) by omega) (show Int32.toInt (15 * q_12.1 0 32 + x2_18) < ((240 : Nat) : Int) by omega)) ?_
        have n_41 : ((Int32.toNatClampNeg (15 * q_12.1 0 32 + x2_18) : Nat) : Int) = Int32.toInt (15 * q_12.1 0 32 + x2_18) := cl_eq (by omega)
        refine dOk_L (fun v_42 ev_42 => ?_)
        try have g_43 : klo ((Int32.toNatClampNeg (15 * q_12.1 0 32 + x2_18)) % 15) ≤ Int32.toInt v_42 ∧ Int32.toInt v_42 ≤ khi ((Int32.toNatClampNeg (15 * q_12.1 0 32 + x2_18)) % 15) := by rw [ev_42]; exact te_14 a_19 (by omega)
        refine dOk_G (dg_ok (show 0 ≤ Int32.toInt x2_18 by omega) (show Int32.toInt x2_18 < ((5640 : Nat) : Int) by omega)) ?_
        have n_44 : ((Int32.toNatClampNeg x2_18 : Nat) : Int) = Int32.toInt x2_18 := cl_eq (by omega)
        refine dOk_L (fun q_45 eq_45 => ?_)
        have hTq_45 : TS q_45 := by rw [eq_45]; first | exact ts_2c a_19 (by omega) (show Int32.toNatClampNeg x2_18 = (Int32.toNatClampNeg (15 * q_12.1 0 32 + x2_18)) % 15 by omega) g_43 | exact ts_set2 a_19 (by omega) (by unfold klo; omega) (by unfold khi; omega)
        have hFq_45 : dFr [1, 2] [0, 32] q q_45 := by rw [eq_45]; exact hFq_16.i (by decide) (by decide)
        try have t_46 : Int32.toInt (x2_18 + 1) = Int32.toInt x2_18 + 1 := ti_add rfl (by decide) (by omega) (by omega)
        exact hk_14 (q_45, (15 * q_12.1 0 32), (x2_18 + 1)) (show (TS q_45) ∧ (dFr [2] [] q_12 q_45) ∧ ((15 * q_12.1 0 32) = (15 * q_12.1 0 32)) ∧ (0 ≤ Int32.toInt (x2_18 + 1)) ∧ (Int32.toInt (x2_18 + 1) ≤ 14) from ⟨hTq_45, (by rw [eq_45]; exact ((((dFr.rf : dFr [2] [] q_12 q_12)).t a_20 (by decide) (by decide))).i (by decide) (by decide)), rfl, by omega, by omega⟩) (show (14 - Int32.toInt (x2_18 + 1)).toNat < (14 - Int32.toInt x2_18).toNat by omega)
    · have f_47 : 0 ≤ Int32.toInt (q_12.1 0 32) ∧ Int32.toInt (q_12.1 0 32) ≤ 16 := hTq_12.1 0 32
      have w_48 : Int32.toInt (q_12.1 0 32) = Int32.toInt (q.1 0 32 - 1) := by rw [eq_12, dui_e]
      try have t_49 : Int32.toInt (15 * q_12.1 0 32) = 15 * Int32.toInt (q_12.1 0 32) := ti_mul (by decide) rfl (by omega) (by omega)
      have l_50 : Int32.toInt 0 = 0 := by decide
      exact (show (TS q_12) ∧ (dFr [2] [] q_12 q_12) ∧ ((15 * q_12.1 0 32) = (15 * q_12.1 0 32)) ∧ (0 ≤ Int32.toInt 0) ∧ (Int32.toInt 0 ≤ 14) from ⟨hTq_12, dFr.rf, rfl, by omega, by omega⟩)
    · have f_51 : 0 ≤ Int32.toInt (q_12.1 0 32) ∧ Int32.toInt (q_12.1 0 32) ≤ 16 := hTq_12.1 0 32
      have w_52 : Int32.toInt (q_12.1 0 32) = Int32.toInt (q.1 0 32 - 1) := by rw [eq_12, dui_e]
      try have t_53 : Int32.toInt (15 * q_12.1 0 32) = 15 * Int32.toInt (q_12.1 0 32) := ti_mul (by decide) rfl (by omega) (by omega)
      have l_54 : Int32.toInt 0 = 0 := by decide
      show (14 - Int32.toInt 0).toNat < 1000000000000
      omega

set_option maxHeartbeats 4000000 in
set_option maxRecDepth 100000 in
theorem ok_goodOr (q : dS) (p1 : Int32) (hT : TS q) (hp0 : (-6) ≤ Int32.toInt p1) : dOk (zX10_goodOr q p1) (fun (o : Int32 × dS) => (TS o.2) ∧ (dFr [1] [0] q o.2) ∧ (Int32.toInt o.1 = Int32.toInt p1)) := by
  unfold zX10_goodOr
  refine dOk_le (A := 0) (B := Int32.toInt p1) (by decide) rfl (fun c_1 => ?_) (fun c_2 => ?_)
  · refine dOk_B (ok_good q p1 hT) (fun r_3 q_4 h_5 => ?_)
    have h_5 : (TS q_4) ∧ (dFr [] [0] q q_4) ∧ (Int32.toInt r_3 = Int32.toInt p1) := h_5
    obtain ⟨i_6, i_7, i_8⟩ := h_5
    have hFq_4 : dFr [1] [0] q q_4 := (dFr.rf (q := q)).t i_7 (by decide) (by decide)
    unfold zX10_goodOr_17
    exact dOk_some (show (TS q_4) ∧ (dFr [1] [0] q q_4) ∧ (Int32.toInt r_3 = Int32.toInt p1) from ⟨i_6, hFq_4, by omega⟩)
  · refine dOk_B (ok_refuses q p1 hT (show (-6) ≤ Int32.toInt p1 by omega) (show Int32.toInt p1 ≤ 0 by omega)) (fun r_9 q_10 h_11 => ?_)
    have h_11 : (TS q_10) ∧ (dFr [1] [0] q q_10) ∧ (Int32.toInt r_9 = Int32.toInt p1) := h_11
    obtain ⟨i_12, i_13, i_14⟩ := h_11
    have hFq_10 : dFr [1] [0] q q_10 := (dFr.rf (q := q)).t i_13 (by decide) (by decide)
    unfold zX10_goodOr_17
    exact dOk_some (show (TS q_10) ∧ (dFr [1] [0] q q_10) ∧ (Int32.toInt r_9 = Int32.toInt p1) from ⟨i_12, hFq_10, by omega⟩)

set_option maxHeartbeats 4000000 in
set_option maxRecDepth 100000 in
theorem ok_rightsKept (q : dS) (p1 : Int32) (hT : TS q) : dOk (zX10_rightsKept q p1) (fun (o : Int32 × dS) => (TS o.2) ∧ (dFr [2, 14] [32] q o.2) ∧ (-3 ≤ Int32.toInt o.1 ∧ Int32.toInt o.1 ≤ 99)) := by
  unfold zX10_rightsKept
  have l_1 : Int32.toInt 0 = 0 := by decide
  have l_2 : Int32.toInt 5 = 5 := by decide
  refine dOk_V (ok_lies p1 0 5) (fun r_3 h_4 => ?_)
  have h_4 : ((Int32.toInt r_3 = 1 ∧ Int32.toInt 0 ≤ Int32.toInt p1 ∧ Int32.toInt p1 ≤ Int32.toInt 5) ∨ (Int32.toInt r_3 = 0 ∧ (Int32.toInt p1 < Int32.toInt 0 ∨ Int32.toInt 5 < Int32.toInt p1))) := h_4
  have i_5 := h_4
  refine dOk_eq (A := Int32.toInt r_3) (B := 0) rfl (by decide) (fun c_6z c_6 => ?_) (fun c_7z c_7 => ?_)
  · have l_9 : Int32.toInt (-1) = (-1) := by decide
    exact dOk_some (show (TS q) ∧ (dFr [2, 14] [32] q q) ∧ (-3 ≤ Int32.toInt (-1) ∧ Int32.toInt (-1) ≤ 99) from ⟨hT, (dFr.rf (q := q)), by omega⟩)
  · refine dOk_B (ok_isPlace q p1 hT) (fun r_10 q_11 h_12 => ?_)
    have h_12 : (q_11 = q) ∧ ((Int32.toInt r_10 = 1 ∧ 0 ≤ Int32.toInt p1 ∧ Int32.toInt p1 < Int32.toInt (q.1 2 29)) ∨ (Int32.toInt r_10 = 0 ∧ (Int32.toInt p1 < 0 ∨ Int32.toInt (q.1 2 29) ≤ Int32.toInt p1))) := h_12
    obtain ⟨i_13, i_14⟩ := h_12
    subst q_11
    have f_15 : 0 ≤ Int32.toInt (q.1 2 29) ∧ Int32.toInt (q.1 2 29) ≤ 6 := hT.1 2 29
    refine dOk_eq (A := Int32.toInt r_10) (B := 0) rfl (by decide) (fun c_16z c_16 => ?_) (fun c_17z c_17 => ?_)
    · have l_19 : Int32.toInt (-3) = (-3) := by decide
      exact dOk_some (show (TS q) ∧ (dFr [2, 14] [32] q q) ∧ (-3 ≤ Int32.toInt (-3) ∧ Int32.toInt (-3) ≤ 99) from ⟨hT, (dFr.rf (q := q)), by omega⟩)
    · have l_20 : Int32.toInt 1 = 1 := by decide
      refine dOk_V (ok_keeps q 1 hT) (fun q_21 h_22 => ?_)
      have h_22 : (TS q_21) ∧ (dFr [14] [32] q q_21) := h_22
      obtain ⟨i_23, i_24⟩ := h_22
      have hFq_21 : dFr [2, 14] [32] q q_21 := (dFr.rf (q := q)).t i_24 (by decide) (by decide)
      try have t_25 : Int32.toInt (6 + p1) = 6 + Int32.toInt p1 := ti_add (by decide) rfl (by omega) (by omega)
      refine dOk_G (dg_ok (show 0 ≤ Int32.toInt (6 + p1) by omega) (show Int32.toInt (6 + p1) < ((5640 : Nat) : Int) by omega)) ?_
      have n_26 : ((Int32.toNatClampNeg (6 + p1) : Nat) : Int) = Int32.toInt (6 + p1) := cl_eq (by omega)
      refine dOk_L (fun v_27 ev_27 => ?_)
      try have g_28 : klo (Int32.toNatClampNeg (6 + p1)) ≤ Int32.toInt v_27 ∧ Int32.toInt v_27 ≤ khi (Int32.toNatClampNeg (6 + p1)) := by rw [ev_27]; exact te_k i_23 _
      try have f_29 : 0 ≤ Int32.toInt v_27 ∧ Int32.toInt v_27 ≤ 5 := by rw [ev_27]; exact te_2r i_23 (by omega) (by omega)
      try have f_30 : 0 ≤ Int32.toInt v_27 ∧ Int32.toInt v_27 ≤ 1 := by rw [ev_27]; exact te_2h i_23 (by omega) (by omega)
      try have f_31 : 0 ≤ Int32.toInt v_27 ∧ Int32.toInt v_27 ≤ 5 := by rw [ev_27]; exact te_2s i_23 (by omega) (by omega)
      try have f_32 : 0 ≤ Int32.toInt v_27 ∧ Int32.toInt v_27 ≤ 400 := by rw [ev_27]; exact te_2z i_23 (by omega) (by omega)
      refine dOk_G (dg_ok (show 0 ≤ Int32.toInt (6 + p1) by omega) (show Int32.toInt (6 + p1) < ((5640 : Nat) : Int) by omega)) ?_
      refine dOk_L (fun q_33 eq_33 => ?_)
      try have t_34 : Int32.toInt (1 - v_27) = 1 - Int32.toInt v_27 := ti_sub (by decide) rfl (by omega) (by omega)
      have hTq_33 : TS q_33 := by rw [eq_33]; exact ts_set2 i_23 (by omega) (by unfold klo; omega) (by unfold khi; omega)
      have hFq_33 : dFr [2, 14] [32] q q_33 := by rw [eq_33]; exact hFq_21.i (by decide) (by decide)
      refine dOk_G (dg_ok (show 0 ≤ Int32.toInt (6 + p1) by omega) (show Int32.toInt (6 + p1) < ((5640 : Nat) : Int) by omega)) ?_
      refine dOk_L (fun v_35 ev_35 => ?_)
      try have g_36 : klo (Int32.toNatClampNeg (6 + p1)) ≤ Int32.toInt v_35 ∧ Int32.toInt v_35 ≤ khi (Int32.toNatClampNeg (6 + p1)) := by rw [ev_35]; exact te_k hTq_33 _
      try have f_37 : 0 ≤ Int32.toInt v_35 ∧ Int32.toInt v_35 ≤ 5 := by rw [ev_35]; exact te_2r hTq_33 (by omega) (by omega)
      try have f_38 : 0 ≤ Int32.toInt v_35 ∧ Int32.toInt v_35 ≤ 1 := by rw [ev_35]; exact te_2h hTq_33 (by omega) (by omega)
      try have f_39 : 0 ≤ Int32.toInt v_35 ∧ Int32.toInt v_35 ≤ 5 := by rw [ev_35]; exact te_2s hTq_33 (by omega) (by omega)
      try have f_40 : 0 ≤ Int32.toInt v_35 ∧ Int32.toInt v_35 ≤ 400 := by rw [ev_35]; exact te_2z hTq_33 (by omega) (by omega)
      exact dOk_some (show (TS q_33) ∧ (dFr [2, 14] [32] q q_33) ∧ (-3 ≤ Int32.toInt v_35 ∧ Int32.toInt v_35 ≤ 99) from ⟨hTq_33, hFq_33, by omega⟩)

set_option maxHeartbeats 4000000 in
set_option maxRecDepth 100000 in
theorem ok_swapsKept (q : dS) (p1 : Int32) (hT : TS q) : dOk (zX10_swapsKept q p1) (fun (o : Int32 × dS) => (TS o.2) ∧ (dFr [2, 14] [32] q o.2) ∧ (-3 ≤ Int32.toInt o.1 ∧ Int32.toInt o.1 ≤ 99)) := by
  unfold zX10_swapsKept
  have l_1 : Int32.toInt 0 = 0 := by decide
  have l_2 : Int32.toInt 4 = 4 := by decide
  refine dOk_V (ok_lies p1 0 4) (fun r_3 h_4 => ?_)
  have h_4 : ((Int32.toInt r_3 = 1 ∧ Int32.toInt 0 ≤ Int32.toInt p1 ∧ Int32.toInt p1 ≤ Int32.toInt 4) ∨ (Int32.toInt r_3 = 0 ∧ (Int32.toInt p1 < Int32.toInt 0 ∨ Int32.toInt 4 < Int32.toInt p1))) := h_4
  have i_5 := h_4
  refine dOk_eq (A := Int32.toInt r_3) (B := 0) rfl (by decide) (fun c_6z c_6 => ?_) (fun c_7z c_7 => ?_)
  · have l_9 : Int32.toInt (-1) = (-1) := by decide
    exact dOk_some (show (TS q) ∧ (dFr [2, 14] [32] q q) ∧ (-3 ≤ Int32.toInt (-1) ∧ Int32.toInt (-1) ≤ 99) from ⟨hT, (dFr.rf (q := q)), by omega⟩)
  · try have t_10 : Int32.toInt (p1 + 1) = Int32.toInt p1 + 1 := ti_add rfl (by decide) (by omega) (by omega)
    refine dOk_B (ok_isPlace q (p1 + 1) hT) (fun r_11 q_12 h_13 => ?_)
    have h_13 : (q_12 = q) ∧ ((Int32.toInt r_11 = 1 ∧ 0 ≤ Int32.toInt (p1 + 1) ∧ Int32.toInt (p1 + 1) < Int32.toInt (q.1 2 29)) ∨ (Int32.toInt r_11 = 0 ∧ (Int32.toInt (p1 + 1) < 0 ∨ Int32.toInt (q.1 2 29) ≤ Int32.toInt (p1 + 1)))) := h_13
    obtain ⟨i_14, i_15⟩ := h_13
    subst q_12
    have f_16 : 0 ≤ Int32.toInt (q.1 2 29) ∧ Int32.toInt (q.1 2 29) ≤ 6 := hT.1 2 29
    refine dOk_eq (A := Int32.toInt r_11) (B := 0) rfl (by decide) (fun c_17z c_17 => ?_) (fun c_18z c_18 => ?_)
    · have l_20 : Int32.toInt (-3) = (-3) := by decide
      exact dOk_some (show (TS q) ∧ (dFr [2, 14] [32] q q) ∧ (-3 ≤ Int32.toInt (-3) ∧ Int32.toInt (-3) ≤ 99) from ⟨hT, (dFr.rf (q := q)), by omega⟩)
    · have l_21 : Int32.toInt 2 = 2 := by decide
      refine dOk_V (ok_keeps q 2 hT) (fun q_22 h_23 => ?_)
      have h_23 : (TS q_22) ∧ (dFr [14] [32] q q_22) := h_23
      obtain ⟨i_24, i_25⟩ := h_23
      have hFq_22 : dFr [2, 14] [32] q q_22 := (dFr.rf (q := q)).t i_25 (by decide) (by decide)
      refine dOk_V (ok_exchanges q_22 p1 (p1 + 1) i_24 (show 0 ≤ Int32.toInt p1 ∧ Int32.toInt p1 ≤ 5 by omega) (show 0 ≤ Int32.toInt (p1 + 1) ∧ Int32.toInt (p1 + 1) ≤ 5 by omega)) (fun q_26 h_27 => ?_)
      have h_27 : (TS q_26) ∧ (dFr [2] [] q_22 q_26) ∧ (Int32.toInt (q_26.1 2 12) = Int32.toInt (q_22.1 2 12)) ∧ (Int32.toInt (q_26.1 2 13) = Int32.toInt (q_22.1 2 13)) ∧ (Int32.toInt (q_26.1 2 29) = Int32.toInt (q_22.1 2 29)) := h_27
      obtain ⟨i_28, i_29, i_30, i_31, i_32⟩ := h_27
      have hFq_26 : dFr [2, 14] [32] q q_26 := hFq_22.t i_29 (by decide) (by decide)
      have f_33 : 0 ≤ Int32.toInt (q_26.1 2 12) ∧ Int32.toInt (q_26.1 2 12) ≤ 9999 := i_28.1 2 12
      have f_34 : 0 ≤ Int32.toInt (q_22.1 2 12) ∧ Int32.toInt (q_22.1 2 12) ≤ 9999 := i_24.1 2 12
      have f_35 : 0 ≤ Int32.toInt (q.1 2 12) ∧ Int32.toInt (q.1 2 12) ≤ 9999 := hT.1 2 12
      have w_36 : Int32.toInt (q_22.1 2 12) = Int32.toInt (q.1 2 12) := by rw [i_25.1 2 (by decide) (by decide)]
      have f_37 : 0 ≤ Int32.toInt (q_26.1 2 13) ∧ Int32.toInt (q_26.1 2 13) ≤ 999 := i_28.1 2 13
      have f_38 : 0 ≤ Int32.toInt (q_22.1 2 13) ∧ Int32.toInt (q_22.1 2 13) ≤ 999 := i_24.1 2 13
      have f_39 : 0 ≤ Int32.toInt (q.1 2 13) ∧ Int32.toInt (q.1 2 13) ≤ 999 := hT.1 2 13
      have w_40 : Int32.toInt (q_22.1 2 13) = Int32.toInt (q.1 2 13) := by rw [i_25.1 2 (by decide) (by decide)]
      have f_41 : 0 ≤ Int32.toInt (q_26.1 2 29) ∧ Int32.toInt (q_26.1 2 29) ≤ 6 := i_28.1 2 29
      have f_42 : 0 ≤ Int32.toInt (q_22.1 2 29) ∧ Int32.toInt (q_22.1 2 29) ≤ 6 := i_24.1 2 29
      have w_43 : Int32.toInt (q_22.1 2 29) = Int32.toInt (q.1 2 29) := by rw [i_25.1 2 (by decide) (by decide)]
      try have t_44 : Int32.toInt (0 + p1) = 0 + Int32.toInt p1 := ti_add (by decide) rfl (by omega) (by omega)
      refine dOk_G (dg_ok (show 0 ≤ Int32.toInt (0 + p1) by omega) (show Int32.toInt (0 + p1) < ((5640 : Nat) : Int) by omega)) ?_
      have n_45 : ((Int32.toNatClampNeg (0 + p1) : Nat) : Int) = Int32.toInt (0 + p1) := cl_eq (by omega)
      refine dOk_L (fun v_46 ev_46 => ?_)
      try have g_47 : klo (Int32.toNatClampNeg (0 + p1)) ≤ Int32.toInt v_46 ∧ Int32.toInt v_46 ≤ khi (Int32.toNatClampNeg (0 + p1)) := by rw [ev_46]; exact te_k i_28 _
      try have f_48 : 0 ≤ Int32.toInt v_46 ∧ Int32.toInt v_46 ≤ 5 := by rw [ev_46]; exact te_2r i_28 (by omega) (by omega)
      try have f_49 : 0 ≤ Int32.toInt v_46 ∧ Int32.toInt v_46 ≤ 1 := by rw [ev_46]; exact te_2h i_28 (by omega) (by omega)
      try have f_50 : 0 ≤ Int32.toInt v_46 ∧ Int32.toInt v_46 ≤ 5 := by rw [ev_46]; exact te_2s i_28 (by omega) (by omega)
      try have f_51 : 0 ≤ Int32.toInt v_46 ∧ Int32.toInt v_46 ≤ 400 := by rw [ev_46]; exact te_2z i_28 (by omega) (by omega)
      exact dOk_some (show (TS q_26) ∧ (dFr [2, 14] [32] q q_26) ∧ (-3 ≤ Int32.toInt v_46 ∧ Int32.toInt v_46 ≤ 99) from ⟨i_28, hFq_26, by omega⟩)

set_option maxHeartbeats 4000000 in
set_option maxRecDepth 100000 in
theorem ok_right (q : dS) (p1 : Int32) (hT : TS q) : dOk (zX10_right q p1) (fun (o : Int32 × dS) => (TS o.2) ∧ (dFr [1, 2, 14] [0, 32] q o.2)) := by
  unfold zX10_right
  refine dOk_B (ok_rightsKept q p1 hT) (fun r_1 q_2 h_3 => ?_)
  have h_3 : (TS q_2) ∧ (dFr [2, 14] [32] q q_2) ∧ (-3 ≤ Int32.toInt r_1 ∧ Int32.toInt r_1 ≤ 99) := h_3
  obtain ⟨i_4, i_5, i_6⟩ := h_3
  have hFq_2 : dFr [1, 2, 14] [0, 32] q q_2 := (dFr.rf (q := q)).t i_5 (by decide) (by decide)
  refine dOk_B (ok_goodOr q_2 r_1 i_4 (show (-6) ≤ Int32.toInt r_1 by omega)) (fun r_7 q_8 h_9 => ?_)
  have h_9 : (TS q_8) ∧ (dFr [1] [0] q_2 q_8) ∧ (Int32.toInt r_7 = Int32.toInt r_1) := h_9
  obtain ⟨i_10, i_11, i_12⟩ := h_9
  have hFq_8 : dFr [1, 2, 14] [0, 32] q q_8 := hFq_2.t i_11 (by decide) (by decide)
  exact dOk_some (show (TS q_8) ∧ (dFr [1, 2, 14] [0, 32] q q_8) from ⟨i_10, hFq_8⟩)

set_option maxHeartbeats 4000000 in
set_option maxRecDepth 100000 in
theorem ok_swap (q : dS) (p1 : Int32) (hT : TS q) : dOk (zX10_swap q p1) (fun (o : Int32 × dS) => (TS o.2) ∧ (dFr [1, 2, 14] [0, 32] q o.2)) := by
  unfold zX10_swap
  refine dOk_B (ok_swapsKept q p1 hT) (fun r_1 q_2 h_3 => ?_)
  have h_3 : (TS q_2) ∧ (dFr [2, 14] [32] q q_2) ∧ (-3 ≤ Int32.toInt r_1 ∧ Int32.toInt r_1 ≤ 99) := h_3
  obtain ⟨i_4, i_5, i_6⟩ := h_3
  have hFq_2 : dFr [1, 2, 14] [0, 32] q q_2 := (dFr.rf (q := q)).t i_5 (by decide) (by decide)
  refine dOk_B (ok_goodOr q_2 r_1 i_4 (show (-6) ≤ Int32.toInt r_1 by omega)) (fun r_7 q_8 h_9 => ?_)
  have h_9 : (TS q_8) ∧ (dFr [1] [0] q_2 q_8) ∧ (Int32.toInt r_7 = Int32.toInt r_1) := h_9
  obtain ⟨i_10, i_11, i_12⟩ := h_9
  have hFq_8 : dFr [1, 2, 14] [0, 32] q q_8 := hFq_2.t i_11 (by decide) (by decide)
  exact dOk_some (show (TS q_8) ∧ (dFr [1, 2, 14] [0, 32] q q_8) from ⟨i_10, hFq_8⟩)
