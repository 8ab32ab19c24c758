set_option maxHeartbeats 4000000 in
set_option maxRecDepth 100000 in
theorem ok_wordOf (q : dS) (p1 : Int32) (p2 : Int32) (hT : TS q) (hp0 : 0 ≤ Int32.toInt p1) (hp1 : Int32.toInt p1 < Int32.toInt p2) (hp2 : Int32.toInt p2 ≤ 400) : dOk (zX10_wordOf q p1 p2) (fun (o : Int32 × dS) => (o.2 = q)) := by
  unfold zX10_wordOf
  unfold zX10_wordOf_5
  refine dFix_ok (fun (a : dS × Int32 × Int32 × Int32 × Int32) => (a.1 = q) ∧ (a.2.1 = p1) ∧ (a.2.2.1 = p2) ∧ (0 ≤ Int32.toInt a.2.2.2.2) ∧ (Int32.toInt a.2.2.2.2 ≤ 128)) (fun (a : dS × Int32 × Int32 × Int32 × Int32) => (128 - Int32.toInt a.2.2.2.2).toNat) ?_ _ ?_ _ (dF_gt ?_)
  · intro a ha k_2 hk_1
    obtain ⟨q_3, x1_4, x2_5, x3_6, x4_7⟩ := a
    have ha : (q_3 = q) ∧ (x1_4 = p1) ∧ (x2_5 = p2) ∧ (0 ≤ Int32.toInt x4_7) ∧ (Int32.toInt x4_7 ≤ 128) := ha
    obtain ⟨a_8, a_9, a_10, a_11, a_12⟩ := ha
    show dOk (zX10_wordOf_5b  (fun q x1 x2 x3 x4 => k_2 (q, x1, x2, x3, x4)) q_3 x1_4 x2_5 x3_6 x4_7) _
    unfold zX10_wordOf_5b
    subst q_3
    subst x1_4
    subst x2_5
    refine dOk_le (A := 128) (B := Int32.toInt x4_7) (by decide) rfl (fun c_13 => ?_) (fun c_14 => ?_)
    · have l_15 : Int32.toInt 0 = 0 := by decide
      exact dOk_some (show (q = q) from rfl)
    · unfold zX10_wordOf_18
      refine dFix_ok (fun (a : dS × Int32 × Int32 × Int32 × Int32 × Int32) => (a.1 = q) ∧ (a.2.1 = p1) ∧ (a.2.2.1 = p2) ∧ (a.2.2.2.1 = x3_6) ∧ (a.2.2.2.2.1 = x4_7) ∧ (0 ≤ Int32.toInt a.2.2.2.2.2) ∧ (Int32.toInt a.2.2.2.2.1 + Int32.toInt a.2.2.2.2.2 ≤ 127)) (fun (a : dS × Int32 × Int32 × Int32 × Int32 × Int32) => (128 - Int32.toInt a.2.2.2.2.2).toNat) ?_ _ ?_ _ (dF_gt ?_)
      · intro a ha k_17 hk_16
        obtain ⟨q_18, x1_19, x2_20, x3_21, x4_22, x5_23⟩ := a
        have ha : (q_18 = q) ∧ (x1_19 = p1) ∧ (x2_20 = p2) ∧ (x3_21 = x3_6) ∧ (x4_22 = x4_7) ∧ (0 ≤ Int32.toInt x5_23) ∧ (Int32.toInt x4_22 + Int32.toInt x5_23 ≤ 127) := ha
        obtain ⟨a_24, a_25, a_26, a_27, a_28, a_29, a_30⟩ := ha
        show dOk (zX10_wordOf_18b _ (fun q x1 x2 x3 x4 x5 => k_17 (q, x1, x2, x3, x4, x5)) q_18 x1_19 x2_20 x3_21 x4_22 x5_23) _
        unfold zX10_wordOf_18b
        subst q_18
        subst x1_19
        subst x2_20
        subst x3_21
        subst x4_22
        try have t_31 : Int32.toInt (x4_7 + x5_23) = Int32.toInt x4_7 + Int32.toInt x5_23 := ti_add rfl rfl (by omega) (by omega)
        refine dOk_G (dg_ok (show 0 ≤ Int32.toInt (x4_7 + x5_23) by omega) (show Int32.toInt (x4_7 + x5_23) < ((128 : Nat) : Int) by omega)) ?_
        have n_32 : ((Int32.toNatClampNeg (x4_7 + x5_23) : Nat) : Int) = Int32.toInt (x4_7 + x5_23) := cl_eq (by omega)
        refine dOk_L (fun v_33 ev_33 => ?_)
        have f_34 : (Int32.toNatClampNeg (x4_7 + x5_23) = 127 → Int32.toInt v_33 = 32) := by intro z9; rw [ev_33, z9, hT.2.2.2 127 (by decide)]; decide
        refine dOk_eq (A := Int32.toInt v_33) (B := 32) rfl (by decide) (fun c_35z c_35 => ?_) (fun c_36z c_36 => ?_)
        · try have t_38 : Int32.toInt (p2 - p1) = Int32.toInt p2 - Int32.toInt p1 := ti_sub rfl rfl (by omega) (by omega)
          refine dOk_eq (A := Int32.toInt x5_23) (B := Int32.toInt (p2 - p1)) rfl rfl (fun c_39z c_39 => ?_) (fun c_40z c_40 => ?_)
          · unfold zX10_wordOf_52
            unfold zX10_wordOf_57
            refine dFix_ok (fun (a : dS × Int32 × Int32 × Int32 × Int32 × Int32 × Int32 × Int32) => (a.1 = q) ∧ (a.2.1 = p1) ∧ (a.2.2.1 = p2) ∧ (a.2.2.2.1 = x3_6) ∧ (a.2.2.2.2.1 = x4_7) ∧ (a.2.2.2.2.2.1 = x5_23) ∧ (0 ≤ Int32.toInt a.2.2.2.2.2.2.2) ∧ (Int32.toInt a.2.2.2.2.2.2.2 ≤ Int32.toInt a.2.2.2.2.2.1) ∧ (Int32.toInt a.2.2.2.2.2.2.1 = 0 ∨ (Int32.toInt a.2.2.2.2.2.2.1 = 1 ∧ Int32.toInt a.2.2.2.2.2.1 = Int32.toInt a.2.2.1 - Int32.toInt a.2.1))) (fun (a : dS × Int32 × Int32 × Int32 × Int32 × Int32 × Int32 × Int32) => (128 - Int32.toInt a.2.2.2.2.2.2.2).toNat) ?_ _ ?_ _ (dF_gt ?_)
            · intro a ha k_43 hk_42
              obtain ⟨q_44, x1_45, x2_46, x3_47, x4_48, x5_49, x6_50, x7_51⟩ := a
              have ha : (q_44 = q) ∧ (x1_45 = p1) ∧ (x2_46 = p2) ∧ (x3_47 = x3_6) ∧ (x4_48 = x4_7) ∧ (x5_49 = x5_23) ∧ (0 ≤ Int32.toInt x7_51) ∧ (Int32.toInt x7_51 ≤ Int32.toInt x5_49) ∧ (Int32.toInt x6_50 = 0 ∨ (Int32.toInt x6_50 = 1 ∧ Int32.toInt x5_49 = Int32.toInt x2_46 - Int32.toInt x1_45)) := ha
              obtain ⟨a_52, a_53, a_54, a_55, a_56, a_57, a_58, a_59, a_60⟩ := ha
              show dOk (zX10_wordOf_57b _ (fun q x1 x2 x3 x4 x5 x6 x7 => k_43 (q, x1, x2, x3, x4, x5, x6, x7)) q_44 x1_45 x2_46 x3_47 x4_48 x5_49 x6_50 x7_51) _
              unfold zX10_wordOf_57b
              subst q_44
              subst x1_45
              subst x2_46
              subst x3_47
              subst x4_48
              subst x5_49
              refine dOk_le (A := Int32.toInt x5_23) (B := Int32.toInt x7_51) rfl rfl (fun c_61 => ?_) (fun c_62 => ?_)
              · unfold zX10_wordOf_104
                refine dOk_eq (A := Int32.toInt x6_50) (B := 0) rfl (by decide) (fun c_63z c_63 => ?_) (fun c_64z c_64 => ?_)
                · try have t_66 : Int32.toInt (x3_6 + 1) = Int32.toInt x3_6 + 1 := ti_add rfl (by decide) (by omega) (by omega)
                  try have t_67 : Int32.toInt (x5_23 + 1) = Int32.toInt x5_23 + 1 := ti_add rfl (by decide) (by omega) (by omega)
                  try have t_68 : Int32.toInt (x4_7 + (x5_23 + 1)) = Int32.toInt x4_7 + Int32.toInt (x5_23 + 1) := ti_add rfl rfl (by omega) (by omega)
                  exact hk_1 (q, p1, p2, (x3_6 + 1), (x4_7 + (x5_23 + 1))) (show (q = q) ∧ (p1 = p1) ∧ (p2 = p2) ∧ (0 ≤ Int32.toInt (x4_7 + (x5_23 + 1))) ∧ (Int32.toInt (x4_7 + (x5_23 + 1)) ≤ 128) from ⟨rfl, rfl, rfl, by omega, by omega⟩) (show (128 - Int32.toInt (x4_7 + (x5_23 + 1))).toNat < (128 - Int32.toInt x4_7).toNat by omega)
                · exact dOk_some (show (q = q) from rfl)
              · refine dOk_eq (A := Int32.toInt x6_50) (B := 0) rfl (by decide) (fun c_69z c_69 => ?_) (fun c_70z c_70 => ?_)
                · unfold zX10_wordOf_104
                  refine dOk_eq (A := Int32.toInt x6_50) (B := 0) rfl (by decide) (fun c_72z c_72 => ?_) (fun c_73z c_73 => ?_)
                  · try have t_75 : Int32.toInt (x3_6 + 1) = Int32.toInt x3_6 + 1 := ti_add rfl (by decide) (by omega) (by omega)
                    try have t_76 : Int32.toInt (x5_23 + 1) = Int32.toInt x5_23 + 1 := ti_add rfl (by decide) (by omega) (by omega)
                    try have t_77 : Int32.toInt (x4_7 + (x5_23 + 1)) = Int32.toInt x4_7 + Int32.toInt (x5_23 + 1) := ti_add rfl rfl (by omega) (by omega)
                    exact hk_1 (q, p1, p2, (x3_6 + 1), (x4_7 + (x5_23 + 1))) (show (q = q) ∧ (p1 = p1) ∧ (p2 = p2) ∧ (0 ≤ Int32.toInt (x4_7 + (x5_23 + 1))) ∧ (Int32.toInt (x4_7 + (x5_23 + 1)) ≤ 128) from ⟨rfl, rfl, rfl, by omega, by omega⟩) (show (128 - Int32.toInt (x4_7 + (x5_23 + 1))).toNat < (128 - Int32.toInt x4_7).toNat by omega)
                  · exact dOk_some (show (q = q) from rfl)
                · try have t_78 : Int32.toInt (x4_7 + x7_51) = Int32.toInt x4_7 + Int32.toInt x7_51 := ti_add rfl rfl (by omega) (by omega)
                  refine dOk_G (dg_ok (show 0 ≤ Int32.toInt (x4_7 + x7_51) by omega) (show Int32.toInt (x4_7 + x7_51) < ((128 : Nat) : Int) by omega)) ?_
                  have n_79 : ((Int32.toNatClampNeg (x4_7 + x7_51) : Nat) : Int) = Int32.toInt (x4_7 + x7_51) := cl_eq (by omega)
                  refine dOk_L (fun v_80 ev_80 => ?_)
                  have f_81 : (Int32.toNatClampNeg (x4_7 + x7_51) = 127 → Int32.toInt v_80 = 32) := by intro z9; rw [ev_80, z9, hT.2.2.2 127 (by decide)]; decide
                  try have t_82 : Int32.toInt (p1 + x7_51) = Int32.toInt p1 + Int32.toInt x7_51 := ti_add rfl rfl (by omega) (by omega)
                  refine dOk_G (dg_ok (show 0 ≤ Int32.toInt (p1 + x7_51) by omega) (show Int32.toInt (p1 + x7_51) < ((400 : Nat) : Int) by omega)) ?_
                  have n_83 : ((Int32.toNatClampNeg (p1 + x7_51) : Nat) : Int) = Int32.toInt (p1 + x7_51) := cl_eq (by omega)
                  refine dOk_L (fun v_84 ev_84 => ?_)
                  refine dOk_eq (A := Int32.toInt v_80) (B := Int32.toInt v_84) rfl rfl (fun c_85z c_85 => ?_) (fun c_86z c_86 => ?_)
                  · unfold zX10_wordOf_96
                    have l_88 : Int32.toInt 1 = 1 := by decide
                    try have t_89 : Int32.toInt (x7_51 + 1) = Int32.toInt x7_51 + 1 := ti_add rfl (by decide) (by omega) (by omega)
                    exact hk_42 (q, p1, p2, x3_6, x4_7, x5_23, 1, (x7_51 + 1)) (show (q = q) ∧ (p1 = p1) ∧ (p2 = p2) ∧ (x3_6 = x3_6) ∧ (x4_7 = x4_7) ∧ (x5_23 = x5_23) ∧ (0 ≤ Int32.toInt (x7_51 + 1)) ∧ (Int32.toInt (x7_51 + 1) ≤ Int32.toInt x5_23) ∧ (Int32.toInt 1 = 0 ∨ (Int32.toInt 1 = 1 ∧ Int32.toInt x5_23 = Int32.toInt p2 - Int32.toInt p1)) from ⟨rfl, rfl, rfl, rfl, rfl, rfl, by omega, by omega, by omega⟩) (show (128 - Int32.toInt (x7_51 + 1)).toNat < (128 - Int32.toInt x7_51).toNat by omega)
                  · unfold zX10_wordOf_96
                    have l_90 : Int32.toInt 0 = 0 := by decide
                    try have t_91 : Int32.toInt (x7_51 + 1) = Int32.toInt x7_51 + 1 := ti_add rfl (by decide) (by omega) (by omega)
                    exact hk_42 (q, p1, p2, x3_6, x4_7, x5_23, 0, (x7_51 + 1)) (show (q = q) ∧ (p1 = p1) ∧ (p2 = p2) ∧ (x3_6 = x3_6) ∧ (x4_7 = x4_7) ∧ (x5_23 = x5_23) ∧ (0 ≤ Int32.toInt (x7_51 + 1)) ∧ (Int32.toInt (x7_51 + 1) ≤ Int32.toInt x5_23) ∧ (Int32.toInt 0 = 0 ∨ (Int32.toInt 0 = 1 ∧ Int32.toInt x5_23 = Int32.toInt p2 - Int32.toInt p1)) from ⟨rfl, rfl, rfl, rfl, rfl, rfl, by omega, by omega, by omega⟩) (show (128 - Int32.toInt (x7_51 + 1)).toNat < (128 - Int32.toInt x7_51).toNat by omega)
            · have l_92 : Int32.toInt 1 = 1 := by decide
              have l_93 : Int32.toInt 0 = 0 := by decide
              exact (show (q = q) ∧ (p1 = p1) ∧ (p2 = p2) ∧ (x3_6 = x3_6) ∧ (x4_7 = x4_7) ∧ (x5_23 = x5_23) ∧ (0 ≤ Int32.toInt 0) ∧ (Int32.toInt 0 ≤ Int32.toInt x5_23) ∧ (Int32.toInt 1 = 0 ∨ (Int32.toInt 1 = 1 ∧ Int32.toInt x5_23 = Int32.toInt p2 - Int32.toInt p1)) from ⟨rfl, rfl, rfl, rfl, rfl, rfl, by omega, by omega, by omega⟩)
            · have l_94 : Int32.toInt 1 = 1 := by decide
              have l_95 : Int32.toInt 0 = 0 := by decide
              show (128 - Int32.toInt 0).toNat < 1000000000000
              omega
          · unfold zX10_wordOf_52
            unfold zX10_wordOf_57
            refine dFix_ok (fun (a : dS × Int32 × Int32 × Int32 × Int32 × Int32 × Int32 × Int32) => (a.1 = q) ∧ (a.2.1 = p1) ∧ (a.2.2.1 = p2) ∧ (a.2.2.2.1 = x3_6) ∧ (a.2.2.2.2.1 = x4_7) ∧ (a.2.2.2.2.2.1 = x5_23) ∧ (0 ≤ Int32.toInt a.2.2.2.2.2.2.2) ∧ (Int32.toInt a.2.2.2.2.2.2.2 ≤ Int32.toInt a.2.2.2.2.2.1) ∧ (Int32.toInt a.2.2.2.2.2.2.1 = 0 ∨ (Int32.toInt a.2.2.2.2.2.2.1 = 1 ∧ Int32.toInt a.2.2.2.2.2.1 = Int32.toInt a.2.2.1 - Int32.toInt a.2.1))) (fun (a : dS × Int32 × Int32 × Int32 × Int32 × Int32 × Int32 × Int32) => (128 - Int32.toInt a.2.2.2.2.2.2.2).toNat) ?_ _ ?_ _ (dF_gt ?_)
            · intro a ha k_97 hk_96
              obtain ⟨q_98, x1_99, x2_100, x3_101, x4_102, x5_103, x6_104, x7_105⟩ := a
              have ha : (q_98 = q) ∧ (x1_99 = p1) ∧ (x2_100 = p2) ∧ (x3_101 = x3_6) ∧ (x4_102 = x4_7) ∧ (x5_103 = x5_23) ∧ (0 ≤ Int32.toInt x7_105) ∧ (Int32.toInt x7_105 ≤ Int32.toInt x5_103) ∧ (Int32.toInt x6_104 = 0 ∨ (Int32.toInt x6_104 = 1 ∧ Int32.toInt x5_103 = Int32.toInt x2_100 - Int32.toInt x1_99)) := ha
              obtain ⟨a_106, a_107, a_108, a_109, a_110, a_111, a_112, a_113, a_114⟩ := ha
              show dOk (zX10_wordOf_57b _ (fun q x1 x2 x3 x4 x5 x6 x7 => k_97 (q, x1, x2, x3, x4, x5, x6, x7)) q_98 x1_99 x2_100 x3_101 x4_102 x5_103 x6_104 x7_105) _
              unfold zX10_wordOf_57b
              subst q_98
              subst x1_99
              subst x2_100
              subst x3_101
              subst x4_102
              subst x5_103
              refine dOk_le (A := Int32.toInt x5_23) (B := Int32.toInt x7_105) rfl rfl (fun c_115 => ?_) (fun c_116 => ?_)
              · unfold zX10_wordOf_104
                refine dOk_eq (A := Int32.toInt x6_104) (B := 0) rfl (by decide) (fun c_117z c_117 => ?_) (fun c_118z c_118 => ?_)
                · try have t_120 : Int32.toInt (x3_6 + 1) = Int32.toInt x3_6 + 1 := ti_add rfl (by decide) (by omega) (by omega)
                  try have t_121 : Int32.toInt (x5_23 + 1) = Int32.toInt x5_23 + 1 := ti_add rfl (by decide) (by omega) (by omega)
                  try have t_122 : Int32.toInt (x4_7 + (x5_23 + 1)) = Int32.toInt x4_7 + Int32.toInt (x5_23 + 1) := ti_add rfl rfl (by omega) (by omega)
                  exact hk_1 (q, p1, p2, (x3_6 + 1), (x4_7 + (x5_23 + 1))) (show (q = q) ∧ (p1 = p1) ∧ (p2 = p2) ∧ (0 ≤ Int32.toInt (x4_7 + (x5_23 + 1))) ∧ (Int32.toInt (x4_7 + (x5_23 + 1)) ≤ 128) from ⟨rfl, rfl, rfl, by omega, by omega⟩) (show (128 - Int32.toInt (x4_7 + (x5_23 + 1))).toNat < (128 - Int32.toInt x4_7).toNat by omega)
                · exact dOk_some (show (q = q) from rfl)
              · refine dOk_eq (A := Int32.toInt x6_104) (B := 0) rfl (by decide) (fun c_123z c_123 => ?_) (fun c_124z c_124 => ?_)
                · unfold zX10_wordOf_104
                  refine dOk_eq (A := Int32.toInt x6_104) (B := 0) rfl (by decide) (fun c_126z c_126 => ?_) (fun c_127z c_127 => ?_)
                  · try have t_129 : Int32.toInt (x3_6 + 1) = Int32.toInt x3_6 + 1 := ti_add rfl (by decide) (by omega) (by omega)
                    try have t_130 : Int32.toInt (x5_23 + 1) = Int32.toInt x5_23 + 1 := ti_add rfl (by decide) (by omega) (by omega)
                    try have t_131 : Int32.toInt (x4_7 + (x5_23 + 1)) = Int32.toInt x4_7 + Int32.toInt (x5_23 + 1) := ti_add rfl rfl (by omega) (by omega)
                    exact hk_1 (q, p1, p2, (x3_6 + 1), (x4_7 + (x5_23 + 1))) (show (q = q) ∧ (p1 = p1) ∧ (p2 = p2) ∧ (0 ≤ Int32.toInt (x4_7 + (x5_23 + 1))) ∧ (Int32.toInt (x4_7 + (x5_23 + 1)) ≤ 128) from ⟨rfl, rfl, rfl, by omega, by omega⟩) (show (128 - Int32.toInt (x4_7 + (x5_23 + 1))).toNat < (128 - Int32.toInt x4_7).toNat by omega)
                  · exact dOk_some (show (q = q) from rfl)
                · try have t_132 : Int32.toInt (x4_7 + x7_105) = Int32.toInt x4_7 + Int32.toInt x7_105 := ti_add rfl rfl (by omega) (by omega)
                  refine dOk_G (dg_ok (show 0 ≤ Int32.toInt (x4_7 + x7_105) by omega) (show Int32.toInt (x4_7 + x7_105) < ((128 : Nat) : Int) by omega)) ?_
                  have n_133 : ((Int32.toNatClampNeg (x4_7 + x7_105) : Nat) : Int) = Int32.toInt (x4_7 + x7_105) := cl_eq (by omega)
                  refine dOk_L (fun v_134 ev_134 => ?_)
                  have f_135 : (Int32.toNatClampNeg (x4_7 + x7_105) = 127 → Int32.toInt v_134 = 32) := by intro z9; rw [ev_134, z9, hT.2.2.2 127 (by decide)]; decide
                  try have t_136 : Int32.toInt (p1 + x7_105) = Int32.toInt p1 + Int32.toInt x7_105 := ti_add rfl rfl (by omega) (by omega)
                  refine dOk_G (dg_ok (show 0 ≤ Int32.toInt (p1 + x7_105) by omega) (show Int32.toInt (p1 + x7_105) < ((400 : Nat) : Int) by omega)) ?_
                  have n_137 : ((Int32.toNatClampNeg (p1 + x7_105) : Nat) : Int) = Int32.toInt (p1 + x7_105) := cl_eq (by omega)
                  refine dOk_L (fun v_138 ev_138 => ?_)
                  refine dOk_eq (A := Int32.toInt v_134) (B := Int32.toInt v_138) rfl rfl (fun c_139z c_139 => ?_) (fun c_140z c_140 => ?_)
                  · unfold zX10_wordOf_96
                    have l_142 : Int32.toInt 1 = 1 := by decide
                    try have t_143 : Int32.toInt (x7_105 + 1) = Int32.toInt x7_105 + 1 := ti_add rfl (by decide) (by omega) (by omega)
                    exact hk_96 (q, p1, p2, x3_6, x4_7, x5_23, 1, (x7_105 + 1)) (show (q = q) ∧ (p1 = p1) ∧ (p2 = p2) ∧ (x3_6 = x3_6) ∧ (x4_7 = x4_7) ∧ (x5_23 = x5_23) ∧ (0 ≤ Int32.toInt (x7_105 + 1)) ∧ (Int32.toInt (x7_105 + 1) ≤ Int32.toInt x5_23) ∧ (Int32.toInt 1 = 0 ∨ (Int32.toInt 1 = 1 ∧ Int32.toInt x5_23 = Int32.toInt p2 - Int32.toInt p1)) from ⟨rfl, rfl, rfl, rfl, rfl, rfl, by omega, by omega, by omega⟩) (show (128 - Int32.toInt (x7_105 + 1)).toNat < (128 - Int32.toInt x7_105).toNat by omega)
                  · unfold zX10_wordOf_96
                    have l_144 : Int32.toInt 0 = 0 := by decide
                    try have t_145 : Int32.toInt (x7_105 + 1) = Int32.toInt x7_105 + 1 := ti_add rfl (by decide) (by omega) (by omega)
                    exact hk_96 (q, p1, p2, x3_6, x4_7, x5_23, 0, (x7_105 + 1)) (show (q = q) ∧ (p1 = p1) ∧ (p2 = p2) ∧ (x3_6 = x3_6) ∧ (x4_7 = x4_7) ∧ (x5_23 = x5_23) ∧ (0 ≤ Int32.toInt (x7_105 + 1)) ∧ (Int32.toInt (x7_105 + 1) ≤ Int32.toInt x5_23) ∧ (Int32.toInt 0 = 0 ∨ (Int32.toInt 0 = 1 ∧ Int32.toInt x5_23 = Int32.toInt p2 - Int32.toInt p1)) from ⟨rfl, rfl, rfl, rfl, rfl, rfl, by omega, by omega, by omega⟩) (show (128 - Int32.toInt (x7_105 + 1)).toNat < (128 - Int32.toInt x7_105).toNat by omega)
            · have l_146 : Int32.toInt 0 = 0 := by decide
              exact (show (q = q) ∧ (p1 = p1) ∧ (p2 = p2) ∧ (x3_6 = x3_6) ∧ (x4_7 = x4_7) ∧ (x5_23 = x5_23) ∧ (0 ≤ Int32.toInt 0) ∧ (Int32.toInt 0 ≤ Int32.toInt x5_23) ∧ (Int32.toInt 0 = 0 ∨ (Int32.toInt 0 = 1 ∧ Int32.toInt x5_23 = Int32.toInt p2 - Int32.toInt p1)) from ⟨rfl, rfl, rfl, rfl, rfl, rfl, by omega, by omega, by omega⟩)
            · have l_147 : Int32.toInt 0 = 0 := by decide
              show (128 - Int32.toInt 0).toNat < 1000000000000
              omega
        · try have t_148 : Int32.toInt (x5_23 + 1) = Int32.toInt x5_23 + 1 := ti_add rfl (by decide) (by omega) (by omega)
          exact hk_16 (q, p1, p2, x3_6, x4_7, (x5_23 + 1)) (show (q = q) ∧ (p1 = p1) ∧ (p2 = p2) ∧ (x3_6 = x3_6) ∧ (x4_7 = x4_7) ∧ (0 ≤ Int32.toInt (x5_23 + 1)) ∧ (Int32.toInt x4_7 + Int32.toInt (x5_23 + 1) ≤ 127) from ⟨rfl, rfl, rfl, rfl, rfl, by omega, by omega⟩) (show (128 - Int32.toInt (x5_23 + 1)).toNat < (128 - Int32.toInt x5_23).toNat by omega)
      · have l_149 : Int32.toInt 0 = 0 := by decide
        exact (show (q = q) ∧ (p1 = p1) ∧ (p2 = p2) ∧ (x3_6 = x3_6) ∧ (x4_7 = x4_7) ∧ (0 ≤ Int32.toInt 0) ∧ (Int32.toInt x4_7 + Int32.toInt 0 ≤ 127) from ⟨rfl, rfl, rfl, rfl, rfl, by omega, by omega⟩)
      · have l_150 : Int32.toInt 0 = 0 := by decide
        show (128 - Int32.toInt 0).toNat < 1000000000000
        omega
  · have l_151 : Int32.toInt 1 = 1 := by decide
    have l_152 : Int32.toInt 0 = 0 := by decide
    exact (show (q = q) ∧ (p1 = p1) ∧ (p2 = p2) ∧ (0 ≤ Int32.toInt 0) ∧ (Int32.toInt 0 ≤ 128) from ⟨rfl, rfl, rfl, by omega, by omega⟩)
  · have l_153 : Int32.toInt 1 = 1 := by decide
    have l_154 : Int32.toInt 0 = 0 := by decide
    show (128 - Int32.toInt 0).toNat < 1000000000000
    omega

set_option maxHeartbeats 4000000 in
set_option maxRecDepth 100000 in
theorem ok_isLaw (q : dS) (p1 : Int32) (hT : TS q) : dOk (zX10_isLaw q p1) (fun (o : Int32 × dS) => (o.2 = q) ∧ ((Int32.toInt o.1 = 1 ∧ -1 ≤ Int32.toInt p1 ∧ Int32.toInt p1 < Int32.toInt (q.1 2 31)) ∨ (Int32.toInt o.1 = 0 ∧ (Int32.toInt p1 < -1 ∨ Int32.toInt (q.1 2 31) ≤ Int32.toInt p1)))) := by
  unfold zX10_isLaw
  have l_1 : Int32.toInt (-1) = (-1) := by decide
  have f_2 : 0 ≤ Int32.toInt (q.1 2 31) ∧ Int32.toInt (q.1 2 31) ≤ 6 := hT.1 2 31
  try have t_3 : Int32.toInt (q.1 2 31 - 1) = Int32.toInt (q.1 2 31) - 1 := ti_sub rfl (by decide) (by omega) (by omega)
  refine dOk_V (ok_lies p1 (-1) (q.1 2 31 - 1)) (fun r_4 h_5 => ?_)
  have h_5 : ((Int32.toInt r_4 = 1 ∧ Int32.toInt (-1) ≤ Int32.toInt p1 ∧ Int32.toInt p1 ≤ Int32.toInt (q.1 2 31 - 1)) ∨ (Int32.toInt r_4 = 0 ∧ (Int32.toInt p1 < Int32.toInt (-1) ∨ Int32.toInt (q.1 2 31 - 1) < Int32.toInt p1))) := h_5
  have i_6 := h_5
  refine dOk_G (dbl_ok (show Int32.toInt r_4 = 0 ∨ Int32.toInt r_4 = 1 by omega)) ?_
  exact dOk_some (show (q = q) ∧ ((Int32.toInt r_4 = 1 ∧ -1 ≤ Int32.toInt p1 ∧ Int32.toInt p1 < Int32.toInt (q.1 2 31)) ∨ (Int32.toInt r_4 = 0 ∧ (Int32.toInt p1 < -1 ∨ Int32.toInt (q.1 2 31) ≤ Int32.toInt p1))) from ⟨rfl, by omega⟩)

set_option maxHeartbeats 4000000 in
set_option maxRecDepth 100000 in
theorem ok_force (q : dS) (p1 : Int32) (hT : TS q) : dOk (zX10_force q p1) (fun (o : Int32 × dS) => (TS o.2) ∧ (dFr [1, 2] [0] q o.2)) := by
  unfold zX10_force
  refine dOk_B (ok_isLaw q p1 hT) (fun r_1 q_2 h_3 => ?_)
  have h_3 : (q_2 = q) ∧ ((Int32.toInt r_1 = 1 ∧ -1 ≤ Int32.toInt p1 ∧ Int32.toInt p1 < Int32.toInt (q.1 2 31)) ∨ (Int32.toInt r_1 = 0 ∧ (Int32.toInt p1 < -1 ∨ Int32.toInt (q.1 2 31) ≤ Int32.toInt p1))) := h_3
  obtain ⟨i_4, i_5⟩ := h_3
  subst q_2
  have f_6 : 0 ≤ Int32.toInt (q.1 2 31) ∧ Int32.toInt (q.1 2 31) ≤ 6 := hT.1 2 31
  refine dOk_eq (A := Int32.toInt r_1) (B := 0) rfl (by decide) (fun c_7z c_7 => ?_) (fun c_8z c_8 => ?_)
  · have l_10 : Int32.toInt (-2) = (-2) := by decide
    refine dOk_B (ok_refuses q (-2) hT (show (-6) ≤ Int32.toInt (-2) by omega) (show Int32.toInt (-2) ≤ 0 by omega)) (fun r_11 q_12 h_13 => ?_)
    have h_13 : (TS q_12) ∧ (dFr [1] [0] q q_12) ∧ (Int32.toInt r_11 = Int32.toInt (-2)) := h_13
    obtain ⟨i_14, i_15, i_16⟩ := h_13
    have hFq_12 : dFr [1, 2] [0] q q_12 := (dFr.rf (q := q)).t i_15 (by decide) (by decide)
    exact dOk_some (show (TS q_12) ∧ (dFr [1, 2] [0] q q_12) from ⟨i_14, hFq_12⟩)
  · refine dOk_L (fun q_17 eq_17 => ?_)
    have hTq_17 : TS q_17 := by rw [eq_17]; exact ts_force hT (show -1 ≤ Int32.toInt p1 by omega) (show Int32.toInt p1 < Int32.toInt (q.1 2 31) by omega)
    have hFq_17 : dFr [1, 2] [0] q q_17 := by rw [eq_17]; exact (dFr.rf (q := q)).i (by decide) (by decide)
    have f_18 : -1 ≤ Int32.toInt (q.1 2 32) ∧ Int32.toInt (q.1 2 32) ≤ 5 := hT.1 2 32
    have k_19 : Int32.toInt (q.1 2 32) < Int32.toInt (q.1 2 31) := hT.2.1.1
    refine dOk_B (ok_good q_17 (q.1 2 32) hTq_17) (fun r_20 q_21 h_22 => ?_)
    have h_22 : (TS q_21) ∧ (dFr [] [0] q_17 q_21) ∧ (Int32.toInt r_20 = Int32.toInt (q.1 2 32)) := h_22
    obtain ⟨i_23, i_24, i_25⟩ := h_22
    have hFq_21 : dFr [1, 2] [0] q q_21 := hFq_17.t i_24 (by decide) (by decide)
    exact dOk_some (show (TS q_21) ∧ (dFr [1, 2] [0] q q_21) from ⟨i_23, hFq_21⟩)

set_option maxHeartbeats 4000000 in
set_option maxRecDepth 100000 in
theorem ok_rankBelow (q : dS) (p1 : Int32) (hT : TS q) (hp0 : 0 ≤ Int32.toInt p1) : dOk (zX10_rankBelow q p1) (fun (o : Int32 × dS) => (o.2 = q) ∧ (-1 ≤ Int32.toInt o.1 ∧ Int32.toInt o.1 ≤ 5)) := by
  unfold zX10_rankBelow
  refine dOk_B (ok_size q hT) (fun r_1 q_2 h_3 => ?_)
  have h_3 : (q_2 = q) ∧ (Int32.toInt r_1 = Int32.toInt (q.1 2 29)) ∧ (0 ≤ Int32.toInt r_1 ∧ Int32.toInt r_1 ≤ 6) := h_3
  obtain ⟨i_4, i_5, i_6⟩ := h_3
  subst q_2
  have f_7 : 0 ≤ Int32.toInt (q.1 2 29) ∧ Int32.toInt (q.1 2 29) ≤ 6 := hT.1 2 29
  refine dOk_le (A := Int32.toInt r_1) (B := Int32.toInt p1) rfl rfl (fun c_8 => ?_) (fun c_9 => ?_)
  · unfold zX10_rankBelow_20
    have l_10 : Int32.toInt (-1) = (-1) := by decide
    exact dOk_some (show (q = q) ∧ (-1 ≤ Int32.toInt (-1) ∧ Int32.toInt (-1) ≤ 5) from ⟨rfl, by omega⟩)
  · try have t_11 : Int32.toInt (0 + p1) = 0 + Int32.toInt p1 := ti_add (by decide) rfl (by omega) (by omega)
    refine dOk_G (dg_ok (show 0 ≤ Int32.toInt (0 + p1) by omega) (show Int32.toInt (0 + p1) < ((5640 : Nat) : Int) by omega)) ?_
    have n_12 : ((Int32.toNatClampNeg (0 + p1) : Nat) : Int) = Int32.toInt (0 + p1) := cl_eq (by omega)
    refine dOk_L (fun v_13 ev_13 => ?_)
    try have g_14 : klo (Int32.toNatClampNeg (0 + p1)) ≤ Int32.toInt v_13 ∧ Int32.toInt v_13 ≤ khi (Int32.toNatClampNeg (0 + p1)) := by rw [ev_13]; exact te_k hT _
    try have f_15 : 0 ≤ Int32.toInt v_13 ∧ Int32.toInt v_13 ≤ 5 := by rw [ev_13]; exact te_2r hT (by omega) (by omega)
    try have f_16 : 0 ≤ Int32.toInt v_13 ∧ Int32.toInt v_13 ≤ 1 := by rw [ev_13]; exact te_2h hT (by omega) (by omega)
    try have f_17 : 0 ≤ Int32.toInt v_13 ∧ Int32.toInt v_13 ≤ 5 := by rw [ev_13]; exact te_2s hT (by omega) (by omega)
    try have f_18 : 0 ≤ Int32.toInt v_13 ∧ Int32.toInt v_13 ≤ 400 := by rw [ev_13]; exact te_2z hT (by omega) (by omega)
    unfold zX10_rankBelow_20
    exact dOk_some (show (q = q) ∧ (-1 ≤ Int32.toInt v_13 ∧ Int32.toInt v_13 ≤ 5) from ⟨rfl, by omega⟩)

set_option maxHeartbeats 4000000 in
set_option maxRecDepth 100000 in
theorem ok_setsTurn (q : dS) (p1 : Int32) (p2 : Int32) (p3 : Int32) (p4 : Int32) (hT : TS q) : dOk (zX10_setsTurn q p1 p2 p3 p4) (fun (o : dS) => (TS o) ∧ (dFr [12] [] q o) ∧ (Int32.toInt (o.1 12 0) = Int32.toInt p1)) := by
  unfold zX10_setsTurn
  refine dOk_L (fun q_1 eq_1 => ?_)
  have hTq_1 : TS q_1 := by rw [eq_1]; exact ts_any hT rfl
  have hFq_1 : dFr [12] [] q q_1 := by rw [eq_1]; exact (dFr.rf (q := q)).i (by decide) (by decide)
  refine dOk_L (fun q_2 eq_2 => ?_)
  have hTq_2 : TS q_2 := by rw [eq_2]; exact ts_any hTq_1 rfl
  have hFq_2 : dFr [12] [] q q_2 := by rw [eq_2]; exact hFq_1.i (by decide) (by decide)
  refine dOk_L (fun q_3 eq_3 => ?_)
  have hTq_3 : TS q_3 := by rw [eq_3]; exact ts_any hTq_2 rfl
  have hFq_3 : dFr [12] [] q q_3 := by rw [eq_3]; exact hFq_2.i (by decide) (by decide)
  have l_4 : Int32.toInt (-1) = (-1) := by decide
  refine dOk_V (ok_setsAsked q_3 (-1) (-1) p4 hTq_3) (fun q_5 h_6 => ?_)
  have h_6 : (TS q_5) ∧ (dFr [12] [] q_3 q_5) ∧ (Int32.toInt (q_5.1 12 0) = Int32.toInt (q_3.1 12 0)) ∧ (Int32.toInt (q_5.1 12 1) = Int32.toInt (q_3.1 12 1)) ∧ (Int32.toInt (q_5.1 12 2) = Int32.toInt (q_3.1 12 2)) := h_6
  obtain ⟨i_7, i_8, i_9, i_10, i_11⟩ := h_6
  have hFq_5 : dFr [12] [] q q_5 := hFq_3.t i_8 (by decide) (by decide)
  have w_12 : Int32.toInt (q_1.1 12 0) = Int32.toInt p1 := by rw [eq_1, dui_e]
  have w_13 : Int32.toInt (q_2.1 12 0) = Int32.toInt (q_1.1 12 0) := by rw [eq_2, dui_n (by decide)]
  have w_14 : Int32.toInt (q_3.1 12 0) = Int32.toInt (q_2.1 12 0) := by rw [eq_3, dui_n (by decide)]
  have w_15 : Int32.toInt (q_2.1 12 1) = Int32.toInt p2 := by rw [eq_2, dui_e]
  have w_16 : Int32.toInt (q_3.1 12 1) = Int32.toInt (q_2.1 12 1) := by rw [eq_3, dui_n (by decide)]
  have w_17 : Int32.toInt (q_3.1 12 2) = Int32.toInt p3 := by rw [eq_3, dui_e]
  exact dOk_some (show (TS q_5) ∧ (dFr [12] [] q q_5) ∧ (Int32.toInt (q_5.1 12 0) = Int32.toInt p1) from ⟨i_7, hFq_5, by omega⟩)

set_option maxHeartbeats 4000000 in
set_option maxRecDepth 100000 in
theorem ok_exchanges (q : dS) (p1 : Int32) (p2 : Int32) (hT : TS q) (hp0 : 0 ≤ Int32.toInt p1 ∧ Int32.toInt p1 ≤ 5) (hp1 : 0 ≤ Int32.toInt p2 ∧ Int32.toInt p2 ≤ 5) : dOk (zX10_exchanges q p1 p2) (fun (o : dS) => (TS o) ∧ (dFr [2] [] q o) ∧ (Int32.toInt (o.1 2 12) = Int32.toInt (q.1 2 12)) ∧ (Int32.toInt (o.1 2 13) = Int32.toInt (q.1 2 13)) ∧ (Int32.toInt (o.1 2 29) = Int32.toInt (q.1 2 29))) := by
  unfold zX10_exchanges
  try have t_1 : Int32.toInt (0 + p1) = 0 + Int32.toInt p1 := ti_add (by decide) rfl (by omega) (by omega)
  refine dOk_G (dg_ok (show 0 ≤ Int32.toInt (0 + p1) by omega) (show Int32.toInt (0 + p1) < ((5640 : Nat) : Int) by omega)) ?_
  have n_2 : ((Int32.toNatClampNeg (0 + p1) : Nat) : Int) = Int32.toInt (0 + p1) := cl_eq (by omega)
  refine dOk_L (fun v_3 ev_3 => ?_)
  try have g_4 : klo (Int32.toNatClampNeg (0 + p1)) ≤ Int32.toInt v_3 ∧ Int32.toInt v_3 ≤ khi (Int32.toNatClampNeg (0 + p1)) := by rw [ev_3]; exact te_k hT _
  try have f_5 : 0 ≤ Int32.toInt v_3 ∧ Int32.toInt v_3 ≤ 5 := by rw [ev_3]; exact te_2r hT (by omega) (by omega)
  try have f_6 : 0 ≤ Int32.toInt v_3 ∧ Int32.toInt v_3 ≤ 1 := by rw [ev_3]; exact te_2h hT (by omega) (by omega)
  try have f_7 : 0 ≤ Int32.toInt v_3 ∧ Int32.toInt v_3 ≤ 5 := by rw [ev_3]; exact te_2s hT (by omega) (by omega)
  try have f_8 : 0 ≤ Int32.toInt v_3 ∧ Int32.toInt v_3 ≤ 400 := by rw [ev_3]; exact te_2z hT (by omega) (by omega)
  try have t_9 : Int32.toInt (6 + p1) = 6 + Int32.toInt p1 := ti_add (by decide) rfl (by omega) (by omega)
  refine dOk_G (dg_ok (show 0 ≤ Int32.toInt (6 + p1) by omega) (show Int32.toInt (6 + p1) < ((5640 : Nat) : Int) by omega)) ?_
  have n_10 : ((Int32.toNatClampNeg (6 + p1) : Nat) : Int) = Int32.toInt (6 + p1) := cl_eq (by omega)
  refine dOk_L (fun v_11 ev_11 => ?_)
  try have g_12 : klo (Int32.toNatClampNeg (6 + p1)) ≤ Int32.toInt v_11 ∧ Int32.toInt v_11 ≤ khi (Int32.toNatClampNeg (6 + p1)) := by rw [ev_11]; exact te_k hT _
  try have f_13 : 0 ≤ Int32.toInt v_11 ∧ Int32.toInt v_11 ≤ 5 := by rw [ev_11]; exact te_2r hT (by omega) (by omega)
  try have f_14 : 0 ≤ Int32.toInt v_11 ∧ Int32.toInt v_11 ≤ 1 := by rw [ev_11]; exact te_2h hT (by omega) (by omega)
  try have f_15 : 0 ≤ Int32.toInt v_11 ∧ Int32.toInt v_11 ≤ 5 := by rw [ev_11]; exact te_2s hT (by omega) (by omega)
  try have f_16 : 0 ≤ Int32.toInt v_11 ∧ Int32.toInt v_11 ≤ 400 := by rw [ev_11]; exact te_2z hT (by omega) (by omega)
  try have t_17 : Int32.toInt (0 + p2) = 0 + Int32.toInt p2 := ti_add (by decide) rfl (by omega) (by omega)
  refine dOk_G (dg_ok (show 0 ≤ Int32.toInt (0 + p2) by omega) (show Int32.toInt (0 + p2) < ((5640 : Nat) : Int) by omega)) ?_
  have n_18 : ((Int32.toNatClampNeg (0 + p2) : Nat) : Int) = Int32.toInt (0 + p2) := cl_eq (by omega)
  refine dOk_L (fun v_19 ev_19 => ?_)
  try have g_20 : klo (Int32.toNatClampNeg (0 + p2)) ≤ Int32.toInt v_19 ∧ Int32.toInt v_19 ≤ khi (Int32.toNatClampNeg (0 + p2)) := by rw [ev_19]; exact te_k hT _
  try have f_21 : 0 ≤ Int32.toInt v_19 ∧ Int32.toInt v_19 ≤ 5 := by rw [ev_19]; exact te_2r hT (by omega) (by omega)
  try have f_22 : 0 ≤ Int32.toInt v_19 ∧ Int32.toInt v_19 ≤ 1 := by rw [ev_19]; exact te_2h hT (by omega) (by omega)
  try have f_23 : 0 ≤ Int32.toInt v_19 ∧ Int32.toInt v_19 ≤ 5 := by rw [ev_19]; exact te_2s hT (by omega) (by omega)
  try have f_24 : 0 ≤ Int32.toInt v_19 ∧ Int32.toInt v_19 ≤ 400 := by rw [ev_19]; exact te_2z hT (by omega) (by omega)
  refine dOk_G (dg_ok (show 0 ≤ Int32.toInt (0 + p1) by omega) (show Int32.toInt (0 + p1) < ((5640 : Nat) : Int) by omega)) ?_
  refine dOk_L (fun q_25 eq_25 => ?_)
  have hTq_25 : TS q_25 := by rw [eq_25]; first | exact ts_2c hT (by omega) (show Int32.toNatClampNeg (0 + p1) = Int32.toNatClampNeg (0 + p2) by omega) g_20 | exact ts_set2 hT (by omega) (by unfold klo; omega) (by unfold khi; omega)
  have hFq_25 : dFr [2] [] q q_25 := by rw [eq_25]; exact (dFr.rf (q := q)).i (by decide) (by decide)
  try have t_26 : Int32.toInt (6 + p2) = 6 + Int32.toInt p2 := ti_add (by decide) rfl (by omega) (by omega)
  refine dOk_G (dg_ok (show 0 ≤ Int32.toInt (6 + p2) by omega) (show Int32.toInt (6 + p2) < ((5640 : Nat) : Int) by omega)) ?_
  have n_27 : ((Int32.toNatClampNeg (6 + p2) : Nat) : Int) = Int32.toInt (6 + p2) := cl_eq (by omega)
  refine dOk_L (fun v_28 ev_28 => ?_)
  try have g_29 : klo (Int32.toNatClampNeg (6 + p2)) ≤ Int32.toInt v_28 ∧ Int32.toInt v_28 ≤ khi (Int32.toNatClampNeg (6 + p2)) := by rw [ev_28]; exact te_k hTq_25 _
  try have f_30 : 0 ≤ Int32.toInt v_28 ∧ Int32.toInt v_28 ≤ 5 := by rw [ev_28]; exact te_2r hTq_25 (by omega) (by omega)
  try have f_31 : 0 ≤ Int32.toInt v_28 ∧ Int32.toInt v_28 ≤ 1 := by rw [ev_28]; exact te_2h hTq_25 (by omega) (by omega)
  try have f_32 : 0 ≤ Int32.toInt v_28 ∧ Int32.toInt v_28 ≤ 5 := by rw [ev_28]; exact te_2s hTq_25 (by omega) (by omega)
  try have f_33 : 0 ≤ Int32.toInt v_28 ∧ Int32.toInt v_28 ≤ 400 := by rw [ev_28]; exact te_2z hTq_25 (by omega) (by omega)
  refine dOk_G (dg_ok (show 0 ≤ Int32.toInt (6 + p1) by omega) (show Int32.toInt (6 + p1) < ((5640 : Nat) : Int) by omega)) ?_
  refine dOk_L (fun q_34 eq_34 => ?_)
  have hTq_34 : TS q_34 := by rw [eq_34]; first | exact ts_2c hTq_25 (by omega) (show Int32.toNatClampNeg (6 + p1) = Int32.toNatClampNeg (6 + p2) by omega) g_29 | exact ts_set2 hTq_25 (by omega) (by unfold klo; omega) (by unfold khi; omega)
  have hFq_34 : dFr [2] [] q q_34 := by rw [eq_34]; exact hFq_25.i (by decide) (by decide)
  refine dOk_G (dg_ok (show 0 ≤ Int32.toInt (0 + p2) by omega) (show Int32.toInt (0 + p2) < ((5640 : Nat) : Int) by omega)) ?_
  refine dOk_L (fun q_35 eq_35 => ?_)
  have hTq_35 : TS q_35 := by rw [eq_35]; first | exact ts_2c hTq_34 (by omega) (show Int32.toNatClampNeg (0 + p2) = Int32.toNatClampNeg (0 + p1) by omega) g_4 | exact ts_set2 hTq_34 (by omega) (by unfold klo; omega) (by unfold khi; omega)
  have hFq_35 : dFr [2] [] q q_35 := by rw [eq_35]; exact hFq_34.i (by decide) (by decide)
  refine dOk_G (dg_ok (show 0 ≤ Int32.toInt (6 + p2) by omega) (show Int32.toInt (6 + p2) < ((5640 : Nat) : Int) by omega)) ?_
  refine dOk_L (fun q_36 eq_36 => ?_)
  have hTq_36 : TS q_36 := by rw [eq_36]; first | exact ts_2c hTq_35 (by omega) (show Int32.toNatClampNeg (6 + p2) = Int32.toNatClampNeg (6 + p1) by omega) g_12 | exact ts_set2 hTq_35 (by omega) (by unfold klo; omega) (by unfold khi; omega)
  have hFq_36 : dFr [2] [] q q_36 := by rw [eq_36]; exact hFq_35.i (by decide) (by decide)
  have f_37 : 0 ≤ Int32.toInt (q_36.1 2 12) ∧ Int32.toInt (q_36.1 2 12) ≤ 9999 := hTq_36.1 2 12
  have f_38 : 0 ≤ Int32.toInt (q_35.1 2 12) ∧ Int32.toInt (q_35.1 2 12) ≤ 9999 := hTq_35.1 2 12
  have f_39 : 0 ≤ Int32.toInt (q_34.1 2 12) ∧ Int32.toInt (q_34.1 2 12) ≤ 9999 := hTq_34.1 2 12
  have f_40 : 0 ≤ Int32.toInt (q_25.1 2 12) ∧ Int32.toInt (q_25.1 2 12) ≤ 9999 := hTq_25.1 2 12
  have f_41 : 0 ≤ Int32.toInt (q.1 2 12) ∧ Int32.toInt (q.1 2 12) ≤ 9999 := hT.1 2 12
  try have w_42 : Int32.toInt (q_25.1 2 12) = Int32.toInt (q.1 2 12) := by rw [eq_25, dui_n (by omega)]
  try have w_43 : Int32.toInt (q_34.1 2 12) = Int32.toInt (q_25.1 2 12) := by rw [eq_34, dui_n (by omega)]
  try have w_44 : Int32.toInt (q_35.1 2 12) = Int32.toInt (q_34.1 2 12) := by rw [eq_35, dui_n (by omega)]
  try have w_45 : Int32.toInt (q_36.1 2 12) = Int32.toInt (q_35.1 2 12) := by rw [eq_36, dui_n (by omega)]
  have f_46 : 0 ≤ Int32.toInt (q_36.1 2 13) ∧ Int32.toInt (q_36.1 2 13) ≤ 999 := hTq_36.1 2 13
  have f_47 : 0 ≤ Int32.toInt (q_35.1 2 13) ∧ Int32.toInt (q_35.1 2 13) ≤ 999 := hTq_35.1 2 13
  have f_48 : 0 ≤ Int32.toInt (q_34.1 2 13) ∧ Int32.toInt (q_34.1 2 13) ≤ 999 := hTq_34.1 2 13
  have f_49 : 0 ≤ Int32.toInt (q_25.1 2 13) ∧ Int32.toInt (q_25.1 2 13) ≤ 999 := hTq_25.1 2 13
  have f_50 : 0 ≤ Int32.toInt (q.1 2 13) ∧ Int32.toInt (q.1 2 13) ≤ 999 := hT.1 2 13
  try have w_51 : Int32.toInt (q_25.1 2 13) = Int32.toInt (q.1 2 13) := by rw [eq_25, dui_n (by omega)]
  try have w_52 : Int32.toInt (q_34.1 2 13) = Int32.toInt (q_25.1 2 13) := by rw [eq_34, dui_n (by omega)]
  try have w_53 : Int32.toInt (q_35.1 2 13) = Int32.toInt (q_34.1 2 13) := by rw [eq_35, dui_n (by omega)]
  try have w_54 : Int32.toInt (q_36.1 2 13) = Int32.toInt (q_35.1 2 13) := by rw [eq_36, dui_n (by omega)]
  have f_55 : 0 ≤ Int32.toInt (q_36.1 2 29) ∧ Int32.toInt (q_36.1 2 29) ≤ 6 := hTq_36.1 2 29
  have f_56 : 0 ≤ Int32.toInt (q_35.1 2 29) ∧ Int32.toInt (q_35.1 2 29) ≤ 6 := hTq_35.1 2 29
  have f_57 : 0 ≤ Int32.toInt (q_34.1 2 29) ∧ Int32.toInt (q_34.1 2 29) ≤ 6 := hTq_34.1 2 29
  have f_58 : 0 ≤ Int32.toInt (q_25.1 2 29) ∧ Int32.toInt (q_25.1 2 29) ≤ 6 := hTq_25.1 2 29
  have f_59 : 0 ≤ Int32.toInt (q.1 2 29) ∧ Int32.toInt (q.1 2 29) ≤ 6 := hT.1 2 29
  try have w_60 : Int32.toInt (q_25.1 2 29) = Int32.toInt (q.1 2 29) := by rw [eq_25, dui_n (by omega)]
  try have w_61 : Int32.toInt (q_34.1 2 29) = Int32.toInt (q_25.1 2 29) := by rw [eq_34, dui_n (by omega)]
  try have w_62 : Int32.toInt (q_35.1 2 29) = Int32.toInt (q_34.1 2 29) := by rw [eq_35, dui_n (by omega)]
  try have w_63 : Int32.toInt (q_36.1 2 29) = Int32.toInt (q_35.1 2 29) := by rw [eq_36, dui_n (by omega)]
  exact dOk_some (show (TS q_36) ∧ (dFr [2] [] q q_36) ∧ (Int32.toInt (q_36.1 2 12) = Int32.toInt (q.1 2 12)) ∧ (Int32.toInt (q_36.1 2 13) = Int32.toInt (q.1 2 13)) ∧ (Int32.toInt (q_36.1 2 29) = Int32.toInt (q.1 2 29)) from ⟨hTq_36, hFq_36, by omega, by omega, by omega⟩)
