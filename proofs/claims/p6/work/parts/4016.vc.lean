set_option maxHeartbeats 4000000 in
set_option maxRecDepth 100000 in
theorem ok_wordOf (q : dS) (p1 : Int32) (p2 : Int32) (hT : TS q) (hp0 : 0 ≤ Int32.toInt p1) (hp1 : Int32.toInt p1 < Int32.toInt p2) (hp2 : Int32.toInt p2 ≤ 400) : dOk (zX10_wordOf q p1 p2) (fun (o : Int32 × dS) => (o.2 = q)) := by
  unfold zX10_wordOf
  unfold zX10_wordOf_5
  refine dFix_ok (fun (a : dS × Int32 × Int32 × Int32 × Int32) => (a.1 = q) ∧ (a.2.1 = p1) ∧ (a.2.2.1 = p2) ∧ (0 ≤ Int32.toInt a.2.2.2.2) ∧ (Int32.toInt a.2.2.2.2 ≤ 128)) (fun (a : dS × Int32 × Int32 × Int32 × Int32) => (128 - Int32.toInt a.2.2.2.2).toNat) ?_ _ ?_ _ (dF_gt ?_)
  · intro a ha k_2 hk_1
    obtain ⟨q_3, x1_4, x2_5, x3_6, x4_7⟩ := a
    replace ha : (q_3 = q) ∧ (x1_4 = p1) ∧ (x2_5 = p2) ∧ (0 ≤ Int32.toInt x4_7) ∧ (Int32.toInt x4_7 ≤ 128) := ha
    obtain ⟨a_8, a_9, a_10, a_11, a_12⟩ := ha
    show dOk (zX10_wordOf_5b  (fun q x1 x2 x3 x4 => k_2 (q, x1, x2, x3, x4)) q_3 x1_4 x2_5 x3_6 x4_7) _
    unfold zX10_wordOf_5b
    subst q_3
    subst x1_4
    subst x2_5
    refine dOk_le (A := 128) (B := Int32.toInt x4_7) (by decide) rfl (fun c_13 => ?_) (fun c_14 => ?_)
    · exact dOk_some (show (q = q) from rfl)
    · unfold zX10_wordOf_18
      refine dFix_ok (fun (a : dS × Int32 × Int32 × Int32 × Int32 × Int32) => (a.1 = q) ∧ (a.2.1 = p1) ∧ (a.2.2.1 = p2) ∧ (a.2.2.2.1 = x3_6) ∧ (a.2.2.2.2.1 = x4_7) ∧ (0 ≤ Int32.toInt a.2.2.2.2.2) ∧ (Int32.toInt a.2.2.2.2.1 + Int32.toInt a.2.2.2.2.2 ≤ 127)) (fun (a : dS × Int32 × Int32 × Int32 × Int32 × Int32) => (128 - Int32.toInt a.2.2.2.2.2).toNat) ?_ _ ?_ _ (dF_gt ?_)
      · intro a ha k_16 hk_15
        obtain ⟨q_17, x1_18, x2_19, x3_20, x4_21, x5_22⟩ := a
        replace ha : (q_17 = q) ∧ (x1_18 = p1) ∧ (x2_19 = p2) ∧ (x3_20 = x3_6) ∧ (x4_21 = x4_7) ∧ (0 ≤ Int32.toInt x5_22) ∧ (Int32.toInt x4_21 + Int32.toInt x5_22 ≤ 127) := ha
        obtain ⟨a_23, a_24, a_25, a_26, a_27, a_28, a_29⟩ := ha
        show dOk (zX10_wordOf_18b _ (fun q x1 x2 x3 x4 x5 => k_16 (q, x1, x2, x3, x4, x5)) q_17 x1_18 x2_19 x3_20 x4_21 x5_22) _
        unfold zX10_wordOf_18b
        subst q_17
        subst x1_18
        subst x2_19
        subst x3_20
        subst x4_21
        try have t_30 : Int32.toInt (x4_7 + x5_22) = Int32.toInt x4_7 + Int32.toInt x5_22 := ti_add rfl rfl (by omega) (by omega)
        refine dOk_G (dg_ok (show 0 ≤ Int32.toInt (x4_7 + x5_22) by omega) (show Int32.toInt (x4_7 + x5_22) < ((128 : Nat) : Int) by omega)) ?_
        have n_31 : ((Int32.toNatClampNeg (x4_7 + x5_22) : Nat) : Int) = Int32.toInt (x4_7 + x5_22) := cl_eq (by omega)
        refine dOk_L (fun v_32 ev_32 => ?_)
        have f_33 : (Int32.toNatClampNeg (x4_7 + x5_22) = 127 → Int32.toInt v_32 = 32) := by intro z9; rw [ev_32, z9, hT.2.2.2 127 (by decide)]; decide
        refine dOk_eq (A := Int32.toInt v_32) (B := 32) rfl (by decide) (fun c_34z c_34 => ?_) (fun c_35z c_35 => ?_)
        · try have t_37 : Int32.toInt (p2 - p1) = Int32.toInt p2 - Int32.toInt p1 := ti_sub rfl rfl (by omega) (by omega)
          refine dOk_eq (A := Int32.toInt x5_22) (B := Int32.toInt (p2 - p1)) rfl rfl (fun c_38z c_38 => ?_) (fun c_39z c_39 => ?_)
          · unfold zX10_wordOf_52
            unfold zX10_wordOf_57
            refine dFix_ok (fun (a : dS × Int32 × Int32 × Int32 × Int32 × Int32 × Int32 × Int32) => (a.1 = q) ∧ (a.2.1 = p1) ∧ (a.2.2.1 = p2) ∧ (a.2.2.2.1 = x3_6) ∧ (a.2.2.2.2.1 = x4_7) ∧ (a.2.2.2.2.2.1 = x5_22) ∧ (0 ≤ Int32.toInt a.2.2.2.2.2.2.2) ∧ (Int32.toInt a.2.2.2.2.2.2.2 ≤ Int32.toInt a.2.2.2.2.2.1) ∧ (Int32.toInt a.2.2.2.2.2.2.1 = 0 ∨ (Int32.toInt a.2.2.2.2.2.2.1 = 1 ∧ Int32.toInt a.2.2.2.2.2.1 = Int32.toInt a.2.2.1 - Int32.toInt a.2.1))) (fun (a : dS × Int32 × Int32 × Int32 × Int32 × Int32 × Int32 × Int32) => (128 - Int32.toInt a.2.2.2.2.2.2.2).toNat) ?_ _ ?_ _ (dF_gt ?_)
            · intro a ha k_42 hk_41
              obtain ⟨q_43, x1_44, x2_45, x3_46, x4_47, x5_48, x6_49, x7_50⟩ := a
              replace ha : (q_43 = q) ∧ (x1_44 = p1) ∧ (x2_45 = p2) ∧ (x3_46 = x3_6) ∧ (x4_47 = x4_7) ∧ (x5_48 = x5_22) ∧ (0 ≤ Int32.toInt x7_50) ∧ (Int32.toInt x7_50 ≤ Int32.toInt x5_48) ∧ (Int32.toInt x6_49 = 0 ∨ (Int32.toInt x6_49 = 1 ∧ Int32.toInt x5_48 = Int32.toInt x2_45 - Int32.toInt x1_44)) := ha
              obtain ⟨a_51, a_52, a_53, a_54, a_55, a_56, a_57, a_58, a_59⟩ := ha
              show dOk (zX10_wordOf_57b _ (fun q x1 x2 x3 x4 x5 x6 x7 => k_42 (q, x1, x2, x3, x4, x5, x6, x7)) q_43 x1_44 x2_45 x3_46 x4_47 x5_48 x6_49 x7_50) _
              unfold zX10_wordOf_57b
              subst q_43
              subst x1_44
              subst x2_45
              subst x3_46
              subst x4_47
              subst x5_48
              refine dOk_le (A := Int32.toInt x5_22) (B := Int32.toInt x7_50) rfl rfl (fun c_60 => ?_) (fun c_61 => ?_)
              · unfold zX10_wordOf_104
                refine dOk_eq (A := Int32.toInt x6_49) (B := 0) rfl (by decide) (fun c_62z c_62 => ?_) (fun c_63z c_63 => ?_)
                · try have t_65 : Int32.toInt (x3_6 + 1) = Int32.toInt x3_6 + 1 := ti_add rfl (by decide) (by omega) (by omega)
                  try have t_66 : Int32.toInt (x5_22 + 1) = Int32.toInt x5_22 + 1 := ti_add rfl (by decide) (by omega) (by omega)
                  try have t_67 : Int32.toInt (x4_7 + (x5_22 + 1)) = Int32.toInt x4_7 + Int32.toInt (x5_22 + 1) := ti_add rfl rfl (by omega) (by omega)
                  exact hk_1 (q, p1, p2, (x3_6 + 1), (x4_7 + (x5_22 + 1))) (show (q = q) ∧ (p1 = p1) ∧ (p2 = p2) ∧ (0 ≤ Int32.toInt (x4_7 + (x5_22 + 1))) ∧ (Int32.toInt (x4_7 + (x5_22 + 1)) ≤ 128) from ⟨rfl, rfl, rfl, by omega, by omega⟩) (show (128 - Int32.toInt (x4_7 + (x5_22 + 1))).toNat < (128 - Int32.toInt x4_7).toNat by omega)
                · exact dOk_some (show (q = q) from rfl)
              · refine dOk_eq (A := Int32.toInt x6_49) (B := 0) rfl (by decide) (fun c_68z c_68 => ?_) (fun c_69z c_69 => ?_)
                · unfold zX10_wordOf_104
                  refine dOk_eq (A := Int32.toInt x6_49) (B := 0) rfl (by decide) (fun c_71z c_71 => ?_) (fun c_72z c_72 => ?_)
                  · try have t_74 : Int32.toInt (x3_6 + 1) = Int32.toInt x3_6 + 1 := ti_add rfl (by decide) (by omega) (by omega)
                    try have t_75 : Int32.toInt (x5_22 + 1) = Int32.toInt x5_22 + 1 := ti_add rfl (by decide) (by omega) (by omega)
                    try have t_76 : Int32.toInt (x4_7 + (x5_22 + 1)) = Int32.toInt x4_7 + Int32.toInt (x5_22 + 1) := ti_add rfl rfl (by omega) (by omega)
                    exact hk_1 (q, p1, p2, (x3_6 + 1), (x4_7 + (x5_22 + 1))) (show (q = q) ∧ (p1 = p1) ∧ (p2 = p2) ∧ (0 ≤ Int32.toInt (x4_7 + (x5_22 + 1))) ∧ (Int32.toInt (x4_7 + (x5_22 + 1)) ≤ 128) from ⟨rfl, rfl, rfl, by omega, by omega⟩) (show (128 - Int32.toInt (x4_7 + (x5_22 + 1))).toNat < (128 - Int32.toInt x4_7).toNat by omega)
                  · exact dOk_some (show (q = q) from rfl)
                · try have t_77 : Int32.toInt (x4_7 + x7_50) = Int32.toInt x4_7 + Int32.toInt x7_50 := ti_add rfl rfl (by omega) (by omega)
                  refine dOk_G (dg_ok (show 0 ≤ Int32.toInt (x4_7 + x7_50) by omega) (show Int32.toInt (x4_7 + x7_50) < ((128 : Nat) : Int) by omega)) ?_
                  have n_78 : ((Int32.toNatClampNeg (x4_7 + x7_50) : Nat) : Int) = Int32.toInt (x4_7 + x7_50) := cl_eq (by omega)
                  refine dOk_L (fun v_79 ev_79 => ?_)
                  have f_80 : (Int32.toNatClampNeg (x4_7 + x7_50) = 127 → Int32.toInt v_79 = 32) := by intro z9; rw [ev_79, z9, hT.2.2.2 127 (by decide)]; decide
                  try have t_81 : Int32.toInt (p1 + x7_50) = Int32.toInt p1 + Int32.toInt x7_50 := ti_add rfl rfl (by omega) (by omega)
                  refine dOk_G (dg_ok (show 0 ≤ Int32.toInt (p1 + x7_50) by omega) (show Int32.toInt (p1 + x7_50) < ((400 : Nat) : Int) by omega)) ?_
                  have n_82 : ((Int32.toNatClampNeg (p1 + x7_50) : Nat) : Int) = Int32.toInt (p1 + x7_50) := cl_eq (by omega)
                  refine dOk_L (fun v_83 ev_83 => ?_)
                  refine dOk_eq (A := Int32.toInt v_79) (B := Int32.toInt v_83) rfl rfl (fun c_84z c_84 => ?_) (fun c_85z c_85 => ?_)
                  · unfold zX10_wordOf_96
                    try have t_87 : Int32.toInt (x7_50 + 1) = Int32.toInt x7_50 + 1 := ti_add rfl (by decide) (by omega) (by omega)
                    exact hk_41 (q, p1, p2, x3_6, x4_7, x5_22, 1, (x7_50 + 1)) (show (q = q) ∧ (p1 = p1) ∧ (p2 = p2) ∧ (x3_6 = x3_6) ∧ (x4_7 = x4_7) ∧ (x5_22 = x5_22) ∧ (0 ≤ Int32.toInt (x7_50 + 1)) ∧ (Int32.toInt (x7_50 + 1) ≤ Int32.toInt x5_22) ∧ ((1 : Int) = 0 ∨ ((1 : Int) = 1 ∧ Int32.toInt x5_22 = Int32.toInt p2 - Int32.toInt p1)) from ⟨rfl, rfl, rfl, rfl, rfl, rfl, by omega, by omega, by omega⟩) (show (128 - Int32.toInt (x7_50 + 1)).toNat < (128 - Int32.toInt x7_50).toNat by omega)
                  · unfold zX10_wordOf_96
                    try have t_88 : Int32.toInt (x7_50 + 1) = Int32.toInt x7_50 + 1 := ti_add rfl (by decide) (by omega) (by omega)
                    exact hk_41 (q, p1, p2, x3_6, x4_7, x5_22, 0, (x7_50 + 1)) (show (q = q) ∧ (p1 = p1) ∧ (p2 = p2) ∧ (x3_6 = x3_6) ∧ (x4_7 = x4_7) ∧ (x5_22 = x5_22) ∧ (0 ≤ Int32.toInt (x7_50 + 1)) ∧ (Int32.toInt (x7_50 + 1) ≤ Int32.toInt x5_22) ∧ ((0 : Int) = 0 ∨ ((0 : Int) = 1 ∧ Int32.toInt x5_22 = Int32.toInt p2 - Int32.toInt p1)) from ⟨rfl, rfl, rfl, rfl, rfl, rfl, by omega, by omega, by omega⟩) (show (128 - Int32.toInt (x7_50 + 1)).toNat < (128 - Int32.toInt x7_50).toNat by omega)
            · exact (show (q = q) ∧ (p1 = p1) ∧ (p2 = p2) ∧ (x3_6 = x3_6) ∧ (x4_7 = x4_7) ∧ (x5_22 = x5_22) ∧ (0 ≤ (0 : Int)) ∧ ((0 : Int) ≤ Int32.toInt x5_22) ∧ ((1 : Int) = 0 ∨ ((1 : Int) = 1 ∧ Int32.toInt x5_22 = Int32.toInt p2 - Int32.toInt p1)) from ⟨rfl, rfl, rfl, rfl, rfl, rfl, by omega, by omega, by omega⟩)
            · show (128 - (0 : Int)).toNat < 1000000000000
              omega
          · unfold zX10_wordOf_52
            unfold zX10_wordOf_57
            refine dFix_ok (fun (a : dS × Int32 × Int32 × Int32 × Int32 × Int32 × Int32 × Int32) => (a.1 = q) ∧ (a.2.1 = p1) ∧ (a.2.2.1 = p2) ∧ (a.2.2.2.1 = x3_6) ∧ (a.2.2.2.2.1 = x4_7) ∧ (a.2.2.2.2.2.1 = x5_22) ∧ (0 ≤ Int32.toInt a.2.2.2.2.2.2.2) ∧ (Int32.toInt a.2.2.2.2.2.2.2 ≤ Int32.toInt a.2.2.2.2.2.1) ∧ (Int32.toInt a.2.2.2.2.2.2.1 = 0 ∨ (Int32.toInt a.2.2.2.2.2.2.1 = 1 ∧ Int32.toInt a.2.2.2.2.2.1 = Int32.toInt a.2.2.1 - Int32.toInt a.2.1))) (fun (a : dS × Int32 × Int32 × Int32 × Int32 × Int32 × Int32 × Int32) => (128 - Int32.toInt a.2.2.2.2.2.2.2).toNat) ?_ _ ?_ _ (dF_gt ?_)
            · intro a ha k_90 hk_89
              obtain ⟨q_91, x1_92, x2_93, x3_94, x4_95, x5_96, x6_97, x7_98⟩ := a
              replace ha : (q_91 = q) ∧ (x1_92 = p1) ∧ (x2_93 = p2) ∧ (x3_94 = x3_6) ∧ (x4_95 = x4_7) ∧ (x5_96 = x5_22) ∧ (0 ≤ Int32.toInt x7_98) ∧ (Int32.toInt x7_98 ≤ Int32.toInt x5_96) ∧ (Int32.toInt x6_97 = 0 ∨ (Int32.toInt x6_97 = 1 ∧ Int32.toInt x5_96 = Int32.toInt x2_93 - Int32.toInt x1_92)) := ha
              obtain ⟨a_99, a_100, a_101, a_102, a_103, a_104, a_105, a_106, a_107⟩ := ha
              show dOk (zX10_wordOf_57b _ (fun q x1 x2 x3 x4 x5 x6 x7 => k_90 (q, x1, x2, x3, x4, x5, x6, x7)) q_91 x1_92 x2_93 x3_94 x4_95 x5_96 x6_97 x7_98) _
              unfold zX10_wordOf_57b
              subst q_91
              subst x1_92
              subst x2_93
              subst x3_94
              subst x4_95
              subst x5_96
              refine dOk_le (A := Int32.toInt x5_22) (B := Int32.toInt x7_98) rfl rfl (fun c_108 => ?_) (fun c_109 => ?_)
              · unfold zX10_wordOf_104
                refine dOk_eq (A := Int32.toInt x6_97) (B := 0) rfl (by decide) (fun c_110z c_110 => ?_) (fun c_111z c_111 => ?_)
                · try have t_113 : Int32.toInt (x3_6 + 1) = Int32.toInt x3_6 + 1 := ti_add rfl (by decide) (by omega) (by omega)
                  try have t_114 : Int32.toInt (x5_22 + 1) = Int32.toInt x5_22 + 1 := ti_add rfl (by decide) (by omega) (by omega)
                  try have t_115 : Int32.toInt (x4_7 + (x5_22 + 1)) = Int32.toInt x4_7 + Int32.toInt (x5_22 + 1) := ti_add rfl rfl (by omega) (by omega)
                  exact hk_1 (q, p1, p2, (x3_6 + 1), (x4_7 + (x5_22 + 1))) (show (q = q) ∧ (p1 = p1) ∧ (p2 = p2) ∧ (0 ≤ Int32.toInt (x4_7 + (x5_22 + 1))) ∧ (Int32.toInt (x4_7 + (x5_22 + 1)) ≤ 128) from ⟨rfl, rfl, rfl, by omega, by omega⟩) (show (128 - Int32.toInt (x4_7 + (x5_22 + 1))).toNat < (128 - Int32.toInt x4_7).toNat by omega)
                · exact dOk_some (show (q = q) from rfl)
              · refine dOk_eq (A := Int32.toInt x6_97) (B := 0) rfl (by decide) (fun c_116z c_116 => ?_) (fun c_117z c_117 => ?_)
                · unfold zX10_wordOf_104
                  refine dOk_eq (A := Int32.toInt x6_97) (B := 0) rfl (by decide) (fun c_119z c_119 => ?_) (fun c_120z c_120 => ?_)
                  · try have t_122 : Int32.toInt (x3_6 + 1) = Int32.toInt x3_6 + 1 := ti_add rfl (by decide) (by omega) (by omega)
                    try have t_123 : Int32.toInt (x5_22 + 1) = Int32.toInt x5_22 + 1 := ti_add rfl (by decide) (by omega) (by omega)
                    try have t_124 : Int32.toInt (x4_7 + (x5_22 + 1)) = Int32.toInt x4_7 + Int32.toInt (x5_22 + 1) := ti_add rfl rfl (by omega) (by omega)
                    exact hk_1 (q, p1, p2, (x3_6 + 1), (x4_7 + (x5_22 + 1))) (show (q = q) ∧ (p1 = p1) ∧ (p2 = p2) ∧ (0 ≤ Int32.toInt (x4_7 + (x5_22 + 1))) ∧ (Int32.toInt (x4_7 + (x5_22 + 1)) ≤ 128) from ⟨rfl, rfl, rfl, by omega, by omega⟩) (show (128 - Int32.toInt (x4_7 + (x5_22 + 1))).toNat < (128 - Int32.toInt x4_7).toNat by omega)
                  · exact dOk_some (show (q = q) from rfl)
                · try have t_125 : Int32.toInt (x4_7 + x7_98) = Int32.toInt x4_7 + Int32.toInt x7_98 := ti_add rfl rfl (by omega) (by omega)
                  refine dOk_G (dg_ok (show 0 ≤ Int32.toInt (x4_7 + x7_98) by omega) (show Int32.toInt (x4_7 + x7_98) < ((128 : Nat) : Int) by omega)) ?_
                  have n_126 : ((Int32.toNatClampNeg (x4_7 + x7_98) : Nat) : Int) = Int32.toInt (x4_7 + x7_98) := cl_eq (by omega)
                  refine dOk_L (fun v_127 ev_127 => ?_)
                  have f_128 : (Int32.toNatClampNeg (x4_7 + x7_98) = 127 → Int32.toInt v_127 = 32) := by intro z9; rw [ev_127, z9, hT.2.2.2 127 (by decide)]; decide
                  try have t_129 : Int32.toInt (p1 + x7_98) = Int32.toInt p1 + Int32.toInt x7_98 := ti_add rfl rfl (by omega) (by omega)
                  refine dOk_G (dg_ok (show 0 ≤ Int32.toInt (p1 + x7_98) by omega) (show Int32.toInt (p1 + x7_98) < ((400 : Nat) : Int) by omega)) ?_
                  have n_130 : ((Int32.toNatClampNeg (p1 + x7_98) : Nat) : Int) = Int32.toInt (p1 + x7_98) := cl_eq (by omega)
                  refine dOk_L (fun v_131 ev_131 => ?_)
                  refine dOk_eq (A := Int32.toInt v_127) (B := Int32.toInt v_131) rfl rfl (fun c_132z c_132 => ?_) (fun c_133z c_133 => ?_)
                  · unfold zX10_wordOf_96
                    try have t_135 : Int32.toInt (x7_98 + 1) = Int32.toInt x7_98 + 1 := ti_add rfl (by decide) (by omega) (by omega)
                    exact hk_89 (q, p1, p2, x3_6, x4_7, x5_22, 1, (x7_98 + 1)) (show (q = q) ∧ (p1 = p1) ∧ (p2 = p2) ∧ (x3_6 = x3_6) ∧ (x4_7 = x4_7) ∧ (x5_22 = x5_22) ∧ (0 ≤ Int32.toInt (x7_98 + 1)) ∧ (Int32.toInt (x7_98 + 1) ≤ Int32.toInt x5_22) ∧ ((1 : Int) = 0 ∨ ((1 : Int) = 1 ∧ Int32.toInt x5_22 = Int32.toInt p2 - Int32.toInt p1)) from ⟨rfl, rfl, rfl, rfl, rfl, rfl, by omega, by omega, by omega⟩) (show (128 - Int32.toInt (x7_98 + 1)).toNat < (128 - Int32.toInt x7_98).toNat by omega)
                  · unfold zX10_wordOf_96
                    try have t_136 : Int32.toInt (x7_98 + 1) = Int32.toInt x7_98 + 1 := ti_add rfl (by decide) (by omega) (by omega)
                    exact hk_89 (q, p1, p2, x3_6, x4_7, x5_22, 0, (x7_98 + 1)) (show (q = q) ∧ (p1 = p1) ∧ (p2 = p2) ∧ (x3_6 = x3_6) ∧ (x4_7 = x4_7) ∧ (x5_22 = x5_22) ∧ (0 ≤ Int32.toInt (x7_98 + 1)) ∧ (Int32.toInt (x7_98 + 1) ≤ Int32.toInt x5_22) ∧ ((0 : Int) = 0 ∨ ((0 : Int) = 1 ∧ Int32.toInt x5_22 = Int32.toInt p2 - Int32.toInt p1)) from ⟨rfl, rfl, rfl, rfl, rfl, rfl, by omega, by omega, by omega⟩) (show (128 - Int32.toInt (x7_98 + 1)).toNat < (128 - Int32.toInt x7_98).toNat by omega)
            · exact (show (q = q) ∧ (p1 = p1) ∧ (p2 = p2) ∧ (x3_6 = x3_6) ∧ (x4_7 = x4_7) ∧ (x5_22 = x5_22) ∧ (0 ≤ (0 : Int)) ∧ ((0 : Int) ≤ Int32.toInt x5_22) ∧ ((0 : Int) = 0 ∨ ((0 : Int) = 1 ∧ Int32.toInt x5_22 = Int32.toInt p2 - Int32.toInt p1)) from ⟨rfl, rfl, rfl, rfl, rfl, rfl, by omega, by omega, by omega⟩)
            · show (128 - (0 : Int)).toNat < 1000000000000
              omega
        · try have t_137 : Int32.toInt (x5_22 + 1) = Int32.toInt x5_22 + 1 := ti_add rfl (by decide) (by omega) (by omega)
          exact hk_15 (q, p1, p2, x3_6, x4_7, (x5_22 + 1)) (show (q = q) ∧ (p1 = p1) ∧ (p2 = p2) ∧ (x3_6 = x3_6) ∧ (x4_7 = x4_7) ∧ (0 ≤ Int32.toInt (x5_22 + 1)) ∧ (Int32.toInt x4_7 + Int32.toInt (x5_22 + 1) ≤ 127) from ⟨rfl, rfl, rfl, rfl, rfl, by omega, by omega⟩) (show (128 - Int32.toInt (x5_22 + 1)).toNat < (128 - Int32.toInt x5_22).toNat by omega)
      · exact (show (q = q) ∧ (p1 = p1) ∧ (p2 = p2) ∧ (x3_6 = x3_6) ∧ (x4_7 = x4_7) ∧ (0 ≤ (0 : Int)) ∧ (Int32.toInt x4_7 + (0 : Int) ≤ 127) from ⟨rfl, rfl, rfl, rfl, rfl, by omega, by omega⟩)
      · show (128 - (0 : Int)).toNat < 1000000000000
        omega
  · exact (show (q = q) ∧ (p1 = p1) ∧ (p2 = p2) ∧ (0 ≤ (0 : Int)) ∧ ((0 : Int) ≤ 128) from ⟨rfl, rfl, rfl, by omega, by omega⟩)
  · show (128 - (0 : Int)).toNat < 1000000000000
    omega

set_option maxHeartbeats 4000000 in
set_option maxRecDepth 100000 in
theorem ok_isLaw (q : dS) (p1 : Int32) (hT : TS q) : dOk (zX10_isLaw q p1) (fun (o : Int32 × dS) => (o.2 = q) ∧ ((Int32.toInt o.1 = 1 ∧ -1 ≤ Int32.toInt p1 ∧ Int32.toInt p1 < Int32.toInt (q.1 2 31)) ∨ (Int32.toInt o.1 = 0 ∧ (Int32.toInt p1 < -1 ∨ Int32.toInt (q.1 2 31) ≤ Int32.toInt p1)))) := by
  unfold zX10_isLaw
  have f_1 : 0 ≤ Int32.toInt (q.1 2 31) ∧ Int32.toInt (q.1 2 31) ≤ 6 := hT.1 2 31
  try have t_2 : Int32.toInt (q.1 2 31 - 1) = Int32.toInt (q.1 2 31) - 1 := ti_sub rfl (by decide) (by omega) (by omega)
  refine dOk_V (ok_lies p1 (-1) (q.1 2 31 - 1)) (fun r_3 h_4 => ?_)
  replace h_4 : ((Int32.toInt r_3 = 1 ∧ (-1 : Int) ≤ Int32.toInt p1 ∧ Int32.toInt p1 ≤ Int32.toInt (q.1 2 31 - 1)) ∨ (Int32.toInt r_3 = 0 ∧ (Int32.toInt p1 < (-1 : Int) ∨ Int32.toInt (q.1 2 31 - 1) < Int32.toInt p1))) := h_4
  have i_5 := h_4
  refine dOk_G (dbl_ok (show Int32.toInt r_3 = 0 ∨ Int32.toInt r_3 = 1 by omega)) ?_
  exact dOk_some (show (q = q) ∧ ((Int32.toInt r_3 = 1 ∧ -1 ≤ Int32.toInt p1 ∧ Int32.toInt p1 < Int32.toInt (q.1 2 31)) ∨ (Int32.toInt r_3 = 0 ∧ (Int32.toInt p1 < -1 ∨ Int32.toInt (q.1 2 31) ≤ Int32.toInt p1))) from ⟨rfl, by omega⟩)

set_option maxHeartbeats 4000000 in
set_option maxRecDepth 100000 in
theorem ok_force (q : dS) (p1 : Int32) (hT : TS q) : dOk (zX10_force q p1) (fun (o : Int32 × dS) => (TS o.2) ∧ (dFr [1, 2] [0] q o.2) ∧ (Int32.toInt (o.2.1 2 30) = Int32.toInt (q.1 2 30)) ∧ (Int32.toInt (o.2.1 2 26) = Int32.toInt (q.1 2 26))) := by
  unfold zX10_force
  refine dOk_B (ok_isLaw q p1 hT) (fun r_1 q_2 h_3 => ?_)
  replace h_3 : (q_2 = q) ∧ ((Int32.toInt r_1 = 1 ∧ -1 ≤ Int32.toInt p1 ∧ Int32.toInt p1 < Int32.toInt (q.1 2 31)) ∨ (Int32.toInt r_1 = 0 ∧ (Int32.toInt p1 < -1 ∨ Int32.toInt (q.1 2 31) ≤ Int32.toInt p1))) := h_3
  obtain ⟨i_4, i_5⟩ := h_3
  subst q_2
  have f_6 : 0 ≤ Int32.toInt (q.1 2 31) ∧ Int32.toInt (q.1 2 31) ≤ 6 := hT.1 2 31
  refine dOk_eq (A := Int32.toInt r_1) (B := 0) rfl (by decide) (fun c_7z c_7 => ?_) (fun c_8z c_8 => ?_)
  · refine dOk_B (ok_refuses q (-2) hT (show (-6) ≤ (-2 : Int) by omega) (show (-2 : Int) ≤ 0 by omega)) (fun r_10 q_11 h_12 => ?_)
    replace h_12 : (TS q_11) ∧ (dFr [1] [0] q q_11) ∧ (Int32.toInt r_10 = (-2 : Int)) := h_12
    obtain ⟨i_13, i_14, i_15⟩ := h_12
    have hFq_11 : dFr [1, 2] [0] q q_11 := (dFr.rf (q := q)).t i_14 (by decide) (by decide)
    have f_16 : 0 ≤ Int32.toInt (q_11.1 2 30) ∧ Int32.toInt (q_11.1 2 30) ≤ 6 := i_13.1 2 30
    have f_17 : 0 ≤ Int32.toInt (q.1 2 30) ∧ Int32.toInt (q.1 2 30) ≤ 6 := hT.1 2 30
    have w_18 : Int32.toInt (q_11.1 2 30) = Int32.toInt (q.1 2 30) := by rw [i_14.1 2 (by decide) (by decide)]
    have f_19 : 0 ≤ Int32.toInt (q_11.1 2 26) ∧ Int32.toInt (q_11.1 2 26) ≤ 10 := i_13.1 2 26
    have f_20 : 0 ≤ Int32.toInt (q.1 2 26) ∧ Int32.toInt (q.1 2 26) ≤ 10 := hT.1 2 26
    have w_21 : Int32.toInt (q_11.1 2 26) = Int32.toInt (q.1 2 26) := by rw [i_14.1 2 (by decide) (by decide)]
    exact dOk_some (show (TS q_11) ∧ (dFr [1, 2] [0] q q_11) ∧ (Int32.toInt (q_11.1 2 30) = Int32.toInt (q.1 2 30)) ∧ (Int32.toInt (q_11.1 2 26) = Int32.toInt (q.1 2 26)) from ⟨i_13, hFq_11, by omega, by omega⟩)
  · refine dOk_L (fun q_22 eq_22 => ?_)
    have hTq_22 : TS q_22 := by rw [eq_22]; exact ts_force hT (show -1 ≤ Int32.toInt p1 by omega) (show Int32.toInt p1 < Int32.toInt (q.1 2 31) by omega)
    have hFq_22 : dFr [1, 2] [0] q q_22 := by rw [eq_22]; exact (dFr.rf (q := q)).i (by decide) (by decide)
    have f_23 : -1 ≤ Int32.toInt (q.1 2 32) ∧ Int32.toInt (q.1 2 32) ≤ 5 := hT.1 2 32
    have k_24 : Int32.toInt (q.1 2 32) < Int32.toInt (q.1 2 31) := hT.2.1.1
    refine dOk_B (ok_good q_22 (q.1 2 32) hTq_22) (fun r_25 q_26 h_27 => ?_)
    replace h_27 : (TS q_26) ∧ (dFr [] [0] q_22 q_26) ∧ (Int32.toInt r_25 = Int32.toInt (q.1 2 32)) := h_27
    obtain ⟨i_28, i_29, i_30⟩ := h_27
    have hFq_26 : dFr [1, 2] [0] q q_26 := hFq_22.t i_29 (by decide) (by decide)
    have f_31 : 0 ≤ Int32.toInt (q_26.1 2 30) ∧ Int32.toInt (q_26.1 2 30) ≤ 6 := i_28.1 2 30
    have f_32 : 0 ≤ Int32.toInt (q_22.1 2 30) ∧ Int32.toInt (q_22.1 2 30) ≤ 6 := hTq_22.1 2 30
    have f_33 : 0 ≤ Int32.toInt (q.1 2 30) ∧ Int32.toInt (q.1 2 30) ≤ 6 := hT.1 2 30
    have w_34 : Int32.toInt (q_22.1 2 30) = Int32.toInt (q.1 2 30) := by rw [eq_22, dui_n (by decide)]
    have w_35 : Int32.toInt (q_26.1 2 30) = Int32.toInt (q_22.1 2 30) := by rw [i_29.1 2 (by decide) (by decide)]
    have f_36 : 0 ≤ Int32.toInt (q_26.1 2 26) ∧ Int32.toInt (q_26.1 2 26) ≤ 10 := i_28.1 2 26
    have f_37 : 0 ≤ Int32.toInt (q_22.1 2 26) ∧ Int32.toInt (q_22.1 2 26) ≤ 10 := hTq_22.1 2 26
    have f_38 : 0 ≤ Int32.toInt (q.1 2 26) ∧ Int32.toInt (q.1 2 26) ≤ 10 := hT.1 2 26
    have w_39 : Int32.toInt (q_22.1 2 26) = Int32.toInt (q.1 2 26) := by rw [eq_22, dui_n (by decide)]
    have w_40 : Int32.toInt (q_26.1 2 26) = Int32.toInt (q_22.1 2 26) := by rw [i_29.1 2 (by decide) (by decide)]
    exact dOk_some (show (TS q_26) ∧ (dFr [1, 2] [0] q q_26) ∧ (Int32.toInt (q_26.1 2 30) = Int32.toInt (q.1 2 30)) ∧ (Int32.toInt (q_26.1 2 26) = Int32.toInt (q.1 2 26)) from ⟨i_28, hFq_26, by omega, by omega⟩)

set_option maxHeartbeats 4000000 in
set_option maxRecDepth 100000 in
theorem ok_rankBelow (q : dS) (p1 : Int32) (hT : TS q) (hp0 : 0 ≤ Int32.toInt p1) : dOk (zX10_rankBelow q p1) (fun (o : Int32 × dS) => (o.2 = q) ∧ (-1 ≤ Int32.toInt o.1 ∧ Int32.toInt o.1 ≤ 5)) := by
  unfold zX10_rankBelow
  refine dOk_B (ok_size q hT) (fun r_1 q_2 h_3 => ?_)
  replace h_3 : (q_2 = q) ∧ (Int32.toInt r_1 = Int32.toInt (q.1 2 29)) ∧ (0 ≤ Int32.toInt r_1 ∧ Int32.toInt r_1 ≤ 6) := h_3
  obtain ⟨i_4, i_5, i_6⟩ := h_3
  subst q_2
  have f_7 : 0 ≤ Int32.toInt (q.1 2 29) ∧ Int32.toInt (q.1 2 29) ≤ 6 := hT.1 2 29
  refine dOk_le (A := Int32.toInt r_1) (B := Int32.toInt p1) rfl rfl (fun c_8 => ?_) (fun c_9 => ?_)
  · unfold zX10_rankBelow_20
    exact dOk_some (show (q = q) ∧ (-1 ≤ (-1 : Int) ∧ (-1 : Int) ≤ 5) from ⟨rfl, by omega⟩)
  · try have t_10 : Int32.toInt (0 + p1) = 0 + Int32.toInt p1 := ti_add (by decide) rfl (by omega) (by omega)
    refine dOk_G (dg_ok (show 0 ≤ Int32.toInt (0 + p1) by omega) (show Int32.toInt (0 + p1) < ((5640 : Nat) : Int) by omega)) ?_
    have n_11 : ((Int32.toNatClampNeg (0 + p1) : Nat) : Int) = Int32.toInt (0 + p1) := cl_eq (by omega)
    refine dOk_L (fun v_12 ev_12 => ?_)
    try have g_13 : klo (Int32.toNatClampNeg (0 + p1)) ≤ Int32.toInt v_12 ∧ Int32.toInt v_12 ≤ khi (Int32.toNatClampNeg (0 + p1)) := by rw [ev_12]; exact te_k hT _
    try have f_14 : 0 ≤ Int32.toInt v_12 ∧ Int32.toInt v_12 ≤ 5 := by rw [ev_12]; exact te_2r hT (by omega) (by omega)
    try have f_15 : 0 ≤ Int32.toInt v_12 ∧ Int32.toInt v_12 ≤ 1 := by rw [ev_12]; exact te_2h hT (by omega) (by omega)
    try have f_16 : 0 ≤ Int32.toInt v_12 ∧ Int32.toInt v_12 ≤ 5 := by rw [ev_12]; exact te_2s hT (by omega) (by omega)
    try have f_17 : 0 ≤ Int32.toInt v_12 ∧ Int32.toInt v_12 ≤ 400 := by rw [ev_12]; exact te_2z hT (by omega) (by omega)
    unfold zX10_rankBelow_20
    exact dOk_some (show (q = q) ∧ (-1 ≤ Int32.toInt v_12 ∧ Int32.toInt v_12 ≤ 5) from ⟨rfl, by omega⟩)

set_option maxHeartbeats 4000000 in
set_option maxRecDepth 100000 in
theorem ok_setsTurn (q : dS) (p1 : Int32) (p2 : Int32) (p3 : Int32) (p4 : Int32) (hT : TS q) : dOk (zX10_setsTurn q p1 p2 p3 p4) (fun (o : dS) => (TS o) ∧ (dFr [12] [] q o) ∧ (Int32.toInt (o.1 12 0) = Int32.toInt p1)) := by
  unfold zX10_setsTurn
  refine dOk_L (fun q_1 eq_1 => ?_)
  have hTq_1 : TS q_1 := by rw [eq_1]; exact ts_any hT rfl
  have hFq_1 : dFr [12] [] q q_1 := by rw [eq_1]; exact (dFr.rf (q := q)).i (by decide) (by decide)
  refine dOk_L (fun q_2 eq_2 => ?_)
  have hTq_2 : TS q_2 := by rw [eq_2]; exact ts_any hTq_1 rfl
  have hFq_2 : dFr [12] [] q q_2 := by rw [eq_2]; exact hFq_1.i (by decide) (by decide)
  refine dOk_L (fun q_3 eq_3 => ?_)
  have hTq_3 : TS q_3 := by rw [eq_3]; exact ts_any hTq_2 rfl
  have hFq_3 : dFr [12] [] q q_3 := by rw [eq_3]; exact hFq_2.i (by decide) (by decide)
  refine dOk_V (ok_setsAsked q_3 (-1) (-1) p4 hTq_3) (fun q_4 h_5 => ?_)
  replace h_5 : (TS q_4) ∧ (dFr [12] [] q_3 q_4) ∧ (Int32.toInt (q_4.1 12 0) = Int32.toInt (q_3.1 12 0)) ∧ (Int32.toInt (q_4.1 12 1) = Int32.toInt (q_3.1 12 1)) ∧ (Int32.toInt (q_4.1 12 2) = Int32.toInt (q_3.1 12 2)) := h_5
  obtain ⟨i_6, i_7, i_8, i_9, i_10⟩ := h_5
  have hFq_4 : dFr [12] [] q q_4 := hFq_3.t i_7 (by decide) (by decide)
  have w_11 : Int32.toInt (q_1.1 12 0) = Int32.toInt p1 := by rw [eq_1, dui_e]
  have w_12 : Int32.toInt (q_2.1 12 0) = Int32.toInt (q_1.1 12 0) := by rw [eq_2, dui_n (by decide)]
  have w_13 : Int32.toInt (q_3.1 12 0) = Int32.toInt (q_2.1 12 0) := by rw [eq_3, dui_n (by decide)]
  have w_14 : Int32.toInt (q_2.1 12 1) = Int32.toInt p2 := by rw [eq_2, dui_e]
  have w_15 : Int32.toInt (q_3.1 12 1) = Int32.toInt (q_2.1 12 1) := by rw [eq_3, dui_n (by decide)]
  have w_16 : Int32.toInt (q_3.1 12 2) = Int32.toInt p3 := by rw [eq_3, dui_e]
  exact dOk_some (show (TS q_4) ∧ (dFr [12] [] q q_4) ∧ (Int32.toInt (q_4.1 12 0) = Int32.toInt p1) from ⟨i_6, hFq_4, by omega⟩)

set_option maxHeartbeats 4000000 in
set_option maxRecDepth 100000 in
theorem ok_exchanges (q : dS) (p1 : Int32) (p2 : Int32) (hT : TS q) (hp0 : 0 ≤ Int32.toInt p1 ∧ Int32.toInt p1 ≤ 5) (hp1 : 0 ≤ Int32.toInt p2 ∧ Int32.toInt p2 ≤ 5) : dOk (zX10_exchanges q p1 p2) (fun (o : dS) => (TS o) ∧ (dFk [2] [] q o) ∧ (Int32.toInt (o.1 2 12) = Int32.toInt (q.1 2 12)) ∧ (Int32.toInt (o.1 2 13) = Int32.toInt (q.1 2 13)) ∧ (Int32.toInt (o.1 2 29) = Int32.toInt (q.1 2 29))) := by
  unfold zX10_exchanges
  try have t_1 : Int32.toInt (0 + p1) = 0 + Int32.toInt p1 := ti_add (by decide) rfl (by omega) (by omega)
  refine dOk_G (dg_ok (show 0 ≤ Int32.toInt (0 + p1) by omega) (show Int32.toInt (0 + p1) < ((5640 : Nat) : Int) by omega)) ?_
  have n_2 : ((Int32.toNatClampNeg (0 + p1) : Nat) : Int) = Int32.toInt (0 + p1) := cl_eq (by omega)
  refine dOk_L (fun v_3 ev_3 => ?_)
  try have g_4 : klo (Int32.toNatClampNeg (0 + p1)) ≤ Int32.toInt v_3 ∧ Int32.toInt v_3 ≤ khi (Int32.toNatClampNeg (0 + p1)) := by rw [ev_3]; exact te_k hT _
  try have f_5 : 0 ≤ Int32.toInt v_3 ∧ Int32.toInt v_3 ≤ 5 := by rw [ev_3]; exact te_2r hT (by omega) (by omega)
  try have f_6 : 0 ≤ Int32.toInt v_3 ∧ Int32.toInt v_3 ≤ 1 := by rw [ev_3]; exact te_2h hT (by omega) (by omega)
  try have f_7 : 0 ≤ Int32.toInt v_3 ∧ Int32.toInt v_3 ≤ 5 := by rw [ev_3]; exact te_2s hT (by omega) (by omega)
  try have f_8 : 0 ≤ Int32.toInt v_3 ∧ Int32.toInt v_3 ≤ 400 := by rw [ev_3]; exact te_2z hT (by omega) (by omega)
  try have t_9 : Int32.toInt (6 + p1) = 6 + Int32.toInt p1 := ti_add (by decide) rfl (by omega) (by omega)
  refine dOk_G (dg_ok (show 0 ≤ Int32.toInt (6 + p1) by omega) (show Int32.toInt (6 + p1) < ((5640 : Nat) : Int) by omega)) ?_
  have n_10 : ((Int32.toNatClampNeg (6 + p1) : Nat) : Int) = Int32.toInt (6 + p1) := cl_eq (by omega)
  refine dOk_L (fun v_11 ev_11 => ?_)
  try have g_12 : klo (Int32.toNatClampNeg (6 + p1)) ≤ Int32.toInt v_11 ∧ Int32.toInt v_11 ≤ khi (Int32.toNatClampNeg (6 + p1)) := by rw [ev_11]; exact te_k hT _
  try have f_13 : 0 ≤ Int32.toInt v_11 ∧ Int32.toInt v_11 ≤ 5 := by rw [ev_11]; exact te_2r hT (by omega) (by omega)
  try have f_14 : 0 ≤ Int32.toInt v_11 ∧ Int32.toInt v_11 ≤ 1 := by rw [ev_11]; exact te_2h hT (by omega) (by omega)
  try have f_15 : 0 ≤ Int32.toInt v_11 ∧ Int32.toInt v_11 ≤ 5 := by rw [ev_11]; exact te_2s hT (by omega) (by omega)
  try have f_16 : 0 ≤ Int32.toInt v_11 ∧ Int32.toInt v_11 ≤ 400 := by rw [ev_11]; exact te_2z hT (by omega) (by omega)
  try have t_17 : Int32.toInt (0 + p2) = 0 + Int32.toInt p2 := ti_add (by decide) rfl (by omega) (by omega)
  refine dOk_G (dg_ok (show 0 ≤ Int32.toInt (0 + p2) by omega) (show Int32.toInt (0 + p2) < ((5640 : Nat) : Int) by omega)) ?_
  have n_18 : ((Int32.toNatClampNeg (0 + p2) : Nat) : Int) = Int32.toInt (0 + p2) := cl_eq (by omega)
  refine dOk_L (fun v_19 ev_19 => ?_)
  try have g_20 : klo (Int32.toNatClampNeg (0 + p2)) ≤ Int32.toInt v_19 ∧ Int32.toInt v_19 ≤ khi (Int32.toNatClampNeg (0 + p2)) := by rw [ev_19]; exact te_k hT _
  try have f_21 : 0 ≤ Int32.toInt v_19 ∧ Int32.toInt v_19 ≤ 5 := by rw [ev_19]; exact te_2r hT (by omega) (by omega)
  try have f_22 : 0 ≤ Int32.toInt v_19 ∧ Int32.toInt v_19 ≤ 1 := by rw [ev_19]; exact te_2h hT (by omega) (by omega)
  try have f_23 : 0 ≤ Int32.toInt v_19 ∧ Int32.toInt v_19 ≤ 5 := by rw [ev_19]; exact te_2s hT (by omega) (by omega)
  try have f_24 : 0 ≤ Int32.toInt v_19 ∧ Int32.toInt v_19 ≤ 400 := by rw [ev_19]; exact te_2z hT (by omega) (by omega)
  refine dOk_G (dg_ok (show 0 ≤ Int32.toInt (0 + p1) by omega) (show Int32.toInt (0 + p1) < ((5640 : Nat) : Int) by omega)) ?_
  refine dOk_L (fun q_25 eq_25 => ?_)
  have hTq_25 : TS q_25 := by rw [eq_25]; first | exact ts_2c hT (by omega) (show Int32.toNatClampNeg (0 + p1) = Int32.toNatClampNeg (0 + p2) by omega) g_20 | exact ts_set2 hT (by omega) (show klo (Int32.toNatClampNeg (0 + p1)) ≤ Int32.toInt v_19 by unfold klo; omega) (show Int32.toInt v_19 ≤ khi (Int32.toNatClampNeg (0 + p1)) by unfold khi; omega)
  have hFq_25 : dFk [2] [] q q_25 := by rw [eq_25]; exact (dFk.rf (q := q)).k (by omega) (by decide)
  try have t_26 : Int32.toInt (6 + p2) = 6 + Int32.toInt p2 := ti_add (by decide) rfl (by omega) (by omega)
  refine dOk_G (dg_ok (show 0 ≤ Int32.toInt (6 + p2) by omega) (show Int32.toInt (6 + p2) < ((5640 : Nat) : Int) by omega)) ?_
  have n_27 : ((Int32.toNatClampNeg (6 + p2) : Nat) : Int) = Int32.toInt (6 + p2) := cl_eq (by omega)
  refine dOk_L (fun v_28 ev_28 => ?_)
  try have g_29 : klo (Int32.toNatClampNeg (6 + p2)) ≤ Int32.toInt v_28 ∧ Int32.toInt v_28 ≤ khi (Int32.toNatClampNeg (6 + p2)) := by rw [ev_28]; exact te_k hTq_25 _
  try have f_30 : 0 ≤ Int32.toInt v_28 ∧ Int32.toInt v_28 ≤ 5 := by rw [ev_28]; exact te_2r hTq_25 (by omega) (by omega)
  try have f_31 : 0 ≤ Int32.toInt v_28 ∧ Int32.toInt v_28 ≤ 1 := by rw [ev_28]; exact te_2h hTq_25 (by omega) (by omega)
  try have f_32 : 0 ≤ Int32.toInt v_28 ∧ Int32.toInt v_28 ≤ 5 := by rw [ev_28]; exact te_2s hTq_25 (by omega) (by omega)
  try have f_33 : 0 ≤ Int32.toInt v_28 ∧ Int32.toInt v_28 ≤ 400 := by rw [ev_28]; exact te_2z hTq_25 (by omega) (by omega)
  refine dOk_G (dg_ok (show 0 ≤ Int32.toInt (6 + p1) by omega) (show Int32.toInt (6 + p1) < ((5640 : Nat) : Int) by omega)) ?_
  refine dOk_L (fun q_34 eq_34 => ?_)
  have hTq_34 : TS q_34 := by rw [eq_34]; first | exact ts_2c hTq_25 (by omega) (show Int32.toNatClampNeg (6 + p1) = Int32.toNatClampNeg (6 + p2) by omega) g_29 | exact ts_set2 hTq_25 (by omega) (show klo (Int32.toNatClampNeg (6 + p1)) ≤ Int32.toInt v_28 by unfold klo; omega) (show Int32.toInt v_28 ≤ khi (Int32.toNatClampNeg (6 + p1)) by unfold khi; omega)
  have hFq_34 : dFk [2] [] q q_34 := by rw [eq_34]; exact hFq_25.k (by omega) (by decide)
  refine dOk_G (dg_ok (show 0 ≤ Int32.toInt (0 + p2) by omega) (show Int32.toInt (0 + p2) < ((5640 : Nat) : Int) by omega)) ?_
  refine dOk_L (fun q_35 eq_35 => ?_)
  have hTq_35 : TS q_35 := by rw [eq_35]; first | exact ts_2c hTq_34 (by omega) (show Int32.toNatClampNeg (0 + p2) = Int32.toNatClampNeg (0 + p1) by omega) g_4 | exact ts_set2 hTq_34 (by omega) (show klo (Int32.toNatClampNeg (0 + p2)) ≤ Int32.toInt v_3 by unfold klo; omega) (show Int32.toInt v_3 ≤ khi (Int32.toNatClampNeg (0 + p2)) by unfold khi; omega)
  have hFq_35 : dFk [2] [] q q_35 := by rw [eq_35]; exact hFq_34.k (by omega) (by decide)
  refine dOk_G (dg_ok (show 0 ≤ Int32.toInt (6 + p2) by omega) (show Int32.toInt (6 + p2) < ((5640 : Nat) : Int) by omega)) ?_
  refine dOk_L (fun q_36 eq_36 => ?_)
  have hTq_36 : TS q_36 := by rw [eq_36]; first | exact ts_2c hTq_35 (by omega) (show Int32.toNatClampNeg (6 + p2) = Int32.toNatClampNeg (6 + p1) by omega) g_12 | exact ts_set2 hTq_35 (by omega) (show klo (Int32.toNatClampNeg (6 + p2)) ≤ Int32.toInt v_11 by unfold klo; omega) (show Int32.toInt v_11 ≤ khi (Int32.toNatClampNeg (6 + p2)) by unfold khi; omega)
  have hFq_36 : dFk [2] [] q q_36 := by rw [eq_36]; exact hFq_35.k (by omega) (by decide)
  have f_37 : 0 ≤ Int32.toInt (q_36.1 2 12) ∧ Int32.toInt (q_36.1 2 12) ≤ 9999 := hTq_36.1 2 12
  have f_38 : 0 ≤ Int32.toInt (q_35.1 2 12) ∧ Int32.toInt (q_35.1 2 12) ≤ 9999 := hTq_35.1 2 12
  have f_39 : 0 ≤ Int32.toInt (q_34.1 2 12) ∧ Int32.toInt (q_34.1 2 12) ≤ 9999 := hTq_34.1 2 12
  have f_40 : 0 ≤ Int32.toInt (q_25.1 2 12) ∧ Int32.toInt (q_25.1 2 12) ≤ 9999 := hTq_25.1 2 12
  have f_41 : 0 ≤ Int32.toInt (q.1 2 12) ∧ Int32.toInt (q.1 2 12) ≤ 9999 := hT.1 2 12
  try have w_42 : Int32.toInt (q_25.1 2 12) = Int32.toInt (q.1 2 12) := by rw [eq_25, dui_n (by omega)]
  try have w_43 : Int32.toInt (q_34.1 2 12) = Int32.toInt (q_25.1 2 12) := by rw [eq_34, dui_n (by omega)]
  try have w_44 : Int32.toInt (q_35.1 2 12) = Int32.toInt (q_34.1 2 12) := by rw [eq_35, dui_n (by omega)]
  try have w_45 : Int32.toInt (q_36.1 2 12) = Int32.toInt (q_35.1 2 12) := by rw [eq_36, dui_n (by omega)]
  have f_46 : 0 ≤ Int32.toInt (q_36.1 2 13) ∧ Int32.toInt (q_36.1 2 13) ≤ 999 := hTq_36.1 2 13
  have f_47 : 0 ≤ Int32.toInt (q_35.1 2 13) ∧ Int32.toInt (q_35.1 2 13) ≤ 999 := hTq_35.1 2 13
  have f_48 : 0 ≤ Int32.toInt (q_34.1 2 13) ∧ Int32.toInt (q_34.1 2 13) ≤ 999 := hTq_34.1 2 13
  have f_49 : 0 ≤ Int32.toInt (q_25.1 2 13) ∧ Int32.toInt (q_25.1 2 13) ≤ 999 := hTq_25.1 2 13
  have f_50 : 0 ≤ Int32.toInt (q.1 2 13) ∧ Int32.toInt (q.1 2 13) ≤ 999 := hT.1 2 13
  try have w_51 : Int32.toInt (q_25.1 2 13) = Int32.toInt (q.1 2 13) := by rw [eq_25, dui_n (by omega)]
  try have w_52 : Int32.toInt (q_34.1 2 13) = Int32.toInt (q_25.1 2 13) := by rw [eq_34, dui_n (by omega)]
  try have w_53 : Int32.toInt (q_35.1 2 13) = Int32.toInt (q_34.1 2 13) := by rw [eq_35, dui_n (by omega)]
  try have w_54 : Int32.toInt (q_36.1 2 13) = Int32.toInt (q_35.1 2 13) := by rw [eq_36, dui_n (by omega)]
  have f_55 : 0 ≤ Int32.toInt (q_36.1 2 29) ∧ Int32.toInt (q_36.1 2 29) ≤ 6 := hTq_36.1 2 29
  have f_56 : 0 ≤ Int32.toInt (q_35.1 2 29) ∧ Int32.toInt (q_35.1 2 29) ≤ 6 := hTq_35.1 2 29
  have f_57 : 0 ≤ Int32.toInt (q_34.1 2 29) ∧ Int32.toInt (q_34.1 2 29) ≤ 6 := hTq_34.1 2 29
  have f_58 : 0 ≤ Int32.toInt (q_25.1 2 29) ∧ Int32.toInt (q_25.1 2 29) ≤ 6 := hTq_25.1 2 29
  have f_59 : 0 ≤ Int32.toInt (q.1 2 29) ∧ Int32.toInt (q.1 2 29) ≤ 6 := hT.1 2 29
  try have w_60 : Int32.toInt (q_25.1 2 29) = Int32.toInt (q.1 2 29) := by rw [eq_25, dui_n (by omega)]
  try have w_61 : Int32.toInt (q_34.1 2 29) = Int32.toInt (q_25.1 2 29) := by rw [eq_34, dui_n (by omega)]
  try have w_62 : Int32.toInt (q_35.1 2 29) = Int32.toInt (q_34.1 2 29) := by rw [eq_35, dui_n (by omega)]
  try have w_63 : Int32.toInt (q_36.1 2 29) = Int32.toInt (q_35.1 2 29) := by rw [eq_36, dui_n (by omega)]
  exact dOk_some (show (TS q_36) ∧ (dFk [2] [] q q_36) ∧ (Int32.toInt (q_36.1 2 12) = Int32.toInt (q.1 2 12)) ∧ (Int32.toInt (q_36.1 2 13) = Int32.toInt (q.1 2 13)) ∧ (Int32.toInt (q_36.1 2 29) = Int32.toInt (q.1 2 29)) from ⟨hTq_36, hFq_36, by omega, by omega, by omega⟩)
