set_option maxHeartbeats 4000000 in
set_option maxRecDepth 100000 in
theorem ok_gaps (q : dS) (hT : TS q) : dOk (zX10_gaps q) (fun (o : Int32 × dS) => (o.2 = q)) := by
  unfold zX10_gaps
  refine dOk_B (ok_size q hT) (fun r_1 q_2 h_3 => ?_)
  have h_3 : (q_2 = q) ∧ (Int32.toInt r_1 = Int32.toInt (q.1 2 29)) ∧ (0 ≤ Int32.toInt r_1 ∧ Int32.toInt r_1 ≤ 6) := h_3
  obtain ⟨i_4, i_5, i_6⟩ := h_3
  subst q_2
  have f_7 : 0 ≤ Int32.toInt (q.1 2 29) ∧ Int32.toInt (q.1 2 29) ≤ 6 := hT.1 2 29
  refine dOk_le (A := Int32.toInt r_1) (B := 0) rfl (by decide) (fun c_8 => ?_) (fun c_9 => ?_)
  · unfold zX10_gaps_37
    unfold zX10_gaps_38
    unfold zX10_gaps_41
    refine dFix_ok (fun (a : dS × Int32 × Int32) => (a.1 = q) ∧ (0 ≤ Int32.toInt a.2.2) ∧ (Int32.toInt a.2.2 ≤ 6)) (fun (a : dS × Int32 × Int32) => (6 - Int32.toInt a.2.2).toNat) ?_ _ ?_ _ (dF_gt ?_)
    · intro a ha k_11 hk_10
      obtain ⟨q_12, x1_13, x2_14⟩ := a
      have ha : (q_12 = q) ∧ (0 ≤ Int32.toInt x2_14) ∧ (Int32.toInt x2_14 ≤ 6) := ha
      obtain ⟨a_15, a_16, a_17⟩ := ha
      show dOk (zX10_gaps_41b  (fun q x1 x2 => k_11 (q, x1, x2)) q_12 x1_13 x2_14) _
      unfold zX10_gaps_41b
      subst q_12
      refine dOk_B (ok_size q hT) (fun r_18 q_19 h_20 => ?_)
      have h_20 : (q_19 = q) ∧ (Int32.toInt r_18 = Int32.toInt (q.1 2 29)) ∧ (0 ≤ Int32.toInt r_18 ∧ Int32.toInt r_18 ≤ 6) := h_20
      obtain ⟨i_21, i_22, i_23⟩ := h_20
      subst q_19
      try have t_24 : Int32.toInt (x2_14 + 1) = Int32.toInt x2_14 + 1 := ti_add rfl (by decide) (by omega) (by omega)
      refine dOk_le (A := Int32.toInt r_18) (B := Int32.toInt (x2_14 + 1)) rfl rfl (fun c_25 => ?_) (fun c_26 => ?_)
      · exact dOk_some (show (q = q) from rfl)
      · try have t_27 : Int32.toInt (0 + x2_14) = 0 + Int32.toInt x2_14 := ti_add (by decide) rfl (by omega) (by omega)
        refine dOk_G (dg_ok (show 0 ≤ Int32.toInt (0 + x2_14) by omega) (show Int32.toInt (0 + x2_14) < ((5640 : Nat) : Int) by omega)) ?_
        have n_28 : ((Int32.toNatClampNeg (0 + x2_14) : Nat) : Int) = Int32.toInt (0 + x2_14) := cl_eq (by omega)
        refine dOk_L (fun v_29 ev_29 => ?_)
        try have g_30 : klo (Int32.toNatClampNeg (0 + x2_14)) ≤ Int32.toInt v_29 ∧ Int32.toInt v_29 ≤ khi (Int32.toNatClampNeg (0 + x2_14)) := by rw [ev_29]; exact te_k hT _
        try have f_31 : 0 ≤ Int32.toInt v_29 ∧ Int32.toInt v_29 ≤ 5 := by rw [ev_29]; exact te_2r hT (by omega) (by omega)
        try have f_32 : 0 ≤ Int32.toInt v_29 ∧ Int32.toInt v_29 ≤ 1 := by rw [ev_29]; exact te_2h hT (by omega) (by omega)
        try have f_33 : 0 ≤ Int32.toInt v_29 ∧ Int32.toInt v_29 ≤ 5 := by rw [ev_29]; exact te_2s hT (by omega) (by omega)
        try have f_34 : 0 ≤ Int32.toInt v_29 ∧ Int32.toInt v_29 ≤ 400 := by rw [ev_29]; exact te_2z hT (by omega) (by omega)
        refine dOk_B (ok_lessThan q v_29 hT) (fun r_35 q_36 h_37 => ?_)
        have h_37 : (q_36 = q) ∧ (0 ≤ Int32.toInt r_35 ∧ Int32.toInt r_35 ≤ 6) := h_37
        obtain ⟨i_38, i_39⟩ := h_37
        subst q_36
        try have t_40 : Int32.toInt (0 + x2_14 + 1) = Int32.toInt (0 + x2_14) + 1 := ti_add rfl (by decide) (by omega) (by omega)
        refine dOk_G (dg_ok (show 0 ≤ Int32.toInt (0 + x2_14 + 1) by omega) (show Int32.toInt (0 + x2_14 + 1) < ((5640 : Nat) : Int) by omega)) ?_
        have n_41 : ((Int32.toNatClampNeg (0 + x2_14 + 1) : Nat) : Int) = Int32.toInt (0 + x2_14 + 1) := cl_eq (by omega)
        refine dOk_L (fun v_42 ev_42 => ?_)
        try have g_43 : klo (Int32.toNatClampNeg (0 + x2_14 + 1)) ≤ Int32.toInt v_42 ∧ Int32.toInt v_42 ≤ khi (Int32.toNatClampNeg (0 + x2_14 + 1)) := by rw [ev_42]; exact te_k hT _
        try have f_44 : 0 ≤ Int32.toInt v_42 ∧ Int32.toInt v_42 ≤ 5 := by rw [ev_42]; exact te_2r hT (by omega) (by omega)
        try have f_45 : 0 ≤ Int32.toInt v_42 ∧ Int32.toInt v_42 ≤ 1 := by rw [ev_42]; exact te_2h hT (by omega) (by omega)
        try have f_46 : 0 ≤ Int32.toInt v_42 ∧ Int32.toInt v_42 ≤ 5 := by rw [ev_42]; exact te_2s hT (by omega) (by omega)
        try have f_47 : 0 ≤ Int32.toInt v_42 ∧ Int32.toInt v_42 ≤ 400 := by rw [ev_42]; exact te_2z hT (by omega) (by omega)
        refine dOk_B (ok_lessThan q v_42 hT) (fun r_48 q_49 h_50 => ?_)
        have h_50 : (q_49 = q) ∧ (0 ≤ Int32.toInt r_48 ∧ Int32.toInt r_48 ≤ 6) := h_50
        obtain ⟨i_51, i_52⟩ := h_50
        subst q_49
        try have t_53 : Int32.toInt (r_35 - r_48) = Int32.toInt r_35 - Int32.toInt r_48 := ti_sub rfl rfl (by omega) (by omega)
        refine dOk_eq (A := Int32.toInt (r_35 - r_48)) (B := 1) rfl (by decide) (fun c_54z c_54 => ?_) (fun c_55z c_55 => ?_)
        · unfold zX10_gaps_90
          unfold zX10_gaps_95
          try have t_57 : Int32.toInt (x1_13 + 0) = Int32.toInt x1_13 + 0 := ti_add rfl (by decide) (by omega) (by omega)
          exact hk_10 (q, (x1_13 + 0), (x2_14 + 1)) (show (q = q) ∧ (0 ≤ Int32.toInt (x2_14 + 1)) ∧ (Int32.toInt (x2_14 + 1) ≤ 6) from ⟨rfl, by omega, by omega⟩) (show (6 - Int32.toInt (x2_14 + 1)).toNat < (6 - Int32.toInt x2_14).toNat by omega)
        · refine dOk_eq (A := Int32.toInt (r_35 - r_48)) (B := (-1)) rfl (by decide) (fun c_58z c_58 => ?_) (fun c_59z c_59 => ?_)
          · unfold zX10_gaps_90
            unfold zX10_gaps_95
            try have t_61 : Int32.toInt (x1_13 + 0) = Int32.toInt x1_13 + 0 := ti_add rfl (by decide) (by omega) (by omega)
            exact hk_10 (q, (x1_13 + 0), (x2_14 + 1)) (show (q = q) ∧ (0 ≤ Int32.toInt (x2_14 + 1)) ∧ (Int32.toInt (x2_14 + 1) ≤ 6) from ⟨rfl, by omega, by omega⟩) (show (6 - Int32.toInt (x2_14 + 1)).toNat < (6 - Int32.toInt x2_14).toNat by omega)
          · unfold zX10_gaps_95
            try have t_62 : Int32.toInt (x1_13 + 1) = Int32.toInt x1_13 + 1 := ti_add rfl (by decide) (by omega) (by omega)
            exact hk_10 (q, (x1_13 + 1), (x2_14 + 1)) (show (q = q) ∧ (0 ≤ Int32.toInt (x2_14 + 1)) ∧ (Int32.toInt (x2_14 + 1) ≤ 6) from ⟨rfl, by omega, by omega⟩) (show (6 - Int32.toInt (x2_14 + 1)).toNat < (6 - Int32.toInt x2_14).toNat by omega)
    · have l_63 : Int32.toInt 0 = 0 := by decide
      exact (show (q = q) ∧ (0 ≤ Int32.toInt 0) ∧ (Int32.toInt 0 ≤ 6) from ⟨rfl, by omega, by omega⟩)
    · have l_64 : Int32.toInt 0 = 0 := by decide
      show (6 - Int32.toInt 0).toNat < 1000000000000
      omega
  · refine dOk_B (ok_size q hT) (fun r_65 q_66 h_67 => ?_)
    have h_67 : (q_66 = q) ∧ (Int32.toInt r_65 = Int32.toInt (q.1 2 29)) ∧ (0 ≤ Int32.toInt r_65 ∧ Int32.toInt r_65 ≤ 6) := h_67
    obtain ⟨i_68, i_69, i_70⟩ := h_67
    subst q_66
    try have t_71 : Int32.toInt (0 + r_65) = 0 + Int32.toInt r_65 := ti_add (by decide) rfl (by omega) (by omega)
    try have t_72 : Int32.toInt (0 + r_65 - 1) = Int32.toInt (0 + r_65) - 1 := ti_sub rfl (by decide) (by omega) (by omega)
    refine dOk_G (dg_ok (show 0 ≤ Int32.toInt (0 + r_65 - 1) by omega) (show Int32.toInt (0 + r_65 - 1) < ((5640 : Nat) : Int) by omega)) ?_
    have n_73 : ((Int32.toNatClampNeg (0 + r_65 - 1) : Nat) : Int) = Int32.toInt (0 + r_65 - 1) := cl_eq (by omega)
    refine dOk_L (fun v_74 ev_74 => ?_)
    try have g_75 : klo (Int32.toNatClampNeg (0 + r_65 - 1)) ≤ Int32.toInt v_74 ∧ Int32.toInt v_74 ≤ khi (Int32.toNatClampNeg (0 + r_65 - 1)) := by rw [ev_74]; exact te_k hT _
    try have f_76 : 0 ≤ Int32.toInt v_74 ∧ Int32.toInt v_74 ≤ 5 := by rw [ev_74]; exact te_2r hT (by omega) (by omega)
    try have f_77 : 0 ≤ Int32.toInt v_74 ∧ Int32.toInt v_74 ≤ 1 := by rw [ev_74]; exact te_2h hT (by omega) (by omega)
    try have f_78 : 0 ≤ Int32.toInt v_74 ∧ Int32.toInt v_74 ≤ 5 := by rw [ev_74]; exact te_2s hT (by omega) (by omega)
    try have f_79 : 0 ≤ Int32.toInt v_74 ∧ Int32.toInt v_74 ≤ 400 := by rw [ev_74]; exact te_2z hT (by omega) (by omega)
    refine dOk_B (ok_lessThan q v_74 hT) (fun r_80 q_81 h_82 => ?_)
    have h_82 : (q_81 = q) ∧ (0 ≤ Int32.toInt r_80 ∧ Int32.toInt r_80 ≤ 6) := h_82
    obtain ⟨i_83, i_84⟩ := h_82
    subst q_81
    refine dOk_B (ok_size q hT) (fun r_85 q_86 h_87 => ?_)
    have h_87 : (q_86 = q) ∧ (Int32.toInt r_85 = Int32.toInt (q.1 2 29)) ∧ (0 ≤ Int32.toInt r_85 ∧ Int32.toInt r_85 ≤ 6) := h_87
    obtain ⟨i_88, i_89, i_90⟩ := h_87
    subst q_86
    try have t_91 : Int32.toInt (r_85 - 1) = Int32.toInt r_85 - 1 := ti_sub rfl (by decide) (by omega) (by omega)
    refine dOk_le (A := Int32.toInt (r_85 - 1)) (B := Int32.toInt r_80) rfl rfl (fun c_92 => ?_) (fun c_93 => ?_)
    · unfold zX10_gaps_37
      unfold zX10_gaps_38
      unfold zX10_gaps_41
      refine dFix_ok (fun (a : dS × Int32 × Int32) => (a.1 = q) ∧ (0 ≤ Int32.toInt a.2.2) ∧ (Int32.toInt a.2.2 ≤ 6)) (fun (a : dS × Int32 × Int32) => (6 - Int32.toInt a.2.2).toNat) ?_ _ ?_ _ (dF_gt ?_)
      · intro a ha k_95 hk_94
        obtain ⟨q_96, x1_97, x2_98⟩ := a
        have ha : (q_96 = q) ∧ (0 ≤ Int32.toInt x2_98) ∧ (Int32.toInt x2_98 ≤ 6) := ha
        obtain ⟨a_99, a_100, a_101⟩ := ha
        show dOk (zX10_gaps_41b  (fun q x1 x2 => k_95 (q, x1, x2)) q_96 x1_97 x2_98) _
        unfold zX10_gaps_41b
        subst q_96
        refine dOk_B (ok_size q hT) (fun r_102 q_103 h_104 => ?_)
        have h_104 : (q_103 = q) ∧ (Int32.toInt r_102 = Int32.toInt (q.1 2 29)) ∧ (0 ≤ Int32.toInt r_102 ∧ Int32.toInt r_102 ≤ 6) := h_104
        obtain ⟨i_105, i_106, i_107⟩ := h_104
        subst q_103
        try have t_108 : Int32.toInt (x2_98 + 1) = Int32.toInt x2_98 + 1 := ti_add rfl (by decide) (by omega) (by omega)
        refine dOk_le (A := Int32.toInt r_102) (B := Int32.toInt (x2_98 + 1)) rfl rfl (fun c_109 => ?_) (fun c_110 => ?_)
        · exact dOk_some (show (q = q) from rfl)
        · try have t_111 : Int32.toInt (0 + x2_98) = 0 + Int32.toInt x2_98 := ti_add (by decide) rfl (by omega) (by omega)
          refine dOk_G (dg_ok (show 0 ≤ Int32.toInt (0 + x2_98) by omega) (show Int32.toInt (0 + x2_98) < ((5640 : Nat) : Int) by omega)) ?_
          have n_112 : ((Int32.toNatClampNeg (0 + x2_98) : Nat) : Int) = Int32.toInt (0 + x2_98) := cl_eq (by omega)
          refine dOk_L (fun v_113 ev_113 => ?_)
          try have g_114 : klo (Int32.toNatClampNeg (0 + x2_98)) ≤ Int32.toInt v_113 ∧ Int32.toInt v_113 ≤ khi (Int32.toNatClampNeg (0 + x2_98)) := by rw [ev_113]; exact te_k hT _
          try have f_115 : 0 ≤ Int32.toInt v_113 ∧ Int32.toInt v_113 ≤ 5 := by rw [ev_113]; exact te_2r hT (by omega) (by omega)
          try have f_116 : 0 ≤ Int32.toInt v_113 ∧ Int32.toInt v_113 ≤ 1 := by rw [ev_113]; exact te_2h hT (by omega) (by omega)
          try have f_117 : 0 ≤ Int32.toInt v_113 ∧ Int32.toInt v_113 ≤ 5 := by rw [ev_113]; exact te_2s hT (by omega) (by omega)
          try have f_118 : 0 ≤ Int32.toInt v_113 ∧ Int32.toInt v_113 ≤ 400 := by rw [ev_113]; exact te_2z hT (by omega) (by omega)
          refine dOk_B (ok_lessThan q v_113 hT) (fun r_119 q_120 h_121 => ?_)
          have h_121 : (q_120 = q) ∧ (0 ≤ Int32.toInt r_119 ∧ Int32.toInt r_119 ≤ 6) := h_121
          obtain ⟨i_122, i_123⟩ := h_121
          subst q_120
          try have t_124 : Int32.toInt (0 + x2_98 + 1) = Int32.toInt (0 + x2_98) + 1 := ti_add rfl (by decide) (by omega) (by omega)
          refine dOk_G (dg_ok (show 0 ≤ Int32.toInt (0 + x2_98 + 1) by omega) (show Int32.toInt (0 + x2_98 + 1) < ((5640 : Nat) : Int) by omega)) ?_
          have n_125 : ((Int32.toNatClampNeg (0 + x2_98 + 1) : Nat) : Int) = Int32.toInt (0 + x2_98 + 1) := cl_eq (by omega)
          refine dOk_L (fun v_126 ev_126 => ?_)
          try have g_127 : klo (Int32.toNatClampNeg (0 + x2_98 + 1)) ≤ Int32.toInt v_126 ∧ Int32.toInt v_126 ≤ khi (Int32.toNatClampNeg (0 + x2_98 + 1)) := by rw [ev_126]; exact te_k hT _
          try have f_128 : 0 ≤ Int32.toInt v_126 ∧ Int32.toInt v_126 ≤ 5 := by rw [ev_126]; exact te_2r hT (by omega) (by omega)
          try have f_129 : 0 ≤ Int32.toInt v_126 ∧ Int32.toInt v_126 ≤ 1 := by rw [ev_126]; exact te_2h hT (by omega) (by omega)
          try have f_130 : 0 ≤ Int32.toInt v_126 ∧ Int32.toInt v_126 ≤ 5 := by rw [ev_126]; exact te_2s hT (by omega) (by omega)
          try have f_131 : 0 ≤ Int32.toInt v_126 ∧ Int32.toInt v_126 ≤ 400 := by rw [ev_126]; exact te_2z hT (by omega) (by omega)
          refine dOk_B (ok_lessThan q v_126 hT) (fun r_132 q_133 h_134 => ?_)
          have h_134 : (q_133 = q) ∧ (0 ≤ Int32.toInt r_132 ∧ Int32.toInt r_132 ≤ 6) := h_134
          obtain ⟨i_135, i_136⟩ := h_134
          subst q_133
          try have t_137 : Int32.toInt (r_119 - r_132) = Int32.toInt r_119 - Int32.toInt r_132 := ti_sub rfl rfl (by omega) (by omega)
          refine dOk_eq (A := Int32.toInt (r_119 - r_132)) (B := 1) rfl (by decide) (fun c_138z c_138 => ?_) (fun c_139z c_139 => ?_)
          · unfold zX10_gaps_90
            unfold zX10_gaps_95
            try have t_141 : Int32.toInt (x1_97 + 0) = Int32.toInt x1_97 + 0 := ti_add rfl (by decide) (by omega) (by omega)
            exact hk_94 (q, (x1_97 + 0), (x2_98 + 1)) (show (q = q) ∧ (0 ≤ Int32.toInt (x2_98 + 1)) ∧ (Int32.toInt (x2_98 + 1) ≤ 6) from ⟨rfl, by omega, by omega⟩) (show (6 - Int32.toInt (x2_98 + 1)).toNat < (6 - Int32.toInt x2_98).toNat by omega)
          · refine dOk_eq (A := Int32.toInt (r_119 - r_132)) (B := (-1)) rfl (by decide) (fun c_142z c_142 => ?_) (fun c_143z c_143 => ?_)
            · unfold zX10_gaps_90
              unfold zX10_gaps_95
              try have t_145 : Int32.toInt (x1_97 + 0) = Int32.toInt x1_97 + 0 := ti_add rfl (by decide) (by omega) (by omega)
              exact hk_94 (q, (x1_97 + 0), (x2_98 + 1)) (show (q = q) ∧ (0 ≤ Int32.toInt (x2_98 + 1)) ∧ (Int32.toInt (x2_98 + 1) ≤ 6) from ⟨rfl, by omega, by omega⟩) (show (6 - Int32.toInt (x2_98 + 1)).toNat < (6 - Int32.toInt x2_98).toNat by omega)
            · unfold zX10_gaps_95
              try have t_146 : Int32.toInt (x1_97 + 1) = Int32.toInt x1_97 + 1 := ti_add rfl (by decide) (by omega) (by omega)
              exact hk_94 (q, (x1_97 + 1), (x2_98 + 1)) (show (q = q) ∧ (0 ≤ Int32.toInt (x2_98 + 1)) ∧ (Int32.toInt (x2_98 + 1) ≤ 6) from ⟨rfl, by omega, by omega⟩) (show (6 - Int32.toInt (x2_98 + 1)).toNat < (6 - Int32.toInt x2_98).toNat by omega)
      · have l_147 : Int32.toInt 0 = 0 := by decide
        exact (show (q = q) ∧ (0 ≤ Int32.toInt 0) ∧ (Int32.toInt 0 ≤ 6) from ⟨rfl, by omega, by omega⟩)
      · have l_148 : Int32.toInt 0 = 0 := by decide
        show (6 - Int32.toInt 0).toNat < 1000000000000
        omega
    · unfold zX10_gaps_38
      unfold zX10_gaps_41
      refine dFix_ok (fun (a : dS × Int32 × Int32) => (a.1 = q) ∧ (0 ≤ Int32.toInt a.2.2) ∧ (Int32.toInt a.2.2 ≤ 6)) (fun (a : dS × Int32 × Int32) => (6 - Int32.toInt a.2.2).toNat) ?_ _ ?_ _ (dF_gt ?_)
      · intro a ha k_150 hk_149
        obtain ⟨q_151, x1_152, x2_153⟩ := a
        have ha : (q_151 = q) ∧ (0 ≤ Int32.toInt x2_153) ∧ (Int32.toInt x2_153 ≤ 6) := ha
        obtain ⟨a_154, a_155, a_156⟩ := ha
        show dOk (zX10_gaps_41b  (fun q x1 x2 => k_150 (q, x1, x2)) q_151 x1_152 x2_153) _
        unfold zX10_gaps_41b
        subst q_151
        refine dOk_B (ok_size q hT) (fun r_157 q_158 h_159 => ?_)
        have h_159 : (q_158 = q) ∧ (Int32.toInt r_157 = Int32.toInt (q.1 2 29)) ∧ (0 ≤ Int32.toInt r_157 ∧ Int32.toInt r_157 ≤ 6) := h_159
        obtain ⟨i_160, i_161, i_162⟩ := h_159
        subst q_158
        try have t_163 : Int32.toInt (x2_153 + 1) = Int32.toInt x2_153 + 1 := ti_add rfl (by decide) (by omega) (by omega)
        refine dOk_le (A := Int32.toInt r_157) (B := Int32.toInt (x2_153 + 1)) rfl rfl (fun c_164 => ?_) (fun c_165 => ?_)
        · exact dOk_some (show (q = q) from rfl)
        · try have t_166 : Int32.toInt (0 + x2_153) = 0 + Int32.toInt x2_153 := ti_add (by decide) rfl (by omega) (by omega)
          refine dOk_G (dg_ok (show 0 ≤ Int32.toInt (0 + x2_153) by omega) (show Int32.toInt (0 + x2_153) < ((5640 : Nat) : Int) by omega)) ?_
          have n_167 : ((Int32.toNatClampNeg (0 + x2_153) : Nat) : Int) = Int32.toInt (0 + x2_153) := cl_eq (by omega)
          refine dOk_L (fun v_168 ev_168 => ?_)
          try have g_169 : klo (Int32.toNatClampNeg (0 + x2_153)) ≤ Int32.toInt v_168 ∧ Int32.toInt v_168 ≤ khi (Int32.toNatClampNeg (0 + x2_153)) := by rw [ev_168]; exact te_k hT _
          try have f_170 : 0 ≤ Int32.toInt v_168 ∧ Int32.toInt v_168 ≤ 5 := by rw [ev_168]; exact te_2r hT (by omega) (by omega)
          try have f_171 : 0 ≤ Int32.toInt v_168 ∧ Int32.toInt v_168 ≤ 1 := by rw [ev_168]; exact te_2h hT (by omega) (by omega)
          try have f_172 : 0 ≤ Int32.toInt v_168 ∧ Int32.toInt v_168 ≤ 5 := by rw [ev_168]; exact te_2s hT (by omega) (by omega)
          try have f_173 : 0 ≤ Int32.toInt v_168 ∧ Int32.toInt v_168 ≤ 400 := by rw [ev_168]; exact te_2z hT (by omega) (by omega)
          refine dOk_B (ok_lessThan q v_168 hT) (fun r_174 q_175 h_176 => ?_)
          have h_176 : (q_175 = q) ∧ (0 ≤ Int32.toInt r_174 ∧ Int32.toInt r_174 ≤ 6) := h_176
          obtain ⟨i_177, i_178⟩ := h_176
          subst q_175
          try have t_179 : Int32.toInt (0 + x2_153 + 1) = Int32.toInt (0 + x2_153) + 1 := ti_add rfl (by decide) (by omega) (by omega)
          refine dOk_G (dg_ok (show 0 ≤ Int32.toInt (0 + x2_153 + 1) by omega) (show Int32.toInt (0 + x2_153 + 1) < ((5640 : Nat) : Int) by omega)) ?_
          have n_180 : ((Int32.toNatClampNeg (0 + x2_153 + 1) : Nat) : Int) = Int32.toInt (0 + x2_153 + 1) := cl_eq (by omega)
          refine dOk_L (fun v_181 ev_181 => ?_)
          try have g_182 : klo (Int32.toNatClampNeg (0 + x2_153 + 1)) ≤ Int32.toInt v_181 ∧ Int32.toInt v_181 ≤ khi (Int32.toNatClampNeg (0 + x2_153 + 1)) := by rw [ev_181]; exact te_k hT _
          try have f_183 : 0 ≤ Int32.toInt v_181 ∧ Int32.toInt v_181 ≤ 5 := by rw [ev_181]; exact te_2r hT (by omega) (by omega)
          try have f_184 : 0 ≤ Int32.toInt v_181 ∧ Int32.toInt v_181 ≤ 1 := by rw [ev_181]; exact te_2h hT (by omega) (by omega)
          try have f_185 : 0 ≤ Int32.toInt v_181 ∧ Int32.toInt v_181 ≤ 5 := by rw [ev_181]; exact te_2s hT (by omega) (by omega)
          try have f_186 : 0 ≤ Int32.toInt v_181 ∧ Int32.toInt v_181 ≤ 400 := by rw [ev_181]; exact te_2z hT (by omega) (by omega)
          refine dOk_B (ok_lessThan q v_181 hT) (fun r_187 q_188 h_189 => ?_)
          have h_189 : (q_188 = q) ∧ (0 ≤ Int32.toInt r_187 ∧ Int32.toInt r_187 ≤ 6) := h_189
          obtain ⟨i_190, i_191⟩ := h_189
          subst q_188
          try have t_192 : Int32.toInt (r_174 - r_187) = Int32.toInt r_174 - Int32.toInt r_187 := ti_sub rfl rfl (by omega) (by omega)
          refine dOk_eq (A := Int32.toInt (r_174 - r_187)) (B := 1) rfl (by decide) (fun c_193z c_193 => ?_) (fun c_194z c_194 => ?_)
          · unfold zX10_gaps_90
            unfold zX10_gaps_95
            try have t_196 : Int32.toInt (x1_152 + 0) = Int32.toInt x1_152 + 0 := ti_add rfl (by decide) (by omega) (by omega)
            exact hk_149 (q, (x1_152 + 0), (x2_153 + 1)) (show (q = q) ∧ (0 ≤ Int32.toInt (x2_153 + 1)) ∧ (Int32.toInt (x2_153 + 1) ≤ 6) from ⟨rfl, by omega, by omega⟩) (show (6 - Int32.toInt (x2_153 + 1)).toNat < (6 - Int32.toInt x2_153).toNat by omega)
          · refine dOk_eq (A := Int32.toInt (r_174 - r_187)) (B := (-1)) rfl (by decide) (fun c_197z c_197 => ?_) (fun c_198z c_198 => ?_)
            · unfold zX10_gaps_90
              unfold zX10_gaps_95
              try have t_200 : Int32.toInt (x1_152 + 0) = Int32.toInt x1_152 + 0 := ti_add rfl (by decide) (by omega) (by omega)
              exact hk_149 (q, (x1_152 + 0), (x2_153 + 1)) (show (q = q) ∧ (0 ≤ Int32.toInt (x2_153 + 1)) ∧ (Int32.toInt (x2_153 + 1) ≤ 6) from ⟨rfl, by omega, by omega⟩) (show (6 - Int32.toInt (x2_153 + 1)).toNat < (6 - Int32.toInt x2_153).toNat by omega)
            · unfold zX10_gaps_95
              try have t_201 : Int32.toInt (x1_152 + 1) = Int32.toInt x1_152 + 1 := ti_add rfl (by decide) (by omega) (by omega)
              exact hk_149 (q, (x1_152 + 1), (x2_153 + 1)) (show (q = q) ∧ (0 ≤ Int32.toInt (x2_153 + 1)) ∧ (Int32.toInt (x2_153 + 1) ≤ 6) from ⟨rfl, by omega, by omega⟩) (show (6 - Int32.toInt (x2_153 + 1)).toNat < (6 - Int32.toInt x2_153).toNat by omega)
      · have l_202 : Int32.toInt 1 = 1 := by decide
        have l_203 : Int32.toInt 0 = 0 := by decide
        exact (show (q = q) ∧ (0 ≤ Int32.toInt 0) ∧ (Int32.toInt 0 ≤ 6) from ⟨rfl, by omega, by omega⟩)
      · have l_204 : Int32.toInt 1 = 1 := by decide
        have l_205 : Int32.toInt 0 = 0 := by decide
        show (6 - Int32.toInt 0).toNat < 1000000000000
        omega

set_option maxHeartbeats 4000000 in
set_option maxRecDepth 100000 in
theorem ok_orderValue (q : dS) (p1 : Int32) (p2 : Int32) (hT : TS q) : dOk (zX10_orderValue q p1 p2) (fun (o : Int32 × dS) => (o.2 = q)) := by
  unfold zX10_orderValue
  refine dOk_eq (A := Int32.toInt p1) (B := 15) rfl (by decide) (fun c_1z c_1 => ?_) (fun c_2z c_2 => ?_)
  · refine dOk_B (ok_isPlace q p2 hT) (fun r_4 q_5 h_6 => ?_)
    have h_6 : (q_5 = q) ∧ ((Int32.toInt r_4 = 1 ∧ 0 ≤ Int32.toInt p2 ∧ Int32.toInt p2 < Int32.toInt (q.1 2 29)) ∨ (Int32.toInt r_4 = 0 ∧ (Int32.toInt p2 < 0 ∨ Int32.toInt (q.1 2 29) ≤ Int32.toInt p2))) := h_6
    obtain ⟨i_7, i_8⟩ := h_6
    subst q_5
    have f_9 : 0 ≤ Int32.toInt (q.1 2 29) ∧ Int32.toInt (q.1 2 29) ≤ 6 := hT.1 2 29
    refine dOk_eq (A := Int32.toInt r_4) (B := 0) rfl (by decide) (fun c_10z c_10 => ?_) (fun c_11z c_11 => ?_)
    · unfold zX10_orderValue_65
      have l_13 : Int32.toInt (-1) = (-1) := by decide
      exact dOk_some (show (q = q) from rfl)
    · try have t_14 : Int32.toInt (6 + p2) = 6 + Int32.toInt p2 := ti_add (by decide) rfl (by omega) (by omega)
      refine dOk_G (dg_ok (show 0 ≤ Int32.toInt (6 + p2) by omega) (show Int32.toInt (6 + p2) < ((5640 : Nat) : Int) by omega)) ?_
      have n_15 : ((Int32.toNatClampNeg (6 + p2) : Nat) : Int) = Int32.toInt (6 + p2) := cl_eq (by omega)
      refine dOk_L (fun v_16 ev_16 => ?_)
      try have g_17 : klo (Int32.toNatClampNeg (6 + p2)) ≤ Int32.toInt v_16 ∧ Int32.toInt v_16 ≤ khi (Int32.toNatClampNeg (6 + p2)) := by rw [ev_16]; exact te_k hT _
      try have f_18 : 0 ≤ Int32.toInt v_16 ∧ Int32.toInt v_16 ≤ 5 := by rw [ev_16]; exact te_2r hT (by omega) (by omega)
      try have f_19 : 0 ≤ Int32.toInt v_16 ∧ Int32.toInt v_16 ≤ 1 := by rw [ev_16]; exact te_2h hT (by omega) (by omega)
      try have f_20 : 0 ≤ Int32.toInt v_16 ∧ Int32.toInt v_16 ≤ 5 := by rw [ev_16]; exact te_2s hT (by omega) (by omega)
      try have f_21 : 0 ≤ Int32.toInt v_16 ∧ Int32.toInt v_16 ≤ 400 := by rw [ev_16]; exact te_2z hT (by omega) (by omega)
      unfold zX10_orderValue_65
      exact dOk_some (show (q = q) from rfl)
  · refine dOk_eq (A := Int32.toInt p1) (B := 16) rfl (by decide) (fun c_22z c_22 => ?_) (fun c_23z c_23 => ?_)
    · have f_25 : 0 ≤ Int32.toInt (q.1 2 13) ∧ Int32.toInt (q.1 2 13) ≤ 999 := hT.1 2 13
      exact dOk_some (show (q = q) from rfl)
    · refine dOk_eq (A := Int32.toInt p1) (B := 17) rfl (by decide) (fun c_26z c_26 => ?_) (fun c_27z c_27 => ?_)
      · exact dOk_some (show (q = q) from rfl)
      · refine dOk_eq (A := Int32.toInt p1) (B := 18) rfl (by decide) (fun c_29z c_29 => ?_) (fun c_30z c_30 => ?_)
        · exact dOk_some (show (q = q) from rfl)
        · refine dOk_eq (A := Int32.toInt p1) (B := 19) rfl (by decide) (fun c_32z c_32 => ?_) (fun c_33z c_33 => ?_)
          · have f_35 : 0 ≤ Int32.toInt (q.1 2 12) ∧ Int32.toInt (q.1 2 12) ≤ 9999 := hT.1 2 12
            exact dOk_some (show (q = q) from rfl)
          · refine dOk_eq (A := Int32.toInt p1) (B := 20) rfl (by decide) (fun c_36z c_36 => ?_) (fun c_37z c_37 => ?_)
            · refine dOk_B (ok_gaps q hT) (fun r_39 q_40 h_41 => ?_)
              have h_41 : (q_40 = q) := h_41
              have i_42 := h_41
              subst q_40
              exact dOk_some (show (q = q) from rfl)
            · refine dOk_eq (A := Int32.toInt p1) (B := 21) rfl (by decide) (fun c_43z c_43 => ?_) (fun c_44z c_44 => ?_)
              · refine dOk_B (ok_isPlace q p2 hT) (fun r_46 q_47 h_48 => ?_)
                have h_48 : (q_47 = q) ∧ ((Int32.toInt r_46 = 1 ∧ 0 ≤ Int32.toInt p2 ∧ Int32.toInt p2 < Int32.toInt (q.1 2 29)) ∨ (Int32.toInt r_46 = 0 ∧ (Int32.toInt p2 < 0 ∨ Int32.toInt (q.1 2 29) ≤ Int32.toInt p2))) := h_48
                obtain ⟨i_49, i_50⟩ := h_48
                subst q_47
                have f_51 : 0 ≤ Int32.toInt (q.1 2 29) ∧ Int32.toInt (q.1 2 29) ≤ 6 := hT.1 2 29
                refine dOk_eq (A := Int32.toInt r_46) (B := 0) rfl (by decide) (fun c_52z c_52 => ?_) (fun c_53z c_53 => ?_)
                · unfold zX10_orderValue_86
                  have l_55 : Int32.toInt (-1) = (-1) := by decide
                  exact dOk_some (show (q = q) from rfl)
                · try have t_56 : Int32.toInt (0 + p2) = 0 + Int32.toInt p2 := ti_add (by decide) rfl (by omega) (by omega)
                  refine dOk_G (dg_ok (show 0 ≤ Int32.toInt (0 + p2) by omega) (show Int32.toInt (0 + p2) < ((5640 : Nat) : Int) by omega)) ?_
                  have n_57 : ((Int32.toNatClampNeg (0 + p2) : Nat) : Int) = Int32.toInt (0 + p2) := cl_eq (by omega)
                  refine dOk_L (fun v_58 ev_58 => ?_)
                  try have g_59 : klo (Int32.toNatClampNeg (0 + p2)) ≤ Int32.toInt v_58 ∧ Int32.toInt v_58 ≤ khi (Int32.toNatClampNeg (0 + p2)) := by rw [ev_58]; exact te_k hT _
                  try have f_60 : 0 ≤ Int32.toInt v_58 ∧ Int32.toInt v_58 ≤ 5 := by rw [ev_58]; exact te_2r hT (by omega) (by omega)
                  try have f_61 : 0 ≤ Int32.toInt v_58 ∧ Int32.toInt v_58 ≤ 1 := by rw [ev_58]; exact te_2h hT (by omega) (by omega)
                  try have f_62 : 0 ≤ Int32.toInt v_58 ∧ Int32.toInt v_58 ≤ 5 := by rw [ev_58]; exact te_2s hT (by omega) (by omega)
                  try have f_63 : 0 ≤ Int32.toInt v_58 ∧ Int32.toInt v_58 ≤ 400 := by rw [ev_58]; exact te_2z hT (by omega) (by omega)
                  unfold zX10_orderValue_86
                  exact dOk_some (show (q = q) from rfl)
              · refine dOk_B (ok_gaps q hT) (fun r_64 q_65 h_66 => ?_)
                have h_66 : (q_65 = q) := h_66
                have i_67 := h_66
                subst q_65
                exact dOk_some (show (q = q) from rfl)

set_option maxHeartbeats 4000000 in
set_option maxRecDepth 100000 in
theorem ok_isTerm (p1 : Int32) (p2 : Int32) : dOk (zX10_isTerm p1 p2) (fun (o : Int32) => ((Int32.toInt o = 1 ∧ ((Int32.toInt p1 = 0 ∧ 0 ≤ Int32.toInt p2 ∧ Int32.toInt p2 ≤ 999) ∨ (Int32.toInt p1 = 1 ∧ 0 ≤ Int32.toInt p2 ∧ Int32.toInt p2 ≤ 10) ∨ (Int32.toInt p1 = 2 ∧ 0 ≤ Int32.toInt p2 ∧ Int32.toInt p2 ≤ 9) ∨ (Int32.toInt p1 = 3 ∧ 0 ≤ Int32.toInt p2 ∧ Int32.toInt p2 ≤ 1))) ∨ Int32.toInt o = 0)) := by
  unfold zX10_isTerm
  refine dOk_eq (A := Int32.toInt p1) (B := 0) rfl (by decide) (fun c_1z c_1 => ?_) (fun c_2z c_2 => ?_)
  · have l_4 : Int32.toInt 0 = 0 := by decide
    have l_5 : Int32.toInt 999 = 999 := by decide
    refine dOk_V (ok_lies p2 0 999) (fun r_6 h_7 => ?_)
    have h_7 : ((Int32.toInt r_6 = 1 ∧ Int32.toInt 0 ≤ Int32.toInt p2 ∧ Int32.toInt p2 ≤ Int32.toInt 999) ∨ (Int32.toInt r_6 = 0 ∧ (Int32.toInt p2 < Int32.toInt 0 ∨ Int32.toInt 999 < Int32.toInt p2))) := h_7
    have i_8 := h_7
    refine dOk_G (dbl_ok (show Int32.toInt r_6 = 0 ∨ Int32.toInt r_6 = 1 by omega)) ?_
    exact dOk_some (show ((Int32.toInt r_6 = 1 ∧ ((Int32.toInt p1 = 0 ∧ 0 ≤ Int32.toInt p2 ∧ Int32.toInt p2 ≤ 999) ∨ (Int32.toInt p1 = 1 ∧ 0 ≤ Int32.toInt p2 ∧ Int32.toInt p2 ≤ 10) ∨ (Int32.toInt p1 = 2 ∧ 0 ≤ Int32.toInt p2 ∧ Int32.toInt p2 ≤ 9) ∨ (Int32.toInt p1 = 3 ∧ 0 ≤ Int32.toInt p2 ∧ Int32.toInt p2 ≤ 1))) ∨ Int32.toInt r_6 = 0) from (by omega))
  · refine dOk_eq (A := Int32.toInt p1) (B := 1) rfl (by decide) (fun c_9z c_9 => ?_) (fun c_10z c_10 => ?_)
    · have l_12 : Int32.toInt 0 = 0 := by decide
      have l_13 : Int32.toInt 10 = 10 := by decide
      refine dOk_V (ok_lies p2 0 10) (fun r_14 h_15 => ?_)
      have h_15 : ((Int32.toInt r_14 = 1 ∧ Int32.toInt 0 ≤ Int32.toInt p2 ∧ Int32.toInt p2 ≤ Int32.toInt 10) ∨ (Int32.toInt r_14 = 0 ∧ (Int32.toInt p2 < Int32.toInt 0 ∨ Int32.toInt 10 < Int32.toInt p2))) := h_15
      have i_16 := h_15
      refine dOk_G (dbl_ok (show Int32.toInt r_14 = 0 ∨ Int32.toInt r_14 = 1 by omega)) ?_
      exact dOk_some (show ((Int32.toInt r_14 = 1 ∧ ((Int32.toInt p1 = 0 ∧ 0 ≤ Int32.toInt p2 ∧ Int32.toInt p2 ≤ 999) ∨ (Int32.toInt p1 = 1 ∧ 0 ≤ Int32.toInt p2 ∧ Int32.toInt p2 ≤ 10) ∨ (Int32.toInt p1 = 2 ∧ 0 ≤ Int32.toInt p2 ∧ Int32.toInt p2 ≤ 9) ∨ (Int32.toInt p1 = 3 ∧ 0 ≤ Int32.toInt p2 ∧ Int32.toInt p2 ≤ 1))) ∨ Int32.toInt r_14 = 0) from (by omega))
    · refine dOk_eq (A := Int32.toInt p1) (B := 2) rfl (by decide) (fun c_17z c_17 => ?_) (fun c_18z c_18 => ?_)
      · have l_20 : Int32.toInt 0 = 0 := by decide
        have l_21 : Int32.toInt 9 = 9 := by decide
        refine dOk_V (ok_lies p2 0 9) (fun r_22 h_23 => ?_)
        have h_23 : ((Int32.toInt r_22 = 1 ∧ Int32.toInt 0 ≤ Int32.toInt p2 ∧ Int32.toInt p2 ≤ Int32.toInt 9) ∨ (Int32.toInt r_22 = 0 ∧ (Int32.toInt p2 < Int32.toInt 0 ∨ Int32.toInt 9 < Int32.toInt p2))) := h_23
        have i_24 := h_23
        refine dOk_G (dbl_ok (show Int32.toInt r_22 = 0 ∨ Int32.toInt r_22 = 1 by omega)) ?_
        exact dOk_some (show ((Int32.toInt r_22 = 1 ∧ ((Int32.toInt p1 = 0 ∧ 0 ≤ Int32.toInt p2 ∧ Int32.toInt p2 ≤ 999) ∨ (Int32.toInt p1 = 1 ∧ 0 ≤ Int32.toInt p2 ∧ Int32.toInt p2 ≤ 10) ∨ (Int32.toInt p1 = 2 ∧ 0 ≤ Int32.toInt p2 ∧ Int32.toInt p2 ≤ 9) ∨ (Int32.toInt p1 = 3 ∧ 0 ≤ Int32.toInt p2 ∧ Int32.toInt p2 ≤ 1))) ∨ Int32.toInt r_22 = 0) from (by omega))
      · refine dOk_eq (A := Int32.toInt p1) (B := 3) rfl (by decide) (fun c_25z c_25 => ?_) (fun c_26z c_26 => ?_)
        · refine dOk_V (ok_isBit p2) (fun r_28 h_29 => ?_)
          have h_29 : ((Int32.toInt r_28 = 1 ∧ 0 ≤ Int32.toInt p2 ∧ Int32.toInt p2 ≤ 1) ∨ (Int32.toInt r_28 = 0 ∧ (Int32.toInt p2 < 0 ∨ 1 < Int32.toInt p2))) := h_29
          have i_30 := h_29
          refine dOk_G (dbl_ok (show Int32.toInt r_28 = 0 ∨ Int32.toInt r_28 = 1 by omega)) ?_
          exact dOk_some (show ((Int32.toInt r_28 = 1 ∧ ((Int32.toInt p1 = 0 ∧ 0 ≤ Int32.toInt p2 ∧ Int32.toInt p2 ≤ 999) ∨ (Int32.toInt p1 = 1 ∧ 0 ≤ Int32.toInt p2 ∧ Int32.toInt p2 ≤ 10) ∨ (Int32.toInt p1 = 2 ∧ 0 ≤ Int32.toInt p2 ∧ Int32.toInt p2 ≤ 9) ∨ (Int32.toInt p1 = 3 ∧ 0 ≤ Int32.toInt p2 ∧ Int32.toInt p2 ≤ 1))) ∨ Int32.toInt r_28 = 0) from (by omega))
        · have l_31 : Int32.toInt 0 = 0 := by decide
          exact dOk_some (show ((Int32.toInt 0 = 1 ∧ ((Int32.toInt p1 = 0 ∧ 0 ≤ Int32.toInt p2 ∧ Int32.toInt p2 ≤ 999) ∨ (Int32.toInt p1 = 1 ∧ 0 ≤ Int32.toInt p2 ∧ Int32.toInt p2 ≤ 10) ∨ (Int32.toInt p1 = 2 ∧ 0 ≤ Int32.toInt p2 ∧ Int32.toInt p2 ≤ 9) ∨ (Int32.toInt p1 = 3 ∧ 0 ≤ Int32.toInt p2 ∧ Int32.toInt p2 ≤ 1))) ∨ Int32.toInt 0 = 0) from (by omega))

set_option maxHeartbeats 4000000 in
set_option maxRecDepth 100000 in
theorem ok_termAt (p1 : Int32) : dOk (zX10_termAt p1) (fun (o : Int32) => ((Int32.toInt p1 = 0 ∧ Int32.toInt o = 13) ∨ (Int32.toInt p1 = 1 ∧ Int32.toInt o = 26) ∨ (Int32.toInt p1 = 2 ∧ Int32.toInt o = 27) ∨ (¬ Int32.toInt p1 = 0 ∧ ¬ Int32.toInt p1 = 1 ∧ ¬ Int32.toInt p1 = 2 ∧ Int32.toInt o = 28))) := by
  unfold zX10_termAt
  refine dOk_eq (A := Int32.toInt p1) (B := 0) rfl (by decide) (fun c_1z c_1 => ?_) (fun c_2z c_2 => ?_)
  · unfold zX10_termAt_31
    have l_4 : Int32.toInt 13 = 13 := by decide
    exact dOk_some (show ((Int32.toInt p1 = 0 ∧ Int32.toInt 13 = 13) ∨ (Int32.toInt p1 = 1 ∧ Int32.toInt 13 = 26) ∨ (Int32.toInt p1 = 2 ∧ Int32.toInt 13 = 27) ∨ (¬ Int32.toInt p1 = 0 ∧ ¬ Int32.toInt p1 = 1 ∧ ¬ Int32.toInt p1 = 2 ∧ Int32.toInt 13 = 28)) from (by omega))
  · refine dOk_eq (A := Int32.toInt p1) (B := 1) rfl (by decide) (fun c_5z c_5 => ?_) (fun c_6z c_6 => ?_)
    · unfold zX10_termAt_31
      have l_8 : Int32.toInt 26 = 26 := by decide
      exact dOk_some (show ((Int32.toInt p1 = 0 ∧ Int32.toInt 26 = 13) ∨ (Int32.toInt p1 = 1 ∧ Int32.toInt 26 = 26) ∨ (Int32.toInt p1 = 2 ∧ Int32.toInt 26 = 27) ∨ (¬ Int32.toInt p1 = 0 ∧ ¬ Int32.toInt p1 = 1 ∧ ¬ Int32.toInt p1 = 2 ∧ Int32.toInt 26 = 28)) from (by omega))
    · refine dOk_eq (A := Int32.toInt p1) (B := 2) rfl (by decide) (fun c_9z c_9 => ?_) (fun c_10z c_10 => ?_)
      · unfold zX10_termAt_31
        have l_12 : Int32.toInt 27 = 27 := by decide
        exact dOk_some (show ((Int32.toInt p1 = 0 ∧ Int32.toInt 27 = 13) ∨ (Int32.toInt p1 = 1 ∧ Int32.toInt 27 = 26) ∨ (Int32.toInt p1 = 2 ∧ Int32.toInt 27 = 27) ∨ (¬ Int32.toInt p1 = 0 ∧ ¬ Int32.toInt p1 = 1 ∧ ¬ Int32.toInt p1 = 2 ∧ Int32.toInt 27 = 28)) from (by omega))
      · unfold zX10_termAt_31
        have l_13 : Int32.toInt 28 = 28 := by decide
        exact dOk_some (show ((Int32.toInt p1 = 0 ∧ Int32.toInt 28 = 13) ∨ (Int32.toInt p1 = 1 ∧ Int32.toInt 28 = 26) ∨ (Int32.toInt p1 = 2 ∧ Int32.toInt 28 = 27) ∨ (¬ Int32.toInt p1 = 0 ∧ ¬ Int32.toInt p1 = 1 ∧ ¬ Int32.toInt p1 = 2 ∧ Int32.toInt 28 = 28)) from (by omega))

set_option maxHeartbeats 4000000 in
set_option maxRecDepth 100000 in
theorem ok_terms (q : dS) (p1 : Int32) (p2 : Int32) (hT : TS q) : dOk (zX10_terms q p1 p2) (fun (o : Int32 × dS) => (TS o.2) ∧ (dFr [1, 2] [0, 32] q o.2)) := by
  unfold zX10_terms
  refine dOk_V (ok_isTerm p1 p2) (fun r_1 h_2 => ?_)
  have h_2 : ((Int32.toInt r_1 = 1 ∧ ((Int32.toInt p1 = 0 ∧ 0 ≤ Int32.toInt p2 ∧ Int32.toInt p2 ≤ 999) ∨ (Int32.toInt p1 = 1 ∧ 0 ≤ Int32.toInt p2 ∧ Int32.toInt p2 ≤ 10) ∨ (Int32.toInt p1 = 2 ∧ 0 ≤ Int32.toInt p2 ∧ Int32.toInt p2 ≤ 9) ∨ (Int32.toInt p1 = 3 ∧ 0 ≤ Int32.toInt p2 ∧ Int32.toInt p2 ≤ 1))) ∨ Int32.toInt r_1 = 0) := h_2
  have i_3 := h_2
  refine dOk_eq (A := Int32.toInt r_1) (B := 0) rfl (by decide) (fun c_4z c_4 => ?_) (fun c_5z c_5 => ?_)
  · have l_7 : Int32.toInt (-1) = (-1) := by decide
    refine dOk_B (ok_refuses q (-1) hT (show (-6) ≤ Int32.toInt (-1) by omega) (show Int32.toInt (-1) ≤ 0 by omega)) (fun r_8 q_9 h_10 => ?_)
    have h_10 : (TS q_9) ∧ (dFr [1] [0] q q_9) ∧ (Int32.toInt r_8 = Int32.toInt (-1)) := h_10
    obtain ⟨i_11, i_12, i_13⟩ := h_10
    have hFq_9 : dFr [1, 2] [0, 32] q q_9 := (dFr.rf (q := q)).t i_12 (by decide) (by decide)
    exact dOk_some (show (TS q_9) ∧ (dFr [1, 2] [0, 32] q q_9) from ⟨i_11, hFq_9⟩)
  · refine dOk_V (ok_termAt p1) (fun r_14 h_15 => ?_)
    have h_15 : ((Int32.toInt p1 = 0 ∧ Int32.toInt r_14 = 13) ∨ (Int32.toInt p1 = 1 ∧ Int32.toInt r_14 = 26) ∨ (Int32.toInt p1 = 2 ∧ Int32.toInt r_14 = 27) ∨ (¬ Int32.toInt p1 = 0 ∧ ¬ Int32.toInt p1 = 1 ∧ ¬ Int32.toInt p1 = 2 ∧ Int32.toInt r_14 = 28)) := h_15
    have i_16 := h_15
    refine dOk_G (dg_ok (show 0 ≤ Int32.toInt r_14 by omega) (show Int32.toInt r_14 < ((5640 : Nat) : Int) by omega)) ?_
    have n_17 : ((Int32.toNatClampNeg r_14 : Nat) : Int) = Int32.toInt r_14 := cl_eq (by omega)
    refine dOk_L (fun v_18 ev_18 => ?_)
    try have g_19 : klo (Int32.toNatClampNeg r_14) ≤ Int32.toInt v_18 ∧ Int32.toInt v_18 ≤ khi (Int32.toNatClampNeg r_14) := by rw [ev_18]; exact te_k hT _
    try have f_20 : 0 ≤ Int32.toInt v_18 ∧ Int32.toInt v_18 ≤ 5 := by rw [ev_18]; exact te_2r hT (by omega) (by omega)
    try have f_21 : 0 ≤ Int32.toInt v_18 ∧ Int32.toInt v_18 ≤ 1 := by rw [ev_18]; exact te_2h hT (by omega) (by omega)
    try have f_22 : 0 ≤ Int32.toInt v_18 ∧ Int32.toInt v_18 ≤ 5 := by rw [ev_18]; exact te_2s hT (by omega) (by omega)
    try have f_23 : 0 ≤ Int32.toInt v_18 ∧ Int32.toInt v_18 ≤ 400 := by rw [ev_18]; exact te_2z hT (by omega) (by omega)
    refine dOk_V (ok_termAt p1) (fun r_24 h_25 => ?_)
    have h_25 : ((Int32.toInt p1 = 0 ∧ Int32.toInt r_24 = 13) ∨ (Int32.toInt p1 = 1 ∧ Int32.toInt r_24 = 26) ∨ (Int32.toInt p1 = 2 ∧ Int32.toInt r_24 = 27) ∨ (¬ Int32.toInt p1 = 0 ∧ ¬ Int32.toInt p1 = 1 ∧ ¬ Int32.toInt p1 = 2 ∧ Int32.toInt r_24 = 28)) := h_25
    have i_26 := h_25
    refine dOk_G (dg_ok (show 0 ≤ Int32.toInt r_24 by omega) (show Int32.toInt r_24 < ((5640 : Nat) : Int) by omega)) ?_
    have n_27 : ((Int32.toNatClampNeg r_24 : Nat) : Int) = Int32.toInt r_24 := cl_eq (by omega)
    refine dOk_L (fun q_28 eq_28 => ?_)
    have hTq_28 : TS q_28 := by rw [eq_28]; exact ts_set2 hT (by omega) (by unfold klo; omega) (by unfold khi; omega)
    have hFq_28 : dFr [1, 2] [0, 32] q q_28 := by rw [eq_28]; exact (dFr.rf (q := q)).i (by decide) (by decide)
    refine dOk_B (ok_settled q_28 v_18 hTq_28) (fun r_29 q_30 h_31 => ?_)
    have h_31 : (TS q_30) ∧ (dFr [] [0, 32] q_28 q_30) ∧ (Int32.toInt r_29 = Int32.toInt v_18) := h_31
    obtain ⟨i_32, i_33, i_34⟩ := h_31
    have hFq_30 : dFr [1, 2] [0, 32] q q_30 := hFq_28.t i_33 (by decide) (by decide)
    exact dOk_some (show (TS q_30) ∧ (dFr [1, 2] [0, 32] q q_30) from ⟨i_32, hFq_30⟩)
