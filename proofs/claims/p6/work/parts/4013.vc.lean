set_option maxHeartbeats 4000000 in
set_option maxRecDepth 100000 in
theorem ok_gaps (q : dS) (hT : TS q) : dOk (zX10_gaps q) (fun (o : Int32 × dS) => (o.2 = q)) := by
  unfold zX10_gaps
  refine dOk_B (ok_size q hT) (fun r_1 q_2 h_3 => ?_)
  replace h_3 : (q_2 = q) ∧ (Int32.toInt r_1 = Int32.toInt (q.1 2 29)) ∧ (0 ≤ Int32.toInt r_1 ∧ Int32.toInt r_1 ≤ 6) := h_3
  obtain ⟨i_4, i_5, i_6⟩ := h_3
  subst q_2
  have f_7 : 0 ≤ Int32.toInt (q.1 2 29) ∧ Int32.toInt (q.1 2 29) ≤ 6 := hT.1 2 29
  refine dOk_le (A := Int32.toInt r_1) (B := 0) rfl (by decide) (fun c_8 => ?_) (fun c_9 => ?_)
  · unfold zX10_gaps_37
    unfold zX10_gaps_38
    unfold zX10_gaps_41
    refine dFix_ok (fun (a : dS × Int32 × Int32) => (a.1 = q) ∧ (0 ≤ Int32.toInt a.2.2) ∧ (Int32.toInt a.2.2 ≤ 6)) (fun (a : dS × Int32 × Int32) => (6 - Int32.toInt a.2.2).toNat) ?_ _ ?_ _ (dF_gt ?_)
    · intro a ha k_11 hk_10
      obtain ⟨q_12, x1_13, x2_14⟩ := a
      replace ha : (q_12 = q) ∧ (0 ≤ Int32.toInt x2_14) ∧ (Int32.toInt x2_14 ≤ 6) := ha
      obtain ⟨a_15, a_16, a_17⟩ := ha
      show dOk (zX10_gaps_41b  (fun q x1 x2 => k_11 (q, x1, x2)) q_12 x1_13 x2_14) _
      unfold zX10_gaps_41b
      subst q_12
      refine dOk_B (ok_size q hT) (fun r_18 q_19 h_20 => ?_)
      replace h_20 : (q_19 = q) ∧ (Int32.toInt r_18 = Int32.toInt (q.1 2 29)) ∧ (0 ≤ Int32.toInt r_18 ∧ Int32.toInt r_18 ≤ 6) := h_20
      obtain ⟨i_21, i_22, i_23⟩ := h_20
      subst q_19
      try have t_24 : Int32.toInt (x2_14 + 1) = Int32.toInt x2_14 + 1 := ti_add rfl (by decide) (by omega) (by omega)
      refine dOk_le (A := Int32.toInt r_18) (B := Int32.toInt (x2_14 + 1)) rfl rfl (fun c_25 => ?_) (fun c_26 => ?_)
      · exact dOk_some (show (q = q) from rfl)
      · try have t_27 : Int32.toInt (0 + x2_14) = 0 + Int32.toInt x2_14 := ti_add (by decide) rfl (by omega) (by omega)
        refine dOk_G (dg_ok (show 0 ≤ Int32.toInt (0 + x2_14) by omega) (show Int32.toInt (0 + x2_14) < ((5640 : Nat) : Int) by omega)) ?_
        have n_28 : ((Int32.toNatClampNeg (0 + x2_14) : Nat) : Int) = Int32.toInt (0 + x2_14) := cl_eq (by omega)
        refine dOk_L (fun v_29 ev_29 => ?_)
        try have g_30 : klo (Int32.toNatClampNeg (0 + x2_14)) ≤ Int32.toInt v_29 ∧ Int32.toInt v_29 ≤ khi (Int32.toNatClampNeg (0 + x2_14)) := by rw [ev_29]; exact te_k hT _
        try have f_31 : 0 ≤ Int32.toInt v_29 ∧ Int32.toInt v_29 ≤ 5 := by rw [ev_29]; exact te_2r hT (by omega) (by omega)
        try have f_32 : 0 ≤ Int32.toInt v_29 ∧ Int32.toInt v_29 ≤ 1 := by rw [ev_29]; exact te_2h hT (by omega) (by omega)
        try have f_33 : 0 ≤ Int32.toInt v_29 ∧ Int32.toInt v_29 ≤ 5 := by rw [ev_29]; exact te_2s hT (by omega) (by omega)
        try have f_34 : 0 ≤ Int32.toInt v_29 ∧ Int32.toInt v_29 ≤ 400 := by rw [ev_29]; exact te_2z hT (by omega) (by omega)
        refine dOk_B (ok_lessThan q v_29 hT) (fun r_35 q_36 h_37 => ?_)
        replace h_37 : (q_36 = q) ∧ (0 ≤ Int32.toInt r_35 ∧ Int32.toInt r_35 ≤ 6) := h_37
        obtain ⟨i_38, i_39⟩ := h_37
        subst q_36
        try have t_40 : Int32.toInt (0 + x2_14 + 1) = Int32.toInt (0 + x2_14) + 1 := ti_add rfl (by decide) (by omega) (by omega)
        refine dOk_G (dg_ok (show 0 ≤ Int32.toInt (0 + x2_14 + 1) by omega) (show Int32.toInt (0 + x2_14 + 1) < ((5640 : Nat) : Int) by omega)) ?_
        have n_41 : ((Int32.toNatClampNeg (0 + x2_14 + 1) : Nat) : Int) = Int32.toInt (0 + x2_14 + 1) := cl_eq (by omega)
        refine dOk_L (fun v_42 ev_42 => ?_)
        try have g_43 : klo (Int32.toNatClampNeg (0 + x2_14 + 1)) ≤ Int32.toInt v_42 ∧ Int32.toInt v_42 ≤ khi (Int32.toNatClampNeg (0 + x2_14 + 1)) := by rw [ev_42]; exact te_k hT _
        try have f_44 : 0 ≤ Int32.toInt v_42 ∧ Int32.toInt v_42 ≤ 5 := by rw [ev_42]; exact te_2r hT (by omega) (by omega)
        try have f_45 : 0 ≤ Int32.toInt v_42 ∧ Int32.toInt v_42 ≤ 1 := by rw [ev_42]; exact te_2h hT (by omega) (by omega)
        try have f_46 : 0 ≤ Int32.toInt v_42 ∧ Int32.toInt v_42 ≤ 5 := by rw [ev_42]; exact te_2s hT (by omega) (by omega)
        try have f_47 : 0 ≤ Int32.toInt v_42 ∧ Int32.toInt v_42 ≤ 400 := by rw [ev_42]; exact te_2z hT (by omega) (by omega)
        refine dOk_B (ok_lessThan q v_42 hT) (fun r_48 q_49 h_50 => ?_)
        replace h_50 : (q_49 = q) ∧ (0 ≤ Int32.toInt r_48 ∧ Int32.toInt r_48 ≤ 6) := h_50
        obtain ⟨i_51, i_52⟩ := h_50
        subst q_49
        try have t_53 : Int32.toInt (r_35 - r_48) = Int32.toInt r_35 - Int32.toInt r_48 := ti_sub rfl rfl (by omega) (by omega)
        refine dOk_eq (A := Int32.toInt (r_35 - r_48)) (B := 1) rfl (by decide) (fun c_54z c_54 => ?_) (fun c_55z c_55 => ?_)
        · unfold zX10_gaps_90
          unfold zX10_gaps_95
          try have t_57 : Int32.toInt (x1_13 + 0) = Int32.toInt x1_13 + 0 := ti_add rfl (by decide) (by omega) (by omega)
          exact hk_10 (q, (x1_13 + 0), (x2_14 + 1)) (show (q = q) ∧ (0 ≤ Int32.toInt (x2_14 + 1)) ∧ (Int32.toInt (x2_14 + 1) ≤ 6) from ⟨rfl, by omega, by omega⟩) (show (6 - Int32.toInt (x2_14 + 1)).toNat < (6 - Int32.toInt x2_14).toNat by omega)
        · refine dOk_eq (A := Int32.toInt (r_35 - r_48)) (B := (-1)) rfl (by decide) (fun c_58z c_58 => ?_) (fun c_59z c_59 => ?_)
          · unfold zX10_gaps_90
            unfold zX10_gaps_95
            try have t_61 : Int32.toInt (x1_13 + 0) = Int32.toInt x1_13 + 0 := ti_add rfl (by decide) (by omega) (by omega)
            exact hk_10 (q, (x1_13 + 0), (x2_14 + 1)) (show (q = q) ∧ (0 ≤ Int32.toInt (x2_14 + 1)) ∧ (Int32.toInt (x2_14 + 1) ≤ 6) from ⟨rfl, by omega, by omega⟩) (show (6 - Int32.toInt (x2_14 + 1)).toNat < (6 - Int32.toInt x2_14).toNat by omega)
          · unfold zX10_gaps_95
            try have t_62 : Int32.toInt (x1_13 + 1) = Int32.toInt x1_13 + 1 := ti_add rfl (by decide) (by omega) (by omega)
            exact hk_10 (q, (x1_13 + 1), (x2_14 + 1)) (show (q = q) ∧ (0 ≤ Int32.toInt (x2_14 + 1)) ∧ (Int32.toInt (x2_14 + 1) ≤ 6) from ⟨rfl, by omega, by omega⟩) (show (6 - Int32.toInt (x2_14 + 1)).toNat < (6 - Int32.toInt x2_14).toNat by omega)
    · exact (show (q = q) ∧ (0 ≤ (0 : Int)) ∧ ((0 : Int) ≤ 6) from ⟨rfl, by omega, by omega⟩)
    · show (6 - (0 : Int)).toNat < 1000000000000
      omega
  · refine dOk_B (ok_size q hT) (fun r_63 q_64 h_65 => ?_)
    replace h_65 : (q_64 = q) ∧ (Int32.toInt r_63 = Int32.toInt (q.1 2 29)) ∧ (0 ≤ Int32.toInt r_63 ∧ Int32.toInt r_63 ≤ 6) := h_65
    obtain ⟨i_66, i_67, i_68⟩ := h_65
    subst q_64
    try have t_69 : Int32.toInt (0 + r_63) = 0 + Int32.toInt r_63 := ti_add (by decide) rfl (by omega) (by omega)
    try have t_70 : Int32.toInt (0 + r_63 - 1) = Int32.toInt (0 + r_63) - 1 := ti_sub rfl (by decide) (by omega) (by omega)
    refine dOk_G (dg_ok (show 0 ≤ Int32.toInt (0 + r_63 - 1) by omega) (show Int32.toInt (0 + r_63 - 1) < ((5640 : Nat) : Int) by omega)) ?_
    have n_71 : ((Int32.toNatClampNeg (0 + r_63 - 1) : Nat) : Int) = Int32.toInt (0 + r_63 - 1) := cl_eq (by omega)
    refine dOk_L (fun v_72 ev_72 => ?_)
    try have g_73 : klo (Int32.toNatClampNeg (0 + r_63 - 1)) ≤ Int32.toInt v_72 ∧ Int32.toInt v_72 ≤ khi (Int32.toNatClampNeg (0 + r_63 - 1)) := by rw [ev_72]; exact te_k hT _
    try have f_74 : 0 ≤ Int32.toInt v_72 ∧ Int32.toInt v_72 ≤ 5 := by rw [ev_72]; exact te_2r hT (by omega) (by omega)
    try have f_75 : 0 ≤ Int32.toInt v_72 ∧ Int32.toInt v_72 ≤ 1 := by rw [ev_72]; exact te_2h hT (by omega) (by omega)
    try have f_76 : 0 ≤ Int32.toInt v_72 ∧ Int32.toInt v_72 ≤ 5 := by rw [ev_72]; exact te_2s hT (by omega) (by omega)
    try have f_77 : 0 ≤ Int32.toInt v_72 ∧ Int32.toInt v_72 ≤ 400 := by rw [ev_72]; exact te_2z hT (by omega) (by omega)
    refine dOk_B (ok_lessThan q v_72 hT) (fun r_78 q_79 h_80 => ?_)
    replace h_80 : (q_79 = q) ∧ (0 ≤ Int32.toInt r_78 ∧ Int32.toInt r_78 ≤ 6) := h_80
    obtain ⟨i_81, i_82⟩ := h_80
    subst q_79
    refine dOk_B (ok_size q hT) (fun r_83 q_84 h_85 => ?_)
    replace h_85 : (q_84 = q) ∧ (Int32.toInt r_83 = Int32.toInt (q.1 2 29)) ∧ (0 ≤ Int32.toInt r_83 ∧ Int32.toInt r_83 ≤ 6) := h_85
    obtain ⟨i_86, i_87, i_88⟩ := h_85
    subst q_84
    try have t_89 : Int32.toInt (r_83 - 1) = Int32.toInt r_83 - 1 := ti_sub rfl (by decide) (by omega) (by omega)
    refine dOk_le (A := Int32.toInt (r_83 - 1)) (B := Int32.toInt r_78) rfl rfl (fun c_90 => ?_) (fun c_91 => ?_)
    · unfold zX10_gaps_37
      unfold zX10_gaps_38
      unfold zX10_gaps_41
      refine dFix_ok (fun (a : dS × Int32 × Int32) => (a.1 = q) ∧ (0 ≤ Int32.toInt a.2.2) ∧ (Int32.toInt a.2.2 ≤ 6)) (fun (a : dS × Int32 × Int32) => (6 - Int32.toInt a.2.2).toNat) ?_ _ ?_ _ (dF_gt ?_)
      · intro a ha k_93 hk_92
        obtain ⟨q_94, x1_95, x2_96⟩ := a
        replace ha : (q_94 = q) ∧ (0 ≤ Int32.toInt x2_96) ∧ (Int32.toInt x2_96 ≤ 6) := ha
        obtain ⟨a_97, a_98, a_99⟩ := ha
        show dOk (zX10_gaps_41b  (fun q x1 x2 => k_93 (q, x1, x2)) q_94 x1_95 x2_96) _
        unfold zX10_gaps_41b
        subst q_94
        refine dOk_B (ok_size q hT) (fun r_100 q_101 h_102 => ?_)
        replace h_102 : (q_101 = q) ∧ (Int32.toInt r_100 = Int32.toInt (q.1 2 29)) ∧ (0 ≤ Int32.toInt r_100 ∧ Int32.toInt r_100 ≤ 6) := h_102
        obtain ⟨i_103, i_104, i_105⟩ := h_102
        subst q_101
        try have t_106 : Int32.toInt (x2_96 + 1) = Int32.toInt x2_96 + 1 := ti_add rfl (by decide) (by omega) (by omega)
        refine dOk_le (A := Int32.toInt r_100) (B := Int32.toInt (x2_96 + 1)) rfl rfl (fun c_107 => ?_) (fun c_108 => ?_)
        · exact dOk_some (show (q = q) from rfl)
        · try have t_109 : Int32.toInt (0 + x2_96) = 0 + Int32.toInt x2_96 := ti_add (by decide) rfl (by omega) (by omega)
          refine dOk_G (dg_ok (show 0 ≤ Int32.toInt (0 + x2_96) by omega) (show Int32.toInt (0 + x2_96) < ((5640 : Nat) : Int) by omega)) ?_
          have n_110 : ((Int32.toNatClampNeg (0 + x2_96) : Nat) : Int) = Int32.toInt (0 + x2_96) := cl_eq (by omega)
          refine dOk_L (fun v_111 ev_111 => ?_)
          try have g_112 : klo (Int32.toNatClampNeg (0 + x2_96)) ≤ Int32.toInt v_111 ∧ Int32.toInt v_111 ≤ khi (Int32.toNatClampNeg (0 + x2_96)) := by rw [ev_111]; exact te_k hT _
          try have f_113 : 0 ≤ Int32.toInt v_111 ∧ Int32.toInt v_111 ≤ 5 := by rw [ev_111]; exact te_2r hT (by omega) (by omega)
          try have f_114 : 0 ≤ Int32.toInt v_111 ∧ Int32.toInt v_111 ≤ 1 := by rw [ev_111]; exact te_2h hT (by omega) (by omega)
          try have f_115 : 0 ≤ Int32.toInt v_111 ∧ Int32.toInt v_111 ≤ 5 := by rw [ev_111]; exact te_2s hT (by omega) (by omega)
          try have f_116 : 0 ≤ Int32.toInt v_111 ∧ Int32.toInt v_111 ≤ 400 := by rw [ev_111]; exact te_2z hT (by omega) (by omega)
          refine dOk_B (ok_lessThan q v_111 hT) (fun r_117 q_118 h_119 => ?_)
          replace h_119 : (q_118 = q) ∧ (0 ≤ Int32.toInt r_117 ∧ Int32.toInt r_117 ≤ 6) := h_119
          obtain ⟨i_120, i_121⟩ := h_119
          subst q_118
          try have t_122 : Int32.toInt (0 + x2_96 + 1) = Int32.toInt (0 + x2_96) + 1 := ti_add rfl (by decide) (by omega) (by omega)
          refine dOk_G (dg_ok (show 0 ≤ Int32.toInt (0 + x2_96 + 1) by omega) (show Int32.toInt (0 + x2_96 + 1) < ((5640 : Nat) : Int) by omega)) ?_
          have n_123 : ((Int32.toNatClampNeg (0 + x2_96 + 1) : Nat) : Int) = Int32.toInt (0 + x2_96 + 1) := cl_eq (by omega)
          refine dOk_L (fun v_124 ev_124 => ?_)
          try have g_125 : klo (Int32.toNatClampNeg (0 + x2_96 + 1)) ≤ Int32.toInt v_124 ∧ Int32.toInt v_124 ≤ khi (Int32.toNatClampNeg (0 + x2_96 + 1)) := by rw [ev_124]; exact te_k hT _
          try have f_126 : 0 ≤ Int32.toInt v_124 ∧ Int32.toInt v_124 ≤ 5 := by rw [ev_124]; exact te_2r hT (by omega) (by omega)
          try have f_127 : 0 ≤ Int32.toInt v_124 ∧ Int32.toInt v_124 ≤ 1 := by rw [ev_124]; exact te_2h hT (by omega) (by omega)
          try have f_128 : 0 ≤ Int32.toInt v_124 ∧ Int32.toInt v_124 ≤ 5 := by rw [ev_124]; exact te_2s hT (by omega) (by omega)
          try have f_129 : 0 ≤ Int32.toInt v_124 ∧ Int32.toInt v_124 ≤ 400 := by rw [ev_124]; exact te_2z hT (by omega) (by omega)
          refine dOk_B (ok_lessThan q v_124 hT) (fun r_130 q_131 h_132 => ?_)
          replace h_132 : (q_131 = q) ∧ (0 ≤ Int32.toInt r_130 ∧ Int32.toInt r_130 ≤ 6) := h_132
          obtain ⟨i_133, i_134⟩ := h_132
          subst q_131
          try have t_135 : Int32.toInt (r_117 - r_130) = Int32.toInt r_117 - Int32.toInt r_130 := ti_sub rfl rfl (by omega) (by omega)
          refine dOk_eq (A := Int32.toInt (r_117 - r_130)) (B := 1) rfl (by decide) (fun c_136z c_136 => ?_) (fun c_137z c_137 => ?_)
          · unfold zX10_gaps_90
            unfold zX10_gaps_95
            try have t_139 : Int32.toInt (x1_95 + 0) = Int32.toInt x1_95 + 0 := ti_add rfl (by decide) (by omega) (by omega)
            exact hk_92 (q, (x1_95 + 0), (x2_96 + 1)) (show (q = q) ∧ (0 ≤ Int32.toInt (x2_96 + 1)) ∧ (Int32.toInt (x2_96 + 1) ≤ 6) from ⟨rfl, by omega, by omega⟩) (show (6 - Int32.toInt (x2_96 + 1)).toNat < (6 - Int32.toInt x2_96).toNat by omega)
          · refine dOk_eq (A := Int32.toInt (r_117 - r_130)) (B := (-1)) rfl (by decide) (fun c_140z c_140 => ?_) (fun c_141z c_141 => ?_)
            · unfold zX10_gaps_90
              unfold zX10_gaps_95
              try have t_143 : Int32.toInt (x1_95 + 0) = Int32.toInt x1_95 + 0 := ti_add rfl (by decide) (by omega) (by omega)
              exact hk_92 (q, (x1_95 + 0), (x2_96 + 1)) (show (q = q) ∧ (0 ≤ Int32.toInt (x2_96 + 1)) ∧ (Int32.toInt (x2_96 + 1) ≤ 6) from ⟨rfl, by omega, by omega⟩) (show (6 - Int32.toInt (x2_96 + 1)).toNat < (6 - Int32.toInt x2_96).toNat by omega)
            · unfold zX10_gaps_95
              try have t_144 : Int32.toInt (x1_95 + 1) = Int32.toInt x1_95 + 1 := ti_add rfl (by decide) (by omega) (by omega)
              exact hk_92 (q, (x1_95 + 1), (x2_96 + 1)) (show (q = q) ∧ (0 ≤ Int32.toInt (x2_96 + 1)) ∧ (Int32.toInt (x2_96 + 1) ≤ 6) from ⟨rfl, by omega, by omega⟩) (show (6 - Int32.toInt (x2_96 + 1)).toNat < (6 - Int32.toInt x2_96).toNat by omega)
      · exact (show (q = q) ∧ (0 ≤ (0 : Int)) ∧ ((0 : Int) ≤ 6) from ⟨rfl, by omega, by omega⟩)
      · show (6 - (0 : Int)).toNat < 1000000000000
        omega
    · unfold zX10_gaps_38
      unfold zX10_gaps_41
      refine dFix_ok (fun (a : dS × Int32 × Int32) => (a.1 = q) ∧ (0 ≤ Int32.toInt a.2.2) ∧ (Int32.toInt a.2.2 ≤ 6)) (fun (a : dS × Int32 × Int32) => (6 - Int32.toInt a.2.2).toNat) ?_ _ ?_ _ (dF_gt ?_)
      · intro a ha k_146 hk_145
        obtain ⟨q_147, x1_148, x2_149⟩ := a
        replace ha : (q_147 = q) ∧ (0 ≤ Int32.toInt x2_149) ∧ (Int32.toInt x2_149 ≤ 6) := ha
        obtain ⟨a_150, a_151, a_152⟩ := ha
        show dOk (zX10_gaps_41b  (fun q x1 x2 => k_146 (q, x1, x2)) q_147 x1_148 x2_149) _
        unfold zX10_gaps_41b
        subst q_147
        refine dOk_B (ok_size q hT) (fun r_153 q_154 h_155 => ?_)
        replace h_155 : (q_154 = q) ∧ (Int32.toInt r_153 = Int32.toInt (q.1 2 29)) ∧ (0 ≤ Int32.toInt r_153 ∧ Int32.toInt r_153 ≤ 6) := h_155
        obtain ⟨i_156, i_157, i_158⟩ := h_155
        subst q_154
        try have t_159 : Int32.toInt (x2_149 + 1) = Int32.toInt x2_149 + 1 := ti_add rfl (by decide) (by omega) (by omega)
        refine dOk_le (A := Int32.toInt r_153) (B := Int32.toInt (x2_149 + 1)) rfl rfl (fun c_160 => ?_) (fun c_161 => ?_)
        · exact dOk_some (show (q = q) from rfl)
        · try have t_162 : Int32.toInt (0 + x2_149) = 0 + Int32.toInt x2_149 := ti_add (by decide) rfl (by omega) (by omega)
          refine dOk_G (dg_ok (show 0 ≤ Int32.toInt (0 + x2_149) by omega) (show Int32.toInt (0 + x2_149) < ((5640 : Nat) : Int) by omega)) ?_
          have n_163 : ((Int32.toNatClampNeg (0 + x2_149) : Nat) : Int) = Int32.toInt (0 + x2_149) := cl_eq (by omega)
          refine dOk_L (fun v_164 ev_164 => ?_)
          try have g_165 : klo (Int32.toNatClampNeg (0 + x2_149)) ≤ Int32.toInt v_164 ∧ Int32.toInt v_164 ≤ khi (Int32.toNatClampNeg (0 + x2_149)) := by rw [ev_164]; exact te_k hT _
          try have f_166 : 0 ≤ Int32.toInt v_164 ∧ Int32.toInt v_164 ≤ 5 := by rw [ev_164]; exact te_2r hT (by omega) (by omega)
          try have f_167 : 0 ≤ Int32.toInt v_164 ∧ Int32.toInt v_164 ≤ 1 := by rw [ev_164]; exact te_2h hT (by omega) (by omega)
          try have f_168 : 0 ≤ Int32.toInt v_164 ∧ Int32.toInt v_164 ≤ 5 := by rw [ev_164]; exact te_2s hT (by omega) (by omega)
          try have f_169 : 0 ≤ Int32.toInt v_164 ∧ Int32.toInt v_164 ≤ 400 := by rw [ev_164]; exact te_2z hT (by omega) (by omega)
          refine dOk_B (ok_lessThan q v_164 hT) (fun r_170 q_171 h_172 => ?_)
          replace h_172 : (q_171 = q) ∧ (0 ≤ Int32.toInt r_170 ∧ Int32.toInt r_170 ≤ 6) := h_172
          obtain ⟨i_173, i_174⟩ := h_172
          subst q_171
          try have t_175 : Int32.toInt (0 + x2_149 + 1) = Int32.toInt (0 + x2_149) + 1 := ti_add rfl (by decide) (by omega) (by omega)
          refine dOk_G (dg_ok (show 0 ≤ Int32.toInt (0 + x2_149 + 1) by omega) (show Int32.toInt (0 + x2_149 + 1) < ((5640 : Nat) : Int) by omega)) ?_
          have n_176 : ((Int32.toNatClampNeg (0 + x2_149 + 1) : Nat) : Int) = Int32.toInt (0 + x2_149 + 1) := cl_eq (by omega)
          refine dOk_L (fun v_177 ev_177 => ?_)
          try have g_178 : klo (Int32.toNatClampNeg (0 + x2_149 + 1)) ≤ Int32.toInt v_177 ∧ Int32.toInt v_177 ≤ khi (Int32.toNatClampNeg (0 + x2_149 + 1)) := by rw [ev_177]; exact te_k hT _
          try have f_179 : 0 ≤ Int32.toInt v_177 ∧ Int32.toInt v_177 ≤ 5 := by rw [ev_177]; exact te_2r hT (by omega) (by omega)
          try have f_180 : 0 ≤ Int32.toInt v_177 ∧ Int32.toInt v_177 ≤ 1 := by rw [ev_177]; exact te_2h hT (by omega) (by omega)
          try have f_181 : 0 ≤ Int32.toInt v_177 ∧ Int32.toInt v_177 ≤ 5 := by rw [ev_177]; exact te_2s hT (by omega) (by omega)
          try have f_182 : 0 ≤ Int32.toInt v_177 ∧ Int32.toInt v_177 ≤ 400 := by rw [ev_177]; exact te_2z hT (by omega) (by omega)
          refine dOk_B (ok_lessThan q v_177 hT) (fun r_183 q_184 h_185 => ?_)
          replace h_185 : (q_184 = q) ∧ (0 ≤ Int32.toInt r_183 ∧ Int32.toInt r_183 ≤ 6) := h_185
          obtain ⟨i_186, i_187⟩ := h_185
          subst q_184
          try have t_188 : Int32.toInt (r_170 - r_183) = Int32.toInt r_170 - Int32.toInt r_183 := ti_sub rfl rfl (by omega) (by omega)
          refine dOk_eq (A := Int32.toInt (r_170 - r_183)) (B := 1) rfl (by decide) (fun c_189z c_189 => ?_) (fun c_190z c_190 => ?_)
          · unfold zX10_gaps_90
            unfold zX10_gaps_95
            try have t_192 : Int32.toInt (x1_148 + 0) = Int32.toInt x1_148 + 0 := ti_add rfl (by decide) (by omega) (by omega)
            exact hk_145 (q, (x1_148 + 0), (x2_149 + 1)) (show (q = q) ∧ (0 ≤ Int32.toInt (x2_149 + 1)) ∧ (Int32.toInt (x2_149 + 1) ≤ 6) from ⟨rfl, by omega, by omega⟩) (show (6 - Int32.toInt (x2_149 + 1)).toNat < (6 - Int32.toInt x2_149).toNat by omega)
          · refine dOk_eq (A := Int32.toInt (r_170 - r_183)) (B := (-1)) rfl (by decide) (fun c_193z c_193 => ?_) (fun c_194z c_194 => ?_)
            · unfold zX10_gaps_90
              unfold zX10_gaps_95
              try have t_196 : Int32.toInt (x1_148 + 0) = Int32.toInt x1_148 + 0 := ti_add rfl (by decide) (by omega) (by omega)
              exact hk_145 (q, (x1_148 + 0), (x2_149 + 1)) (show (q = q) ∧ (0 ≤ Int32.toInt (x2_149 + 1)) ∧ (Int32.toInt (x2_149 + 1) ≤ 6) from ⟨rfl, by omega, by omega⟩) (show (6 - Int32.toInt (x2_149 + 1)).toNat < (6 - Int32.toInt x2_149).toNat by omega)
            · unfold zX10_gaps_95
              try have t_197 : Int32.toInt (x1_148 + 1) = Int32.toInt x1_148 + 1 := ti_add rfl (by decide) (by omega) (by omega)
              exact hk_145 (q, (x1_148 + 1), (x2_149 + 1)) (show (q = q) ∧ (0 ≤ Int32.toInt (x2_149 + 1)) ∧ (Int32.toInt (x2_149 + 1) ≤ 6) from ⟨rfl, by omega, by omega⟩) (show (6 - Int32.toInt (x2_149 + 1)).toNat < (6 - Int32.toInt x2_149).toNat by omega)
      · exact (show (q = q) ∧ (0 ≤ (0 : Int)) ∧ ((0 : Int) ≤ 6) from ⟨rfl, by omega, by omega⟩)
      · show (6 - (0 : Int)).toNat < 1000000000000
        omega

set_option maxHeartbeats 4000000 in
set_option maxRecDepth 100000 in
theorem ok_orderValue (q : dS) (p1 : Int32) (p2 : Int32) (hT : TS q) : dOk (zX10_orderValue q p1 p2) (fun (o : Int32 × dS) => (o.2 = q)) := by
  unfold zX10_orderValue
  refine dOk_eq (A := Int32.toInt p1) (B := 15) rfl (by decide) (fun c_1z c_1 => ?_) (fun c_2z c_2 => ?_)
  · refine dOk_B (ok_isPlace q p2 hT) (fun r_4 q_5 h_6 => ?_)
    replace h_6 : (q_5 = q) ∧ ((Int32.toInt r_4 = 1 ∧ 0 ≤ Int32.toInt p2 ∧ Int32.toInt p2 < Int32.toInt (q.1 2 29)) ∨ (Int32.toInt r_4 = 0 ∧ (Int32.toInt p2 < 0 ∨ Int32.toInt (q.1 2 29) ≤ Int32.toInt p2))) := h_6
    obtain ⟨i_7, i_8⟩ := h_6
    subst q_5
    have f_9 : 0 ≤ Int32.toInt (q.1 2 29) ∧ Int32.toInt (q.1 2 29) ≤ 6 := hT.1 2 29
    refine dOk_eq (A := Int32.toInt r_4) (B := 0) rfl (by decide) (fun c_10z c_10 => ?_) (fun c_11z c_11 => ?_)
    · unfold zX10_orderValue_65
      exact dOk_some (show (q = q) from rfl)
    · try have t_13 : Int32.toInt (6 + p2) = 6 + Int32.toInt p2 := ti_add (by decide) rfl (by omega) (by omega)
      refine dOk_G (dg_ok (show 0 ≤ Int32.toInt (6 + p2) by omega) (show Int32.toInt (6 + p2) < ((5640 : Nat) : Int) by omega)) ?_
      have n_14 : ((Int32.toNatClampNeg (6 + p2) : Nat) : Int) = Int32.toInt (6 + p2) := cl_eq (by omega)
      refine dOk_L (fun v_15 ev_15 => ?_)
      try have g_16 : klo (Int32.toNatClampNeg (6 + p2)) ≤ Int32.toInt v_15 ∧ Int32.toInt v_15 ≤ khi (Int32.toNatClampNeg (6 + p2)) := by rw [ev_15]; exact te_k hT _
      try have f_17 : 0 ≤ Int32.toInt v_15 ∧ Int32.toInt v_15 ≤ 5 := by rw [ev_15]; exact te_2r hT (by omega) (by omega)
      try have f_18 : 0 ≤ Int32.toInt v_15 ∧ Int32.toInt v_15 ≤ 1 := by rw [ev_15]; exact te_2h hT (by omega) (by omega)
      try have f_19 : 0 ≤ Int32.toInt v_15 ∧ Int32.toInt v_15 ≤ 5 := by rw [ev_15]; exact te_2s hT (by omega) (by omega)
      try have f_20 : 0 ≤ Int32.toInt v_15 ∧ Int32.toInt v_15 ≤ 400 := by rw [ev_15]; exact te_2z hT (by omega) (by omega)
      unfold zX10_orderValue_65
      exact dOk_some (show (q = q) from rfl)
  · refine dOk_eq (A := Int32.toInt p1) (B := 16) rfl (by decide) (fun c_21z c_21 => ?_) (fun c_22z c_22 => ?_)
    · have f_24 : 0 ≤ Int32.toInt (q.1 2 13) ∧ Int32.toInt (q.1 2 13) ≤ 999 := hT.1 2 13
      exact dOk_some (show (q = q) from rfl)
    · refine dOk_eq (A := Int32.toInt p1) (B := 17) rfl (by decide) (fun c_25z c_25 => ?_) (fun c_26z c_26 => ?_)
      · exact dOk_some (show (q = q) from rfl)
      · refine dOk_eq (A := Int32.toInt p1) (B := 18) rfl (by decide) (fun c_28z c_28 => ?_) (fun c_29z c_29 => ?_)
        · exact dOk_some (show (q = q) from rfl)
        · refine dOk_eq (A := Int32.toInt p1) (B := 19) rfl (by decide) (fun c_31z c_31 => ?_) (fun c_32z c_32 => ?_)
          · have f_34 : 0 ≤ Int32.toInt (q.1 2 12) ∧ Int32.toInt (q.1 2 12) ≤ 9999 := hT.1 2 12
            exact dOk_some (show (q = q) from rfl)
          · refine dOk_eq (A := Int32.toInt p1) (B := 20) rfl (by decide) (fun c_35z c_35 => ?_) (fun c_36z c_36 => ?_)
            · refine dOk_B (ok_gaps q hT) (fun r_38 q_39 h_40 => ?_)
              replace h_40 : (q_39 = q) := h_40
              have i_41 := h_40
              subst q_39
              exact dOk_some (show (q = q) from rfl)
            · refine dOk_eq (A := Int32.toInt p1) (B := 21) rfl (by decide) (fun c_42z c_42 => ?_) (fun c_43z c_43 => ?_)
              · refine dOk_B (ok_isPlace q p2 hT) (fun r_45 q_46 h_47 => ?_)
                replace h_47 : (q_46 = q) ∧ ((Int32.toInt r_45 = 1 ∧ 0 ≤ Int32.toInt p2 ∧ Int32.toInt p2 < Int32.toInt (q.1 2 29)) ∨ (Int32.toInt r_45 = 0 ∧ (Int32.toInt p2 < 0 ∨ Int32.toInt (q.1 2 29) ≤ Int32.toInt p2))) := h_47
                obtain ⟨i_48, i_49⟩ := h_47
                subst q_46
                have f_50 : 0 ≤ Int32.toInt (q.1 2 29) ∧ Int32.toInt (q.1 2 29) ≤ 6 := hT.1 2 29
                refine dOk_eq (A := Int32.toInt r_45) (B := 0) rfl (by decide) (fun c_51z c_51 => ?_) (fun c_52z c_52 => ?_)
                · unfold zX10_orderValue_86
                  exact dOk_some (show (q = q) from rfl)
                · try have t_54 : Int32.toInt (0 + p2) = 0 + Int32.toInt p2 := ti_add (by decide) rfl (by omega) (by omega)
                  refine dOk_G (dg_ok (show 0 ≤ Int32.toInt (0 + p2) by omega) (show Int32.toInt (0 + p2) < ((5640 : Nat) : Int) by omega)) ?_
                  have n_55 : ((Int32.toNatClampNeg (0 + p2) : Nat) : Int) = Int32.toInt (0 + p2) := cl_eq (by omega)
                  refine dOk_L (fun v_56 ev_56 => ?_)
                  try have g_57 : klo (Int32.toNatClampNeg (0 + p2)) ≤ Int32.toInt v_56 ∧ Int32.toInt v_56 ≤ khi (Int32.toNatClampNeg (0 + p2)) := by rw [ev_56]; exact te_k hT _
                  try have f_58 : 0 ≤ Int32.toInt v_56 ∧ Int32.toInt v_56 ≤ 5 := by rw [ev_56]; exact te_2r hT (by omega) (by omega)
                  try have f_59 : 0 ≤ Int32.toInt v_56 ∧ Int32.toInt v_56 ≤ 1 := by rw [ev_56]; exact te_2h hT (by omega) (by omega)
                  try have f_60 : 0 ≤ Int32.toInt v_56 ∧ Int32.toInt v_56 ≤ 5 := by rw [ev_56]; exact te_2s hT (by omega) (by omega)
                  try have f_61 : 0 ≤ Int32.toInt v_56 ∧ Int32.toInt v_56 ≤ 400 := by rw [ev_56]; exact te_2z hT (by omega) (by omega)
                  unfold zX10_orderValue_86
                  exact dOk_some (show (q = q) from rfl)
              · refine dOk_B (ok_gaps q hT) (fun r_62 q_63 h_64 => ?_)
                replace h_64 : (q_63 = q) := h_64
                have i_65 := h_64
                subst q_63
                exact dOk_some (show (q = q) from rfl)

set_option maxHeartbeats 4000000 in
set_option maxRecDepth 100000 in
theorem ok_isTerm (p1 : Int32) (p2 : Int32) : dOk (zX10_isTerm p1 p2) (fun (o : Int32) => ((Int32.toInt o = 1 ∧ ((Int32.toInt p1 = 0 ∧ 0 ≤ Int32.toInt p2 ∧ Int32.toInt p2 ≤ 999) ∨ (Int32.toInt p1 = 1 ∧ 0 ≤ Int32.toInt p2 ∧ Int32.toInt p2 ≤ 10) ∨ (Int32.toInt p1 = 2 ∧ 0 ≤ Int32.toInt p2 ∧ Int32.toInt p2 ≤ 9) ∨ (Int32.toInt p1 = 3 ∧ 0 ≤ Int32.toInt p2 ∧ Int32.toInt p2 ≤ 1))) ∨ (Int32.toInt o = 0 ∧ (¬ Int32.toInt p1 = 1 ∨ Int32.toInt p2 < 0 ∨ 10 < Int32.toInt p2)))) := by
  unfold zX10_isTerm
  refine dOk_eq (A := Int32.toInt p1) (B := 0) rfl (by decide) (fun c_1z c_1 => ?_) (fun c_2z c_2 => ?_)
  · refine dOk_V (ok_lies p2 0 999) (fun r_4 h_5 => ?_)
    replace h_5 : ((Int32.toInt r_4 = 1 ∧ (0 : Int) ≤ Int32.toInt p2 ∧ Int32.toInt p2 ≤ (999 : Int)) ∨ (Int32.toInt r_4 = 0 ∧ (Int32.toInt p2 < (0 : Int) ∨ (999 : Int) < Int32.toInt p2))) := h_5
    have i_6 := h_5
    refine dOk_G (dbl_ok (show Int32.toInt r_4 = 0 ∨ Int32.toInt r_4 = 1 by omega)) ?_
    exact dOk_some (show ((Int32.toInt r_4 = 1 ∧ ((Int32.toInt p1 = 0 ∧ 0 ≤ Int32.toInt p2 ∧ Int32.toInt p2 ≤ 999) ∨ (Int32.toInt p1 = 1 ∧ 0 ≤ Int32.toInt p2 ∧ Int32.toInt p2 ≤ 10) ∨ (Int32.toInt p1 = 2 ∧ 0 ≤ Int32.toInt p2 ∧ Int32.toInt p2 ≤ 9) ∨ (Int32.toInt p1 = 3 ∧ 0 ≤ Int32.toInt p2 ∧ Int32.toInt p2 ≤ 1))) ∨ (Int32.toInt r_4 = 0 ∧ (¬ Int32.toInt p1 = 1 ∨ Int32.toInt p2 < 0 ∨ 10 < Int32.toInt p2))) from (by omega))
  · refine dOk_eq (A := Int32.toInt p1) (B := 1) rfl (by decide) (fun c_7z c_7 => ?_) (fun c_8z c_8 => ?_)
    · refine dOk_V (ok_lies p2 0 10) (fun r_10 h_11 => ?_)
      replace h_11 : ((Int32.toInt r_10 = 1 ∧ (0 : Int) ≤ Int32.toInt p2 ∧ Int32.toInt p2 ≤ (10 : Int)) ∨ (Int32.toInt r_10 = 0 ∧ (Int32.toInt p2 < (0 : Int) ∨ (10 : Int) < Int32.toInt p2))) := h_11
      have i_12 := h_11
      refine dOk_G (dbl_ok (show Int32.toInt r_10 = 0 ∨ Int32.toInt r_10 = 1 by omega)) ?_
      exact dOk_some (show ((Int32.toInt r_10 = 1 ∧ ((Int32.toInt p1 = 0 ∧ 0 ≤ Int32.toInt p2 ∧ Int32.toInt p2 ≤ 999) ∨ (Int32.toInt p1 = 1 ∧ 0 ≤ Int32.toInt p2 ∧ Int32.toInt p2 ≤ 10) ∨ (Int32.toInt p1 = 2 ∧ 0 ≤ Int32.toInt p2 ∧ Int32.toInt p2 ≤ 9) ∨ (Int32.toInt p1 = 3 ∧ 0 ≤ Int32.toInt p2 ∧ Int32.toInt p2 ≤ 1))) ∨ (Int32.toInt r_10 = 0 ∧ (¬ Int32.toInt p1 = 1 ∨ Int32.toInt p2 < 0 ∨ 10 < Int32.toInt p2))) from (by omega))
    · refine dOk_eq (A := Int32.toInt p1) (B := 2) rfl (by decide) (fun c_13z c_13 => ?_) (fun c_14z c_14 => ?_)
      · refine dOk_V (ok_lies p2 0 9) (fun r_16 h_17 => ?_)
        replace h_17 : ((Int32.toInt r_16 = 1 ∧ (0 : Int) ≤ Int32.toInt p2 ∧ Int32.toInt p2 ≤ (9 : Int)) ∨ (Int32.toInt r_16 = 0 ∧ (Int32.toInt p2 < (0 : Int) ∨ (9 : Int) < Int32.toInt p2))) := h_17
        have i_18 := h_17
        refine dOk_G (dbl_ok (show Int32.toInt r_16 = 0 ∨ Int32.toInt r_16 = 1 by omega)) ?_
        exact dOk_some (show ((Int32.toInt r_16 = 1 ∧ ((Int32.toInt p1 = 0 ∧ 0 ≤ Int32.toInt p2 ∧ Int32.toInt p2 ≤ 999) ∨ (Int32.toInt p1 = 1 ∧ 0 ≤ Int32.toInt p2 ∧ Int32.toInt p2 ≤ 10) ∨ (Int32.toInt p1 = 2 ∧ 0 ≤ Int32.toInt p2 ∧ Int32.toInt p2 ≤ 9) ∨ (Int32.toInt p1 = 3 ∧ 0 ≤ Int32.toInt p2 ∧ Int32.toInt p2 ≤ 1))) ∨ (Int32.toInt r_16 = 0 ∧ (¬ Int32.toInt p1 = 1 ∨ Int32.toInt p2 < 0 ∨ 10 < Int32.toInt p2))) from (by omega))
      · refine dOk_eq (A := Int32.toInt p1) (B := 3) rfl (by decide) (fun c_19z c_19 => ?_) (fun c_20z c_20 => ?_)
        · refine dOk_V (ok_isBit p2) (fun r_22 h_23 => ?_)
          replace h_23 : ((Int32.toInt r_22 = 1 ∧ 0 ≤ Int32.toInt p2 ∧ Int32.toInt p2 ≤ 1) ∨ (Int32.toInt r_22 = 0 ∧ (Int32.toInt p2 < 0 ∨ 1 < Int32.toInt p2))) := h_23
          have i_24 := h_23
          refine dOk_G (dbl_ok (show Int32.toInt r_22 = 0 ∨ Int32.toInt r_22 = 1 by omega)) ?_
          exact dOk_some (show ((Int32.toInt r_22 = 1 ∧ ((Int32.toInt p1 = 0 ∧ 0 ≤ Int32.toInt p2 ∧ Int32.toInt p2 ≤ 999) ∨ (Int32.toInt p1 = 1 ∧ 0 ≤ Int32.toInt p2 ∧ Int32.toInt p2 ≤ 10) ∨ (Int32.toInt p1 = 2 ∧ 0 ≤ Int32.toInt p2 ∧ Int32.toInt p2 ≤ 9) ∨ (Int32.toInt p1 = 3 ∧ 0 ≤ Int32.toInt p2 ∧ Int32.toInt p2 ≤ 1))) ∨ (Int32.toInt r_22 = 0 ∧ (¬ Int32.toInt p1 = 1 ∨ Int32.toInt p2 < 0 ∨ 10 < Int32.toInt p2))) from (by omega))
        · exact dOk_some (show (((0 : Int) = 1 ∧ ((Int32.toInt p1 = 0 ∧ 0 ≤ Int32.toInt p2 ∧ Int32.toInt p2 ≤ 999) ∨ (Int32.toInt p1 = 1 ∧ 0 ≤ Int32.toInt p2 ∧ Int32.toInt p2 ≤ 10) ∨ (Int32.toInt p1 = 2 ∧ 0 ≤ Int32.toInt p2 ∧ Int32.toInt p2 ≤ 9) ∨ (Int32.toInt p1 = 3 ∧ 0 ≤ Int32.toInt p2 ∧ Int32.toInt p2 ≤ 1))) ∨ ((0 : Int) = 0 ∧ (¬ Int32.toInt p1 = 1 ∨ Int32.toInt p2 < 0 ∨ 10 < Int32.toInt p2))) from (by omega))

set_option maxHeartbeats 4000000 in
set_option maxRecDepth 100000 in
theorem ok_termAt (p1 : Int32) : dOk (zX10_termAt p1) (fun (o : Int32) => ((Int32.toInt p1 = 0 ∧ Int32.toInt o = 13) ∨ (Int32.toInt p1 = 1 ∧ Int32.toInt o = 26) ∨ (Int32.toInt p1 = 2 ∧ Int32.toInt o = 27) ∨ (¬ Int32.toInt p1 = 0 ∧ ¬ Int32.toInt p1 = 1 ∧ ¬ Int32.toInt p1 = 2 ∧ Int32.toInt o = 28))) := by
  unfold zX10_termAt
  refine dOk_eq (A := Int32.toInt p1) (B := 0) rfl (by decide) (fun c_1z c_1 => ?_) (fun c_2z c_2 => ?_)
  · unfold zX10_termAt_31
    exact dOk_some (show ((Int32.toInt p1 = 0 ∧ (13 : Int) = 13) ∨ (Int32.toInt p1 = 1 ∧ (13 : Int) = 26) ∨ (Int32.toInt p1 = 2 ∧ (13 : Int) = 27) ∨ (¬ Int32.toInt p1 = 0 ∧ ¬ Int32.toInt p1 = 1 ∧ ¬ Int32.toInt p1 = 2 ∧ (13 : Int) = 28)) from (by omega))
  · refine dOk_eq (A := Int32.toInt p1) (B := 1) rfl (by decide) (fun c_4z c_4 => ?_) (fun c_5z c_5 => ?_)
    · unfold zX10_termAt_31
      exact dOk_some (show ((Int32.toInt p1 = 0 ∧ (26 : Int) = 13) ∨ (Int32.toInt p1 = 1 ∧ (26 : Int) = 26) ∨ (Int32.toInt p1 = 2 ∧ (26 : Int) = 27) ∨ (¬ Int32.toInt p1 = 0 ∧ ¬ Int32.toInt p1 = 1 ∧ ¬ Int32.toInt p1 = 2 ∧ (26 : Int) = 28)) from (by omega))
    · refine dOk_eq (A := Int32.toInt p1) (B := 2) rfl (by decide) (fun c_7z c_7 => ?_) (fun c_8z c_8 => ?_)
      · unfold zX10_termAt_31
        exact dOk_some (show ((Int32.toInt p1 = 0 ∧ (27 : Int) = 13) ∨ (Int32.toInt p1 = 1 ∧ (27 : Int) = 26) ∨ (Int32.toInt p1 = 2 ∧ (27 : Int) = 27) ∨ (¬ Int32.toInt p1 = 0 ∧ ¬ Int32.toInt p1 = 1 ∧ ¬ Int32.toInt p1 = 2 ∧ (27 : Int) = 28)) from (by omega))
      · unfold zX10_termAt_31
        exact dOk_some (show ((Int32.toInt p1 = 0 ∧ (28 : Int) = 13) ∨ (Int32.toInt p1 = 1 ∧ (28 : Int) = 26) ∨ (Int32.toInt p1 = 2 ∧ (28 : Int) = 27) ∨ (¬ Int32.toInt p1 = 0 ∧ ¬ Int32.toInt p1 = 1 ∧ ¬ Int32.toInt p1 = 2 ∧ (28 : Int) = 28)) from (by omega))

set_option maxHeartbeats 4000000 in
set_option maxRecDepth 100000 in
theorem ok_terms (q : dS) (p1 : Int32) (p2 : Int32) (hT : TS q) : dOk (zX10_terms q p1 p2) (fun (o : Int32 × dS) => (TS o.2) ∧ (dFr [1, 2] [0, 32] q o.2) ∧ (Int32.toInt (o.2.1 2 30) = Int32.toInt (q.1 2 30)) ∧ ((Int32.toInt p1 = 1 ∧ 0 ≤ Int32.toInt p2 ∧ Int32.toInt p2 ≤ 10 ∧ Int32.toInt (o.2.1 2 26) = Int32.toInt p2) ∨ ((¬ Int32.toInt p1 = 1 ∨ Int32.toInt p2 < 0 ∨ 10 < Int32.toInt p2) ∧ Int32.toInt (o.2.1 2 26) = Int32.toInt (q.1 2 26)))) := by
  unfold zX10_terms
  refine dOk_V (ok_isTerm p1 p2) (fun r_1 h_2 => ?_)
  replace h_2 : ((Int32.toInt r_1 = 1 ∧ ((Int32.toInt p1 = 0 ∧ 0 ≤ Int32.toInt p2 ∧ Int32.toInt p2 ≤ 999) ∨ (Int32.toInt p1 = 1 ∧ 0 ≤ Int32.toInt p2 ∧ Int32.toInt p2 ≤ 10) ∨ (Int32.toInt p1 = 2 ∧ 0 ≤ Int32.toInt p2 ∧ Int32.toInt p2 ≤ 9) ∨ (Int32.toInt p1 = 3 ∧ 0 ≤ Int32.toInt p2 ∧ Int32.toInt p2 ≤ 1))) ∨ (Int32.toInt r_1 = 0 ∧ (¬ Int32.toInt p1 = 1 ∨ Int32.toInt p2 < 0 ∨ 10 < Int32.toInt p2))) := h_2
  have i_3 := h_2
  refine dOk_eq (A := Int32.toInt r_1) (B := 0) rfl (by decide) (fun c_4z c_4 => ?_) (fun c_5z c_5 => ?_)
  · refine dOk_B (ok_refuses q (-1) hT (show (-6) ≤ (-1 : Int) by omega) (show (-1 : Int) ≤ 0 by omega)) (fun r_7 q_8 h_9 => ?_)
    replace h_9 : (TS q_8) ∧ (dFr [1] [0] q q_8) ∧ (Int32.toInt r_7 = (-1 : Int)) := h_9
    obtain ⟨i_10, i_11, i_12⟩ := h_9
    have hFq_8 : dFr [1, 2] [0, 32] q q_8 := (dFr.rf (q := q)).t i_11 (by decide) (by decide)
    have f_13 : 0 ≤ Int32.toInt (q_8.1 2 30) ∧ Int32.toInt (q_8.1 2 30) ≤ 6 := i_10.1 2 30
    have f_14 : 0 ≤ Int32.toInt (q.1 2 30) ∧ Int32.toInt (q.1 2 30) ≤ 6 := hT.1 2 30
    have w_15 : Int32.toInt (q_8.1 2 30) = Int32.toInt (q.1 2 30) := by rw [i_11.1 2 (by decide) (by decide)]
    have f_16 : 0 ≤ Int32.toInt (q_8.1 2 26) ∧ Int32.toInt (q_8.1 2 26) ≤ 10 := i_10.1 2 26
    have f_17 : 0 ≤ Int32.toInt (q.1 2 26) ∧ Int32.toInt (q.1 2 26) ≤ 10 := hT.1 2 26
    have w_18 : Int32.toInt (q_8.1 2 26) = Int32.toInt (q.1 2 26) := by rw [i_11.1 2 (by decide) (by decide)]
    exact dOk_some (show (TS q_8) ∧ (dFr [1, 2] [0, 32] q q_8) ∧ (Int32.toInt (q_8.1 2 30) = Int32.toInt (q.1 2 30)) ∧ ((Int32.toInt p1 = 1 ∧ 0 ≤ Int32.toInt p2 ∧ Int32.toInt p2 ≤ 10 ∧ Int32.toInt (q_8.1 2 26) = Int32.toInt p2) ∨ ((¬ Int32.toInt p1 = 1 ∨ Int32.toInt p2 < 0 ∨ 10 < Int32.toInt p2) ∧ Int32.toInt (q_8.1 2 26) = Int32.toInt (q.1 2 26))) from ⟨i_10, hFq_8, by omega, by omega⟩)
  · refine dOk_V (ok_termAt p1) (fun r_19 h_20 => ?_)
    replace h_20 : ((Int32.toInt p1 = 0 ∧ Int32.toInt r_19 = 13) ∨ (Int32.toInt p1 = 1 ∧ Int32.toInt r_19 = 26) ∨ (Int32.toInt p1 = 2 ∧ Int32.toInt r_19 = 27) ∨ (¬ Int32.toInt p1 = 0 ∧ ¬ Int32.toInt p1 = 1 ∧ ¬ Int32.toInt p1 = 2 ∧ Int32.toInt r_19 = 28)) := h_20
    have i_21 := h_20
    refine dOk_G (dg_ok (show 0 ≤ Int32.toInt r_19 by omega) (show Int32.toInt r_19 < ((5640 : Nat) : Int) by omega)) ?_
    have n_22 : ((Int32.toNatClampNeg r_19 : Nat) : Int) = Int32.toInt r_19 := cl_eq (by omega)
    refine dOk_L (fun v_23 ev_23 => ?_)
    try have g_24 : klo (Int32.toNatClampNeg r_19) ≤ Int32.toInt v_23 ∧ Int32.toInt v_23 ≤ khi (Int32.toNatClampNeg r_19) := by rw [ev_23]; exact te_k hT _
    try have f_25 : 0 ≤ Int32.toInt v_23 ∧ Int32.toInt v_23 ≤ 5 := by rw [ev_23]; exact te_2r hT (by omega) (by omega)
    try have f_26 : 0 ≤ Int32.toInt v_23 ∧ Int32.toInt v_23 ≤ 1 := by rw [ev_23]; exact te_2h hT (by omega) (by omega)
    try have f_27 : 0 ≤ Int32.toInt v_23 ∧ Int32.toInt v_23 ≤ 5 := by rw [ev_23]; exact te_2s hT (by omega) (by omega)
    try have f_28 : 0 ≤ Int32.toInt v_23 ∧ Int32.toInt v_23 ≤ 400 := by rw [ev_23]; exact te_2z hT (by omega) (by omega)
    refine dOk_V (ok_termAt p1) (fun r_29 h_30 => ?_)
    replace h_30 : ((Int32.toInt p1 = 0 ∧ Int32.toInt r_29 = 13) ∨ (Int32.toInt p1 = 1 ∧ Int32.toInt r_29 = 26) ∨ (Int32.toInt p1 = 2 ∧ Int32.toInt r_29 = 27) ∨ (¬ Int32.toInt p1 = 0 ∧ ¬ Int32.toInt p1 = 1 ∧ ¬ Int32.toInt p1 = 2 ∧ Int32.toInt r_29 = 28)) := h_30
    have i_31 := h_30
    refine dOk_G (dg_ok (show 0 ≤ Int32.toInt r_29 by omega) (show Int32.toInt r_29 < ((5640 : Nat) : Int) by omega)) ?_
    have n_32 : ((Int32.toNatClampNeg r_29 : Nat) : Int) = Int32.toInt r_29 := cl_eq (by omega)
    refine dOk_L (fun q_33 eq_33 => ?_)
    have hTq_33 : TS q_33 := by rw [eq_33]; exact ts_set2 hT (by omega) (show klo (Int32.toNatClampNeg r_29) ≤ Int32.toInt p2 by unfold klo; omega) (show Int32.toInt p2 ≤ khi (Int32.toNatClampNeg r_29) by unfold khi; omega)
    have hFq_33 : dFr [1, 2] [0, 32] q q_33 := by rw [eq_33]; exact (dFr.rf (q := q)).i (by decide) (by decide)
    refine dOk_B (ok_settled q_33 v_23 hTq_33) (fun r_34 q_35 h_36 => ?_)
    replace h_36 : (TS q_35) ∧ (dFr [] [0, 32] q_33 q_35) ∧ (Int32.toInt r_34 = Int32.toInt v_23) := h_36
    obtain ⟨i_37, i_38, i_39⟩ := h_36
    have hFq_35 : dFr [1, 2] [0, 32] q q_35 := hFq_33.t i_38 (by decide) (by decide)
    have f_40 : 0 ≤ Int32.toInt (q_35.1 2 30) ∧ Int32.toInt (q_35.1 2 30) ≤ 6 := i_37.1 2 30
    have f_41 : 0 ≤ Int32.toInt (q_33.1 2 30) ∧ Int32.toInt (q_33.1 2 30) ≤ 6 := hTq_33.1 2 30
    have f_42 : 0 ≤ Int32.toInt (q.1 2 30) ∧ Int32.toInt (q.1 2 30) ≤ 6 := hT.1 2 30
    try have w_43 : Int32.toInt (q_33.1 2 30) = Int32.toInt (q.1 2 30) := by rw [eq_33, dui_n (by omega)]
    have w_44 : Int32.toInt (q_35.1 2 30) = Int32.toInt (q_33.1 2 30) := by rw [i_38.1 2 (by decide) (by decide)]
    have f_45 : 0 ≤ Int32.toInt (q_35.1 2 26) ∧ Int32.toInt (q_35.1 2 26) ≤ 10 := i_37.1 2 26
    have f_46 : 0 ≤ Int32.toInt (q_33.1 2 26) ∧ Int32.toInt (q_33.1 2 26) ≤ 10 := hTq_33.1 2 26
    have f_47 : 0 ≤ Int32.toInt (q.1 2 26) ∧ Int32.toInt (q.1 2 26) ≤ 10 := hT.1 2 26
    have w_48 : ((((Int32.toNatClampNeg r_29) : Nat) : Int) = 26 ∧ Int32.toInt (q_33.1 2 26) = Int32.toInt p2) ∨ (¬ (((Int32.toNatClampNeg r_29) : Nat) : Int) = 26 ∧ Int32.toInt (q_33.1 2 26) = Int32.toInt (q.1 2 26)) := by rw [eq_33]; by_cases c9 : (Int32.toNatClampNeg r_29) = 26; exact Or.inl ⟨by omega, by rw [c9, dui_e]⟩; exact Or.inr ⟨by omega, by rw [dui_n (by omega)]⟩
    have w_49 : Int32.toInt (q_35.1 2 26) = Int32.toInt (q_33.1 2 26) := by rw [i_38.1 2 (by decide) (by decide)]
    exact dOk_some (show (TS q_35) ∧ (dFr [1, 2] [0, 32] q q_35) ∧ (Int32.toInt (q_35.1 2 30) = Int32.toInt (q.1 2 30)) ∧ ((Int32.toInt p1 = 1 ∧ 0 ≤ Int32.toInt p2 ∧ Int32.toInt p2 ≤ 10 ∧ Int32.toInt (q_35.1 2 26) = Int32.toInt p2) ∨ ((¬ Int32.toInt p1 = 1 ∨ Int32.toInt p2 < 0 ∨ 10 < Int32.toInt p2) ∧ Int32.toInt (q_35.1 2 26) = Int32.toInt (q.1 2 26))) from ⟨i_37, hFq_35, by omega, by omega⟩)
