set_option maxHeartbeats 4000000 in
set_option maxRecDepth 100000 in
theorem ok_count (q : dS) (p1 : Int32) (hT : TS q) : dOk (zX10_count q p1) (fun (o : Int32 × dS) => (o.2 = q)) := by
  unfold zX10_count
  refine dOk_eq (A := Int32.toInt p1) (B := 0) rfl (by decide) (fun c_1z c_1 => ?_) (fun c_2z c_2 => ?_)
  · refine dOk_B (ok_size q hT) (fun r_4 q_5 h_6 => ?_)
    replace h_6 : (q_5 = q) ∧ (Int32.toInt r_4 = Int32.toInt (q.1 2 29)) ∧ (0 ≤ Int32.toInt r_4 ∧ Int32.toInt r_4 ≤ 6) := h_6
    obtain ⟨i_7, i_8, i_9⟩ := h_6
    subst q_5
    have f_10 : 0 ≤ Int32.toInt (q.1 2 29) ∧ Int32.toInt (q.1 2 29) ≤ 6 := hT.1 2 29
    exact dOk_some (show (q = q) from rfl)
  · refine dOk_eq (A := Int32.toInt p1) (B := 1) rfl (by decide) (fun c_11z c_11 => ?_) (fun c_12z c_12 => ?_)
    · refine dOk_B (ok_onHeads q hT) (fun r_14 q_15 h_16 => ?_)
      replace h_16 : (q_15 = q) := h_16
      have i_17 := h_16
      subst q_15
      exact dOk_some (show (q = q) from rfl)
    · refine dOk_eq (A := Int32.toInt p1) (B := 2) rfl (by decide) (fun c_18z c_18 => ?_) (fun c_19z c_19 => ?_)
      · have f_21 : 0 ≤ Int32.toInt (q.1 2 12) ∧ Int32.toInt (q.1 2 12) ≤ 9999 := hT.1 2 12
        exact dOk_some (show (q = q) from rfl)
      · refine dOk_eq (A := Int32.toInt p1) (B := 3) rfl (by decide) (fun c_22z c_22 => ?_) (fun c_23z c_23 => ?_)
        · have f_25 : 0 ≤ Int32.toInt (q.1 2 30) ∧ Int32.toInt (q.1 2 30) ≤ 6 := hT.1 2 30
          exact dOk_some (show (q = q) from rfl)
        · refine dOk_eq (A := Int32.toInt p1) (B := 4) rfl (by decide) (fun c_26z c_26 => ?_) (fun c_27z c_27 => ?_)
          · have f_29 : 0 ≤ Int32.toInt (q.1 2 31) ∧ Int32.toInt (q.1 2 31) ≤ 6 := hT.1 2 31
            exact dOk_some (show (q = q) from rfl)
          · refine dOk_eq (A := Int32.toInt p1) (B := 5) rfl (by decide) (fun c_30z c_30 => ?_) (fun c_31z c_31 => ?_)
            · have f_33 : 0 ≤ Int32.toInt (q.1 0 32) ∧ Int32.toInt (q.1 0 32) ≤ 16 := hT.1 0 32
              exact dOk_some (show (q = q) from rfl)
            · refine dOk_eq (A := Int32.toInt p1) (B := 6) rfl (by decide) (fun c_34z c_34 => ?_) (fun c_35z c_35 => ?_)
              · have f_37 : 0 ≤ Int32.toInt (q.1 0 13) ∧ Int32.toInt (q.1 0 13) ≤ 400 := hT.1 0 13
                exact dOk_some (show (q = q) from rfl)
              · refine dOk_eq (A := Int32.toInt p1) (B := 7) rfl (by decide) (fun c_38z c_38 => ?_) (fun c_39z c_39 => ?_)
                · try have t_41 : Int32.toInt (p1 - 6) = Int32.toInt p1 - 6 := ti_sub rfl (by decide) (by omega) (by omega)
                  refine dOk_G (dg_ok (show 0 ≤ Int32.toInt (p1 - 6) by omega) (show Int32.toInt (p1 - 6) < ((7 : Nat) : Int) by omega)) ?_
                  have n_42 : ((Int32.toNatClampNeg (p1 - 6) : Nat) : Int) = Int32.toInt (p1 - 6) := cl_eq (by omega)
                  refine dOk_L (fun v_43 ev_43 => ?_)
                  exact dOk_some (show (q = q) from rfl)
                · refine dOk_eq (A := Int32.toInt p1) (B := 8) rfl (by decide) (fun c_44z c_44 => ?_) (fun c_45z c_45 => ?_)
                  · try have t_47 : Int32.toInt (p1 - 6) = Int32.toInt p1 - 6 := ti_sub rfl (by decide) (by omega) (by omega)
                    refine dOk_G (dg_ok (show 0 ≤ Int32.toInt (p1 - 6) by omega) (show Int32.toInt (p1 - 6) < ((7 : Nat) : Int) by omega)) ?_
                    have n_48 : ((Int32.toNatClampNeg (p1 - 6) : Nat) : Int) = Int32.toInt (p1 - 6) := cl_eq (by omega)
                    refine dOk_L (fun v_49 ev_49 => ?_)
                    exact dOk_some (show (q = q) from rfl)
                  · refine dOk_eq (A := Int32.toInt p1) (B := 9) rfl (by decide) (fun c_50z c_50 => ?_) (fun c_51z c_51 => ?_)
                    · try have t_53 : Int32.toInt (p1 - 6) = Int32.toInt p1 - 6 := ti_sub rfl (by decide) (by omega) (by omega)
                      refine dOk_G (dg_ok (show 0 ≤ Int32.toInt (p1 - 6) by omega) (show Int32.toInt (p1 - 6) < ((7 : Nat) : Int) by omega)) ?_
                      have n_54 : ((Int32.toNatClampNeg (p1 - 6) : Nat) : Int) = Int32.toInt (p1 - 6) := cl_eq (by omega)
                      refine dOk_L (fun v_55 ev_55 => ?_)
                      exact dOk_some (show (q = q) from rfl)
                    · refine dOk_eq (A := Int32.toInt p1) (B := 10) rfl (by decide) (fun c_56z c_56 => ?_) (fun c_57z c_57 => ?_)
                      · exact dOk_some (show (q = q) from rfl)
                      · refine dOk_eq (A := Int32.toInt p1) (B := 11) rfl (by decide) (fun c_59z c_59 => ?_) (fun c_60z c_60 => ?_)
                        · exact dOk_some (show (q = q) from rfl)
                        · refine dOk_eq (A := Int32.toInt p1) (B := 12) rfl (by decide) (fun c_62z c_62 => ?_) (fun c_63z c_63 => ?_)
                          · have f_65 : -1 ≤ Int32.toInt (q.1 2 32) ∧ Int32.toInt (q.1 2 32) ≤ 5 := hT.1 2 32
                            have f_66 : 0 ≤ Int32.toInt (q.1 2 31) ∧ Int32.toInt (q.1 2 31) ≤ 6 := hT.1 2 31
                            have k_67 : Int32.toInt (q.1 2 32) < Int32.toInt (q.1 2 31) := hT.2.1.1
                            exact dOk_some (show (q = q) from rfl)
                          · refine dOk_eq (A := Int32.toInt p1) (B := 13) rfl (by decide) (fun c_68z c_68 => ?_) (fun c_69z c_69 => ?_)
                            · try have t_71 : Int32.toInt (p1 - 13) = Int32.toInt p1 - 13 := ti_sub rfl (by decide) (by omega) (by omega)
                              refine dOk_V (ok_termAt (p1 - 13)) (fun r_72 h_73 => ?_)
                              replace h_73 : ((Int32.toInt (p1 - 13) = 0 ∧ Int32.toInt r_72 = 13) ∨ (Int32.toInt (p1 - 13) = 1 ∧ Int32.toInt r_72 = 26) ∨ (Int32.toInt (p1 - 13) = 2 ∧ Int32.toInt r_72 = 27) ∨ (¬ Int32.toInt (p1 - 13) = 0 ∧ ¬ Int32.toInt (p1 - 13) = 1 ∧ ¬ Int32.toInt (p1 - 13) = 2 ∧ Int32.toInt r_72 = 28)) := h_73
                              have i_74 := h_73
                              refine dOk_G (dg_ok (show 0 ≤ Int32.toInt r_72 by omega) (show Int32.toInt r_72 < ((5640 : Nat) : Int) by omega)) ?_
                              have n_75 : ((Int32.toNatClampNeg r_72 : Nat) : Int) = Int32.toInt r_72 := cl_eq (by omega)
                              refine dOk_L (fun v_76 ev_76 => ?_)
                              try have g_77 : klo (Int32.toNatClampNeg r_72) ≤ Int32.toInt v_76 ∧ Int32.toInt v_76 ≤ khi (Int32.toNatClampNeg r_72) := by rw [ev_76]; exact te_k hT _
                              try have f_78 : 0 ≤ Int32.toInt v_76 ∧ Int32.toInt v_76 ≤ 5 := by rw [ev_76]; exact te_2r hT (by omega) (by omega)
                              try have f_79 : 0 ≤ Int32.toInt v_76 ∧ Int32.toInt v_76 ≤ 1 := by rw [ev_76]; exact te_2h hT (by omega) (by omega)
                              try have f_80 : 0 ≤ Int32.toInt v_76 ∧ Int32.toInt v_76 ≤ 5 := by rw [ev_76]; exact te_2s hT (by omega) (by omega)
                              try have f_81 : 0 ≤ Int32.toInt v_76 ∧ Int32.toInt v_76 ≤ 400 := by rw [ev_76]; exact te_2z hT (by omega) (by omega)
                              exact dOk_some (show (q = q) from rfl)
                            · refine dOk_eq (A := Int32.toInt p1) (B := 14) rfl (by decide) (fun c_82z c_82 => ?_) (fun c_83z c_83 => ?_)
                              · try have t_85 : Int32.toInt (p1 - 13) = Int32.toInt p1 - 13 := ti_sub rfl (by decide) (by omega) (by omega)
                                refine dOk_V (ok_termAt (p1 - 13)) (fun r_86 h_87 => ?_)
                                replace h_87 : ((Int32.toInt (p1 - 13) = 0 ∧ Int32.toInt r_86 = 13) ∨ (Int32.toInt (p1 - 13) = 1 ∧ Int32.toInt r_86 = 26) ∨ (Int32.toInt (p1 - 13) = 2 ∧ Int32.toInt r_86 = 27) ∨ (¬ Int32.toInt (p1 - 13) = 0 ∧ ¬ Int32.toInt (p1 - 13) = 1 ∧ ¬ Int32.toInt (p1 - 13) = 2 ∧ Int32.toInt r_86 = 28)) := h_87
                                have i_88 := h_87
                                refine dOk_G (dg_ok (show 0 ≤ Int32.toInt r_86 by omega) (show Int32.toInt r_86 < ((5640 : Nat) : Int) by omega)) ?_
                                have n_89 : ((Int32.toNatClampNeg r_86 : Nat) : Int) = Int32.toInt r_86 := cl_eq (by omega)
                                refine dOk_L (fun v_90 ev_90 => ?_)
                                try have g_91 : klo (Int32.toNatClampNeg r_86) ≤ Int32.toInt v_90 ∧ Int32.toInt v_90 ≤ khi (Int32.toNatClampNeg r_86) := by rw [ev_90]; exact te_k hT _
                                try have f_92 : 0 ≤ Int32.toInt v_90 ∧ Int32.toInt v_90 ≤ 5 := by rw [ev_90]; exact te_2r hT (by omega) (by omega)
                                try have f_93 : 0 ≤ Int32.toInt v_90 ∧ Int32.toInt v_90 ≤ 1 := by rw [ev_90]; exact te_2h hT (by omega) (by omega)
                                try have f_94 : 0 ≤ Int32.toInt v_90 ∧ Int32.toInt v_90 ≤ 5 := by rw [ev_90]; exact te_2s hT (by omega) (by omega)
                                try have f_95 : 0 ≤ Int32.toInt v_90 ∧ Int32.toInt v_90 ≤ 400 := by rw [ev_90]; exact te_2z hT (by omega) (by omega)
                                exact dOk_some (show (q = q) from rfl)
                              · refine dOk_eq (A := Int32.toInt p1) (B := 15) rfl (by decide) (fun c_96z c_96 => ?_) (fun c_97z c_97 => ?_)
                                · try have t_99 : Int32.toInt (p1 - 13) = Int32.toInt p1 - 13 := ti_sub rfl (by decide) (by omega) (by omega)
                                  refine dOk_V (ok_termAt (p1 - 13)) (fun r_100 h_101 => ?_)
                                  replace h_101 : ((Int32.toInt (p1 - 13) = 0 ∧ Int32.toInt r_100 = 13) ∨ (Int32.toInt (p1 - 13) = 1 ∧ Int32.toInt r_100 = 26) ∨ (Int32.toInt (p1 - 13) = 2 ∧ Int32.toInt r_100 = 27) ∨ (¬ Int32.toInt (p1 - 13) = 0 ∧ ¬ Int32.toInt (p1 - 13) = 1 ∧ ¬ Int32.toInt (p1 - 13) = 2 ∧ Int32.toInt r_100 = 28)) := h_101
                                  have i_102 := h_101
                                  refine dOk_G (dg_ok (show 0 ≤ Int32.toInt r_100 by omega) (show Int32.toInt r_100 < ((5640 : Nat) : Int) by omega)) ?_
                                  have n_103 : ((Int32.toNatClampNeg r_100 : Nat) : Int) = Int32.toInt r_100 := cl_eq (by omega)
                                  refine dOk_L (fun v_104 ev_104 => ?_)
                                  try have g_105 : klo (Int32.toNatClampNeg r_100) ≤ Int32.toInt v_104 ∧ Int32.toInt v_104 ≤ khi (Int32.toNatClampNeg r_100) := by rw [ev_104]; exact te_k hT _
                                  try have f_106 : 0 ≤ Int32.toInt v_104 ∧ Int32.toInt v_104 ≤ 5 := by rw [ev_104]; exact te_2r hT (by omega) (by omega)
                                  try have f_107 : 0 ≤ Int32.toInt v_104 ∧ Int32.toInt v_104 ≤ 1 := by rw [ev_104]; exact te_2h hT (by omega) (by omega)
                                  try have f_108 : 0 ≤ Int32.toInt v_104 ∧ Int32.toInt v_104 ≤ 5 := by rw [ev_104]; exact te_2s hT (by omega) (by omega)
                                  try have f_109 : 0 ≤ Int32.toInt v_104 ∧ Int32.toInt v_104 ≤ 400 := by rw [ev_104]; exact te_2z hT (by omega) (by omega)
                                  exact dOk_some (show (q = q) from rfl)
                                · refine dOk_eq (A := Int32.toInt p1) (B := 16) rfl (by decide) (fun c_110z c_110 => ?_) (fun c_111z c_111 => ?_)
                                  · try have t_113 : Int32.toInt (p1 - 13) = Int32.toInt p1 - 13 := ti_sub rfl (by decide) (by omega) (by omega)
                                    refine dOk_V (ok_termAt (p1 - 13)) (fun r_114 h_115 => ?_)
                                    replace h_115 : ((Int32.toInt (p1 - 13) = 0 ∧ Int32.toInt r_114 = 13) ∨ (Int32.toInt (p1 - 13) = 1 ∧ Int32.toInt r_114 = 26) ∨ (Int32.toInt (p1 - 13) = 2 ∧ Int32.toInt r_114 = 27) ∨ (¬ Int32.toInt (p1 - 13) = 0 ∧ ¬ Int32.toInt (p1 - 13) = 1 ∧ ¬ Int32.toInt (p1 - 13) = 2 ∧ Int32.toInt r_114 = 28)) := h_115
                                    have i_116 := h_115
                                    refine dOk_G (dg_ok (show 0 ≤ Int32.toInt r_114 by omega) (show Int32.toInt r_114 < ((5640 : Nat) : Int) by omega)) ?_
                                    have n_117 : ((Int32.toNatClampNeg r_114 : Nat) : Int) = Int32.toInt r_114 := cl_eq (by omega)
                                    refine dOk_L (fun v_118 ev_118 => ?_)
                                    try have g_119 : klo (Int32.toNatClampNeg r_114) ≤ Int32.toInt v_118 ∧ Int32.toInt v_118 ≤ khi (Int32.toNatClampNeg r_114) := by rw [ev_118]; exact te_k hT _
                                    try have f_120 : 0 ≤ Int32.toInt v_118 ∧ Int32.toInt v_118 ≤ 5 := by rw [ev_118]; exact te_2r hT (by omega) (by omega)
                                    try have f_121 : 0 ≤ Int32.toInt v_118 ∧ Int32.toInt v_118 ≤ 1 := by rw [ev_118]; exact te_2h hT (by omega) (by omega)
                                    try have f_122 : 0 ≤ Int32.toInt v_118 ∧ Int32.toInt v_118 ≤ 5 := by rw [ev_118]; exact te_2s hT (by omega) (by omega)
                                    try have f_123 : 0 ≤ Int32.toInt v_118 ∧ Int32.toInt v_118 ≤ 400 := by rw [ev_118]; exact te_2z hT (by omega) (by omega)
                                    exact dOk_some (show (q = q) from rfl)
                                  · refine dOk_eq (A := Int32.toInt p1) (B := 17) rfl (by decide) (fun c_124z c_124 => ?_) (fun c_125z c_125 => ?_)
                                    · refine dOk_B (ok_isOrderedNow q hT) (fun r_127 q_128 h_129 => ?_)
                                      replace h_129 : (q_128 = q) ∧ ((Int32.toInt r_127 = 0 ∨ Int32.toInt r_127 = 1)) := h_129
                                      obtain ⟨i_130, i_131⟩ := h_129
                                      subst q_128
                                      refine dOk_eq (A := Int32.toInt r_127) (B := 0) rfl (by decide) (fun c_132z c_132 => ?_) (fun c_133z c_133 => ?_)
                                      · unfold zX10_count_190
                                        exact dOk_some (show (q = q) from rfl)
                                      · unfold zX10_count_190
                                        exact dOk_some (show (q = q) from rfl)
                                    · exact dOk_some (show (q = q) from rfl)
