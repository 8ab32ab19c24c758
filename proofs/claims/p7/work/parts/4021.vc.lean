set_option maxHeartbeats 4000000 in
set_option maxRecDepth 100000 in
theorem ok_canStay (q : dS) (p1 : Int32) (hT : TS q) : dOk (zX10_canStay q p1) (fun (o : Int32 × dS) => (o.2 = q) ∧ ((Int32.toInt o.1 = 0 ∨ Int32.toInt o.1 = 1))) := by
  unfold zX10_canStay
  unfold zX10_canStay_7
  refine dFix_ok (fun (a : dS × Int32 × Int32 × Int32 × Int32) => (a.1 = q) ∧ (a.2.1 = p1) ∧ (0 ≤ Int32.toInt a.2.2.2.2) ∧ (Int32.toInt a.2.2.2.2 ≤ 6) ∧ (Int32.toInt a.2.2.2.1 = 0 ∨ Int32.toInt a.2.2.2.1 = 1)) (fun (a : dS × Int32 × Int32 × Int32 × Int32) => (6 - Int32.toInt a.2.2.2.2).toNat) ?_ _ ?_ _ (dF_gt ?_)
  · intro a ha k_2 hk_1
    obtain ⟨q_3, x1_4, x2_5, x3_6, x4_7⟩ := a
    have ha : (q_3 = q) ∧ (x1_4 = p1) ∧ (0 ≤ Int32.toInt x4_7) ∧ (Int32.toInt x4_7 ≤ 6) ∧ (Int32.toInt x3_6 = 0 ∨ Int32.toInt x3_6 = 1) := ha
    obtain ⟨a_8, a_9, a_10, a_11, a_12⟩ := ha
    show dOk (zX10_canStay_7b  (fun q x1 x2 x3 x4 => k_2 (q, x1, x2, x3, x4)) q_3 x1_4 x2_5 x3_6 x4_7) _
    unfold zX10_canStay_7b
    subst q_3
    subst x1_4
    refine dOk_B (ok_size q hT) (fun r_13 q_14 h_15 => ?_)
    have h_15 : (q_14 = q) ∧ (Int32.toInt r_13 = Int32.toInt (q.1 2 29)) ∧ (0 ≤ Int32.toInt r_13 ∧ Int32.toInt r_13 ≤ 6) := h_15
    obtain ⟨i_16, i_17, i_18⟩ := h_15
    subst q_14
    have f_19 : 0 ≤ Int32.toInt (q.1 2 29) ∧ Int32.toInt (q.1 2 29) ≤ 6 := hT.1 2 29
    refine dOk_le (A := Int32.toInt r_13) (B := Int32.toInt x4_7) rfl rfl (fun c_20 => ?_) (fun c_21 => ?_)
    · refine dOk_G (dbl_ok (show Int32.toInt x3_6 = 0 ∨ Int32.toInt x3_6 = 1 by omega)) ?_
      exact dOk_some (show (q = q) ∧ ((Int32.toInt x3_6 = 0 ∨ Int32.toInt x3_6 = 1)) from ⟨rfl, by omega⟩)
    · refine dOk_V (ok_isIn p1 x4_7) (fun r_22 h_23 => ?_)
      have h_23 : ((Int32.toInt r_22 = 0 ∨ Int32.toInt r_22 = 1)) := h_23
      have i_24 := h_23
      refine dOk_eq (A := Int32.toInt r_22) (B := 0) rfl (by decide) (fun c_25z c_25 => ?_) (fun c_26z c_26 => ?_)
      · unfold zX10_canStay_84
        try have t_28 : Int32.toInt (x4_7 + 1) = Int32.toInt x4_7 + 1 := ti_add rfl (by decide) (by omega) (by omega)
        exact hk_1 (q, p1, x2_5, x3_6, (x4_7 + 1)) (show (q = q) ∧ (p1 = p1) ∧ (0 ≤ Int32.toInt (x4_7 + 1)) ∧ (Int32.toInt (x4_7 + 1) ≤ 6) ∧ (Int32.toInt x3_6 = 0 ∨ Int32.toInt x3_6 = 1) from ⟨rfl, rfl, by omega, by omega, by omega⟩) (show (6 - Int32.toInt (x4_7 + 1)).toNat < (6 - Int32.toInt x4_7).toNat by omega)
      · refine dOk_eq (A := Int32.toInt x3_6) (B := 0) rfl (by decide) (fun c_29z c_29 => ?_) (fun c_30z c_30 => ?_)
        · unfold zX10_canStay_72
          unfold zX10_canStay_73
          try have t_32 : Int32.toInt (0 + x4_7) = 0 + Int32.toInt x4_7 := ti_add (by decide) rfl (by omega) (by omega)
          refine dOk_G (dg_ok (show 0 ≤ Int32.toInt (0 + x4_7) by omega) (show Int32.toInt (0 + x4_7) < ((5640 : Nat) : Int) by omega)) ?_
          have n_33 : ((Int32.toNatClampNeg (0 + x4_7) : Nat) : Int) = Int32.toInt (0 + x4_7) := cl_eq (by omega)
          refine dOk_L (fun v_34 ev_34 => ?_)
          try have g_35 : klo (Int32.toNatClampNeg (0 + x4_7)) ≤ Int32.toInt v_34 ∧ Int32.toInt v_34 ≤ khi (Int32.toNatClampNeg (0 + x4_7)) := by rw [ev_34]; exact te_k hT _
          try have f_36 : 0 ≤ Int32.toInt v_34 ∧ Int32.toInt v_34 ≤ 5 := by rw [ev_34]; exact te_2r hT (by omega) (by omega)
          try have f_37 : 0 ≤ Int32.toInt v_34 ∧ Int32.toInt v_34 ≤ 1 := by rw [ev_34]; exact te_2h hT (by omega) (by omega)
          try have f_38 : 0 ≤ Int32.toInt v_34 ∧ Int32.toInt v_34 ≤ 5 := by rw [ev_34]; exact te_2s hT (by omega) (by omega)
          try have f_39 : 0 ≤ Int32.toInt v_34 ∧ Int32.toInt v_34 ≤ 400 := by rw [ev_34]; exact te_2z hT (by omega) (by omega)
          unfold zX10_canStay_84
          have l_40 : Int32.toInt 0 = 0 := by decide
          try have t_41 : Int32.toInt (x4_7 + 1) = Int32.toInt x4_7 + 1 := ti_add rfl (by decide) (by omega) (by omega)
          exact hk_1 (q, p1, v_34, 0, (x4_7 + 1)) (show (q = q) ∧ (p1 = p1) ∧ (0 ≤ Int32.toInt (x4_7 + 1)) ∧ (Int32.toInt (x4_7 + 1) ≤ 6) ∧ (Int32.toInt 0 = 0 ∨ Int32.toInt 0 = 1) from ⟨rfl, rfl, by omega, by omega, by omega⟩) (show (6 - Int32.toInt (x4_7 + 1)).toNat < (6 - Int32.toInt x4_7).toNat by omega)
        · try have t_42 : Int32.toInt (0 + x4_7) = 0 + Int32.toInt x4_7 := ti_add (by decide) rfl (by omega) (by omega)
          refine dOk_G (dg_ok (show 0 ≤ Int32.toInt (0 + x4_7) by omega) (show Int32.toInt (0 + x4_7) < ((5640 : Nat) : Int) by omega)) ?_
          have n_43 : ((Int32.toNatClampNeg (0 + x4_7) : Nat) : Int) = Int32.toInt (0 + x4_7) := cl_eq (by omega)
          refine dOk_L (fun v_44 ev_44 => ?_)
          try have g_45 : klo (Int32.toNatClampNeg (0 + x4_7)) ≤ Int32.toInt v_44 ∧ Int32.toInt v_44 ≤ khi (Int32.toNatClampNeg (0 + x4_7)) := by rw [ev_44]; exact te_k hT _
          try have f_46 : 0 ≤ Int32.toInt v_44 ∧ Int32.toInt v_44 ≤ 5 := by rw [ev_44]; exact te_2r hT (by omega) (by omega)
          try have f_47 : 0 ≤ Int32.toInt v_44 ∧ Int32.toInt v_44 ≤ 1 := by rw [ev_44]; exact te_2h hT (by omega) (by omega)
          try have f_48 : 0 ≤ Int32.toInt v_44 ∧ Int32.toInt v_44 ≤ 5 := by rw [ev_44]; exact te_2s hT (by omega) (by omega)
          try have f_49 : 0 ≤ Int32.toInt v_44 ∧ Int32.toInt v_44 ≤ 400 := by rw [ev_44]; exact te_2z hT (by omega) (by omega)
          refine dOk_le (A := Int32.toInt v_44) (B := Int32.toInt x2_5) rfl rfl (fun c_50 => ?_) (fun c_51 => ?_)
          · unfold zX10_canStay_72
            unfold zX10_canStay_73
            refine dOk_G (dg_ok (show 0 ≤ Int32.toInt (0 + x4_7) by omega) (show Int32.toInt (0 + x4_7) < ((5640 : Nat) : Int) by omega)) ?_
            refine dOk_L (fun v_52 ev_52 => ?_)
            have w_53 : Int32.toInt v_52 = Int32.toInt v_44 := by rw [ev_52, ev_44]
            try have g_54 : klo (Int32.toNatClampNeg (0 + x4_7)) ≤ Int32.toInt v_52 ∧ Int32.toInt v_52 ≤ khi (Int32.toNatClampNeg (0 + x4_7)) := by rw [ev_52]; exact te_k hT _
            try have f_55 : 0 ≤ Int32.toInt v_52 ∧ Int32.toInt v_52 ≤ 5 := by rw [ev_52]; exact te_2r hT (by omega) (by omega)
            try have f_56 : 0 ≤ Int32.toInt v_52 ∧ Int32.toInt v_52 ≤ 1 := by rw [ev_52]; exact te_2h hT (by omega) (by omega)
            try have f_57 : 0 ≤ Int32.toInt v_52 ∧ Int32.toInt v_52 ≤ 5 := by rw [ev_52]; exact te_2s hT (by omega) (by omega)
            try have f_58 : 0 ≤ Int32.toInt v_52 ∧ Int32.toInt v_52 ≤ 400 := by rw [ev_52]; exact te_2z hT (by omega) (by omega)
            unfold zX10_canStay_84
            have l_59 : Int32.toInt 0 = 0 := by decide
            try have t_60 : Int32.toInt (x4_7 + 1) = Int32.toInt x4_7 + 1 := ti_add rfl (by decide) (by omega) (by omega)
            exact hk_1 (q, p1, v_52, 0, (x4_7 + 1)) (show (q = q) ∧ (p1 = p1) ∧ (0 ≤ Int32.toInt (x4_7 + 1)) ∧ (Int32.toInt (x4_7 + 1) ≤ 6) ∧ (Int32.toInt 0 = 0 ∨ Int32.toInt 0 = 1) from ⟨rfl, rfl, by omega, by omega, by omega⟩) (show (6 - Int32.toInt (x4_7 + 1)).toNat < (6 - Int32.toInt x4_7).toNat by omega)
          · have f_61 : 0 ≤ Int32.toInt (q.1 2 28) ∧ Int32.toInt (q.1 2 28) ≤ 1 := hT.1 2 28
            refine dOk_eq (A := Int32.toInt (q.1 2 28)) (B := 0) rfl (by decide) (fun c_62z c_62 => ?_) (fun c_63z c_63 => ?_)
            · unfold zX10_canStay_68
              unfold zX10_canStay_73
              refine dOk_G (dg_ok (show 0 ≤ Int32.toInt (0 + x4_7) by omega) (show Int32.toInt (0 + x4_7) < ((5640 : Nat) : Int) by omega)) ?_
              refine dOk_L (fun v_65 ev_65 => ?_)
              have w_66 : Int32.toInt v_65 = Int32.toInt v_44 := by rw [ev_65, ev_44]
              try have g_67 : klo (Int32.toNatClampNeg (0 + x4_7)) ≤ Int32.toInt v_65 ∧ Int32.toInt v_65 ≤ khi (Int32.toNatClampNeg (0 + x4_7)) := by rw [ev_65]; exact te_k hT _
              try have f_68 : 0 ≤ Int32.toInt v_65 ∧ Int32.toInt v_65 ≤ 5 := by rw [ev_65]; exact te_2r hT (by omega) (by omega)
              try have f_69 : 0 ≤ Int32.toInt v_65 ∧ Int32.toInt v_65 ≤ 1 := by rw [ev_65]; exact te_2h hT (by omega) (by omega)
              try have f_70 : 0 ≤ Int32.toInt v_65 ∧ Int32.toInt v_65 ≤ 5 := by rw [ev_65]; exact te_2s hT (by omega) (by omega)
              try have f_71 : 0 ≤ Int32.toInt v_65 ∧ Int32.toInt v_65 ≤ 400 := by rw [ev_65]; exact te_2z hT (by omega) (by omega)
              unfold zX10_canStay_84
              have l_72 : Int32.toInt 1 = 1 := by decide
              try have t_73 : Int32.toInt (x4_7 + 1) = Int32.toInt x4_7 + 1 := ti_add rfl (by decide) (by omega) (by omega)
              exact hk_1 (q, p1, v_65, 1, (x4_7 + 1)) (show (q = q) ∧ (p1 = p1) ∧ (0 ≤ Int32.toInt (x4_7 + 1)) ∧ (Int32.toInt (x4_7 + 1) ≤ 6) ∧ (Int32.toInt 1 = 0 ∨ Int32.toInt 1 = 1) from ⟨rfl, rfl, by omega, by omega, by omega⟩) (show (6 - Int32.toInt (x4_7 + 1)).toNat < (6 - Int32.toInt x4_7).toNat by omega)
            · try have t_74 : Int32.toInt (6 + x4_7) = 6 + Int32.toInt x4_7 := ti_add (by decide) rfl (by omega) (by omega)
              refine dOk_G (dg_ok (show 0 ≤ Int32.toInt (6 + x4_7) by omega) (show Int32.toInt (6 + x4_7) < ((5640 : Nat) : Int) by omega)) ?_
              have n_75 : ((Int32.toNatClampNeg (6 + x4_7) : Nat) : Int) = Int32.toInt (6 + x4_7) := cl_eq (by omega)
              refine dOk_L (fun v_76 ev_76 => ?_)
              try have g_77 : klo (Int32.toNatClampNeg (6 + x4_7)) ≤ Int32.toInt v_76 ∧ Int32.toInt v_76 ≤ khi (Int32.toNatClampNeg (6 + x4_7)) := by rw [ev_76]; exact te_k hT _
              try have f_78 : 0 ≤ Int32.toInt v_76 ∧ Int32.toInt v_76 ≤ 5 := by rw [ev_76]; exact te_2r hT (by omega) (by omega)
              try have f_79 : 0 ≤ Int32.toInt v_76 ∧ Int32.toInt v_76 ≤ 1 := by rw [ev_76]; exact te_2h hT (by omega) (by omega)
              try have f_80 : 0 ≤ Int32.toInt v_76 ∧ Int32.toInt v_76 ≤ 5 := by rw [ev_76]; exact te_2s hT (by omega) (by omega)
              try have f_81 : 0 ≤ Int32.toInt v_76 ∧ Int32.toInt v_76 ≤ 400 := by rw [ev_76]; exact te_2z hT (by omega) (by omega)
              refine dOk_eq (A := Int32.toInt v_76) (B := 0) rfl (by decide) (fun c_82z c_82 => ?_) (fun c_83z c_83 => ?_)
              · unfold zX10_canStay_68
                unfold zX10_canStay_73
                refine dOk_G (dg_ok (show 0 ≤ Int32.toInt (0 + x4_7) by omega) (show Int32.toInt (0 + x4_7) < ((5640 : Nat) : Int) by omega)) ?_
                refine dOk_L (fun v_85 ev_85 => ?_)
                have w_86 : Int32.toInt v_85 = Int32.toInt v_44 := by rw [ev_85, ev_44]
                try have g_87 : klo (Int32.toNatClampNeg (0 + x4_7)) ≤ Int32.toInt v_85 ∧ Int32.toInt v_85 ≤ khi (Int32.toNatClampNeg (0 + x4_7)) := by rw [ev_85]; exact te_k hT _
                try have f_88 : 0 ≤ Int32.toInt v_85 ∧ Int32.toInt v_85 ≤ 5 := by rw [ev_85]; exact te_2r hT (by omega) (by omega)
                try have f_89 : 0 ≤ Int32.toInt v_85 ∧ Int32.toInt v_85 ≤ 1 := by rw [ev_85]; exact te_2h hT (by omega) (by omega)
                try have f_90 : 0 ≤ Int32.toInt v_85 ∧ Int32.toInt v_85 ≤ 5 := by rw [ev_85]; exact te_2s hT (by omega) (by omega)
                try have f_91 : 0 ≤ Int32.toInt v_85 ∧ Int32.toInt v_85 ≤ 400 := by rw [ev_85]; exact te_2z hT (by omega) (by omega)
                unfold zX10_canStay_84
                have l_92 : Int32.toInt 1 = 1 := by decide
                try have t_93 : Int32.toInt (x4_7 + 1) = Int32.toInt x4_7 + 1 := ti_add rfl (by decide) (by omega) (by omega)
                exact hk_1 (q, p1, v_85, 1, (x4_7 + 1)) (show (q = q) ∧ (p1 = p1) ∧ (0 ≤ Int32.toInt (x4_7 + 1)) ∧ (Int32.toInt (x4_7 + 1) ≤ 6) ∧ (Int32.toInt 1 = 0 ∨ Int32.toInt 1 = 1) from ⟨rfl, rfl, by omega, by omega, by omega⟩) (show (6 - Int32.toInt (x4_7 + 1)).toNat < (6 - Int32.toInt x4_7).toNat by omega)
              · unfold zX10_canStay_72
                unfold zX10_canStay_73
                refine dOk_G (dg_ok (show 0 ≤ Int32.toInt (0 + x4_7) by omega) (show Int32.toInt (0 + x4_7) < ((5640 : Nat) : Int) by omega)) ?_
                refine dOk_L (fun v_94 ev_94 => ?_)
                have w_95 : Int32.toInt v_94 = Int32.toInt v_44 := by rw [ev_94, ev_44]
                try have g_96 : klo (Int32.toNatClampNeg (0 + x4_7)) ≤ Int32.toInt v_94 ∧ Int32.toInt v_94 ≤ khi (Int32.toNatClampNeg (0 + x4_7)) := by rw [ev_94]; exact te_k hT _
                try have f_97 : 0 ≤ Int32.toInt v_94 ∧ Int32.toInt v_94 ≤ 5 := by rw [ev_94]; exact te_2r hT (by omega) (by omega)
                try have f_98 : 0 ≤ Int32.toInt v_94 ∧ Int32.toInt v_94 ≤ 1 := by rw [ev_94]; exact te_2h hT (by omega) (by omega)
                try have f_99 : 0 ≤ Int32.toInt v_94 ∧ Int32.toInt v_94 ≤ 5 := by rw [ev_94]; exact te_2s hT (by omega) (by omega)
                try have f_100 : 0 ≤ Int32.toInt v_94 ∧ Int32.toInt v_94 ≤ 400 := by rw [ev_94]; exact te_2z hT (by omega) (by omega)
                unfold zX10_canStay_84
                have l_101 : Int32.toInt 0 = 0 := by decide
                try have t_102 : Int32.toInt (x4_7 + 1) = Int32.toInt x4_7 + 1 := ti_add rfl (by decide) (by omega) (by omega)
                exact hk_1 (q, p1, v_94, 0, (x4_7 + 1)) (show (q = q) ∧ (p1 = p1) ∧ (0 ≤ Int32.toInt (x4_7 + 1)) ∧ (Int32.toInt (x4_7 + 1) ≤ 6) ∧ (Int32.toInt 0 = 0 ∨ Int32.toInt 0 = 1) from ⟨rfl, rfl, by omega, by omega, by omega⟩) (show (6 - Int32.toInt (x4_7 + 1)).toNat < (6 - Int32.toInt x4_7).toNat by omega)
  · have l_103 : Int32.toInt (-1) = (-1) := by decide
    have l_104 : Int32.toInt 1 = 1 := by decide
    have l_105 : Int32.toInt 0 = 0 := by decide
    exact (show (q = q) ∧ (p1 = p1) ∧ (0 ≤ Int32.toInt 0) ∧ (Int32.toInt 0 ≤ 6) ∧ (Int32.toInt 1 = 0 ∨ Int32.toInt 1 = 1) from ⟨rfl, rfl, by omega, by omega, by omega⟩)
  · have l_106 : Int32.toInt (-1) = (-1) := by decide
    have l_107 : Int32.toInt 1 = 1 := by decide
    have l_108 : Int32.toInt 0 = 0 := by decide
    show (6 - Int32.toInt 0).toNat < 1000000000000
    omega

set_option maxHeartbeats 4000000 in
set_option maxRecDepth 100000 in
theorem ok_stays (q : dS) (p1 : Int32) (hT : TS q) : dOk (zX10_stays q p1) (fun (o : Int32 × dS) => (o.2 = q)) := by
  unfold zX10_stays
  have l_1 : Int32.toInt 0 = 0 := by decide
  have l_2 : Int32.toInt 1 = 1 := by decide
  refine dOk_V (ok_lies p1 0 1) (fun r_3 h_4 => ?_)
  have h_4 : ((Int32.toInt r_3 = 1 ∧ Int32.toInt 0 ≤ Int32.toInt p1 ∧ Int32.toInt p1 ≤ Int32.toInt 1) ∨ (Int32.toInt r_3 = 0 ∧ (Int32.toInt p1 < Int32.toInt 0 ∨ Int32.toInt 1 < Int32.toInt p1))) := h_4
  have i_5 := h_4
  refine dOk_eq (A := Int32.toInt r_3) (B := 0) rfl (by decide) (fun c_6z c_6 => ?_) (fun c_7z c_7 => ?_)
  · have l_9 : Int32.toInt (-1) = (-1) := by decide
    exact dOk_some (show (q = q) from rfl)
  · unfold zX10_stays_15
    refine dFix_ok (fun (a : dS × Int32 × Int32 × Int32) => (a.1 = q) ∧ (a.2.1 = p1) ∧ (0 ≤ Int32.toInt a.2.2.2) ∧ (Int32.toInt a.2.2.2 ≤ 64)) (fun (a : dS × Int32 × Int32 × Int32) => (64 - Int32.toInt a.2.2.2).toNat) ?_ _ ?_ _ (dF_gt ?_)
    · intro a ha k_11 hk_10
      obtain ⟨q_12, x1_13, x2_14, x3_15⟩ := a
      have ha : (q_12 = q) ∧ (x1_13 = p1) ∧ (0 ≤ Int32.toInt x3_15) ∧ (Int32.toInt x3_15 ≤ 64) := ha
      obtain ⟨a_16, a_17, a_18, a_19⟩ := ha
      show dOk (zX10_stays_15b  (fun q x1 x2 x3 => k_11 (q, x1, x2, x3)) q_12 x1_13 x2_14 x3_15) _
      unfold zX10_stays_15b
      subst q_12
      subst x1_13
      refine dOk_B (ok_size q hT) (fun r_20 q_21 h_22 => ?_)
      have h_22 : (q_21 = q) ∧ (Int32.toInt r_20 = Int32.toInt (q.1 2 29)) ∧ (0 ≤ Int32.toInt r_20 ∧ Int32.toInt r_20 ≤ 6) := h_22
      obtain ⟨i_23, i_24, i_25⟩ := h_22
      subst q_21
      have f_26 : 0 ≤ Int32.toInt (q.1 2 29) ∧ Int32.toInt (q.1 2 29) ≤ 6 := hT.1 2 29
      try have t_27 : Int32.toInt 1 = 1 := by decide
      try have t_28 := ti_shl5 (x := 1) (s := r_20) (by decide) (by decide) (by omega) (by omega)
      try have t_29 := ti_shl6 (x := 1) (s := r_20) (by decide) (by decide) (by omega) (by omega)
      refine dOk_le (A := Int32.toInt (1 <<< ((r_20 : Int32) &&& 31))) (B := Int32.toInt x3_15) rfl rfl (fun c_30 => ?_) (fun c_31 => ?_)
      · refine dOk_eq (A := Int32.toInt p1) (B := 0) rfl (by decide) (fun c_32z c_32 => ?_) (fun c_33z c_33 => ?_)
        · refine dOk_V (ok_ones x2_14) (fun r_35 h_36 => ?_)
          have h_36 : (0 ≤ Int32.toInt r_35 ∧ Int32.toInt r_35 ≤ 7) := h_36
          have i_37 := h_36
          unfold zX10_stays_64
          exact dOk_some (show (q = q) from rfl)
        · unfold zX10_stays_64
          exact dOk_some (show (q = q) from rfl)
      · refine dOk_V (ok_ones x3_15) (fun r_38 h_39 => ?_)
        have h_39 : (0 ≤ Int32.toInt r_38 ∧ Int32.toInt r_38 ≤ 7) := h_39
        have i_40 := h_39
        refine dOk_V (ok_ones x2_14) (fun r_41 h_42 => ?_)
        have h_42 : (0 ≤ Int32.toInt r_41 ∧ Int32.toInt r_41 ≤ 7) := h_42
        have i_43 := h_42
        refine dOk_le (A := Int32.toInt r_38) (B := Int32.toInt r_41) rfl rfl (fun c_44 => ?_) (fun c_45 => ?_)
        · unfold zX10_stays_46
          try have t_46 : Int32.toInt (x3_15 + 1) = Int32.toInt x3_15 + 1 := ti_add rfl (by decide) (by omega) (by omega)
          exact hk_10 (q, p1, x2_14, (x3_15 + 1)) (show (q = q) ∧ (p1 = p1) ∧ (0 ≤ Int32.toInt (x3_15 + 1)) ∧ (Int32.toInt (x3_15 + 1) ≤ 64) from ⟨rfl, rfl, by omega, by omega⟩) (show (64 - Int32.toInt (x3_15 + 1)).toNat < (64 - Int32.toInt x3_15).toNat by omega)
        · refine dOk_B (ok_canStay q x3_15 hT) (fun r_47 q_48 h_49 => ?_)
          have h_49 : (q_48 = q) ∧ ((Int32.toInt r_47 = 0 ∨ Int32.toInt r_47 = 1)) := h_49
          obtain ⟨i_50, i_51⟩ := h_49
          subst q_48
          refine dOk_eq (A := Int32.toInt r_47) (B := 0) rfl (by decide) (fun c_52z c_52 => ?_) (fun c_53z c_53 => ?_)
          · unfold zX10_stays_46
            try have t_55 : Int32.toInt (x3_15 + 1) = Int32.toInt x3_15 + 1 := ti_add rfl (by decide) (by omega) (by omega)
            exact hk_10 (q, p1, x2_14, (x3_15 + 1)) (show (q = q) ∧ (p1 = p1) ∧ (0 ≤ Int32.toInt (x3_15 + 1)) ∧ (Int32.toInt (x3_15 + 1) ≤ 64) from ⟨rfl, rfl, by omega, by omega⟩) (show (64 - Int32.toInt (x3_15 + 1)).toNat < (64 - Int32.toInt x3_15).toNat by omega)
          · unfold zX10_stays_46
            try have t_56 : Int32.toInt (x3_15 + 1) = Int32.toInt x3_15 + 1 := ti_add rfl (by decide) (by omega) (by omega)
            exact hk_10 (q, p1, x3_15, (x3_15 + 1)) (show (q = q) ∧ (p1 = p1) ∧ (0 ≤ Int32.toInt (x3_15 + 1)) ∧ (Int32.toInt (x3_15 + 1) ≤ 64) from ⟨rfl, rfl, by omega, by omega⟩) (show (64 - Int32.toInt (x3_15 + 1)).toNat < (64 - Int32.toInt x3_15).toNat by omega)
    · exact (show (q = q) ∧ (p1 = p1) ∧ (0 ≤ Int32.toInt 0) ∧ (Int32.toInt 0 ≤ 64) from ⟨rfl, rfl, by omega, by omega⟩)
    · show (64 - Int32.toInt 0).toNat < 1000000000000
      omega

set_option maxHeartbeats 4000000 in
set_option maxRecDepth 100000 in
theorem ok_seen (q : dS) (p1 : Int32) (p2 : Int32) (hT : TS q) : dOk (zX10_seen q p1 p2) (fun (o : Int32 × dS) => (TS o.2) ∧ (dFr [1, 2] [0] q o.2)) := by
  unfold zX10_seen
  refine dOk_V (ok_isRank p1) (fun r_1 h_2 => ?_)
  have h_2 : ((Int32.toInt r_1 = 1 ∧ 0 ≤ Int32.toInt p1 ∧ Int32.toInt p1 ≤ 5) ∨ (Int32.toInt r_1 = 0 ∧ (Int32.toInt p1 < 0 ∨ 5 < Int32.toInt p1))) := h_2
  have i_3 := h_2
  refine dOk_eq (A := Int32.toInt r_1) (B := 0) rfl (by decide) (fun c_4z c_4 => ?_) (fun c_5z c_5 => ?_)
  · unfold zX10_seen_14
    have l_7 : Int32.toInt (-1) = (-1) := by decide
    refine dOk_B (ok_refuses q (-1) hT (show (-6) ≤ Int32.toInt (-1) by omega) (show Int32.toInt (-1) ≤ 0 by omega)) (fun r_8 q_9 h_10 => ?_)
    have h_10 : (TS q_9) ∧ (dFr [1] [0] q q_9) ∧ (Int32.toInt r_8 = Int32.toInt (-1)) := h_10
    obtain ⟨i_11, i_12, i_13⟩ := h_10
    have hFq_9 : dFr [1, 2] [0] q q_9 := (dFr.rf (q := q)).t i_12 (by decide) (by decide)
    exact dOk_some (show (TS q_9) ∧ (dFr [1, 2] [0] q q_9) from ⟨i_11, hFq_9⟩)
  · refine dOk_V (ok_isRank p2) (fun r_14 h_15 => ?_)
    have h_15 : ((Int32.toInt r_14 = 1 ∧ 0 ≤ Int32.toInt p2 ∧ Int32.toInt p2 ≤ 5) ∨ (Int32.toInt r_14 = 0 ∧ (Int32.toInt p2 < 0 ∨ 5 < Int32.toInt p2))) := h_15
    have i_16 := h_15
    refine dOk_eq (A := Int32.toInt r_14) (B := 0) rfl (by decide) (fun c_17z c_17 => ?_) (fun c_18z c_18 => ?_)
    · unfold zX10_seen_14
      have l_20 : Int32.toInt (-1) = (-1) := by decide
      refine dOk_B (ok_refuses q (-1) hT (show (-6) ≤ Int32.toInt (-1) by omega) (show Int32.toInt (-1) ≤ 0 by omega)) (fun r_21 q_22 h_23 => ?_)
      have h_23 : (TS q_22) ∧ (dFr [1] [0] q q_22) ∧ (Int32.toInt r_21 = Int32.toInt (-1)) := h_23
      obtain ⟨i_24, i_25, i_26⟩ := h_23
      have hFq_22 : dFr [1, 2] [0] q q_22 := (dFr.rf (q := q)).t i_25 (by decide) (by decide)
      exact dOk_some (show (TS q_22) ∧ (dFr [1, 2] [0] q q_22) from ⟨i_24, hFq_22⟩)
    · have f_27 : 0 ≤ Int32.toInt (q.1 2 30) ∧ Int32.toInt (q.1 2 30) ≤ 6 := hT.1 2 30
      refine dOk_eq (A := Int32.toInt (q.1 2 30)) (B := 6) rfl (by decide) (fun c_28z c_28 => ?_) (fun c_29z c_29 => ?_)
      · have l_31 : Int32.toInt (-5) = (-5) := by decide
        refine dOk_B (ok_refuses q (-5) hT (show (-6) ≤ Int32.toInt (-5) by omega) (show Int32.toInt (-5) ≤ 0 by omega)) (fun r_32 q_33 h_34 => ?_)
        have h_34 : (TS q_33) ∧ (dFr [1] [0] q q_33) ∧ (Int32.toInt r_32 = Int32.toInt (-5)) := h_34
        obtain ⟨i_35, i_36, i_37⟩ := h_34
        have hFq_33 : dFr [1, 2] [0] q q_33 := (dFr.rf (q := q)).t i_36 (by decide) (by decide)
        exact dOk_some (show (TS q_33) ∧ (dFr [1, 2] [0] q q_33) from ⟨i_35, hFq_33⟩)
      · try have t_38 : Int32.toInt (2 * q.1 2 30) = 2 * Int32.toInt (q.1 2 30) := ti_mul (by decide) rfl (by omega) (by omega)
        try have t_39 : Int32.toInt (14 + 2 * q.1 2 30) = 14 + Int32.toInt (2 * q.1 2 30) := ti_add (by decide) rfl (by omega) (by omega)
        refine dOk_G (dg_ok (show 0 ≤ Int32.toInt (14 + 2 * q.1 2 30) by omega) (show Int32.toInt (14 + 2 * q.1 2 30) < ((5640 : Nat) : Int) by omega)) ?_
        have n_40 : ((Int32.toNatClampNeg (14 + 2 * q.1 2 30) : Nat) : Int) = Int32.toInt (14 + 2 * q.1 2 30) := cl_eq (by omega)
        refine dOk_L (fun q_41 eq_41 => ?_)
        have hTq_41 : TS q_41 := by rw [eq_41]; exact ts_set2 hT (by omega) (by unfold klo; omega) (by unfold khi; omega)
        have hFq_41 : dFr [1, 2] [0] q q_41 := by rw [eq_41]; exact (dFr.rf (q := q)).i (by decide) (by decide)
        try have t_42 : Int32.toInt (14 + 2 * q.1 2 30 + 1) = Int32.toInt (14 + 2 * q.1 2 30) + 1 := ti_add rfl (by decide) (by omega) (by omega)
        refine dOk_G (dg_ok (show 0 ≤ Int32.toInt (14 + 2 * q.1 2 30 + 1) by omega) (show Int32.toInt (14 + 2 * q.1 2 30 + 1) < ((5640 : Nat) : Int) by omega)) ?_
        have n_43 : ((Int32.toNatClampNeg (14 + 2 * q.1 2 30 + 1) : Nat) : Int) = Int32.toInt (14 + 2 * q.1 2 30 + 1) := cl_eq (by omega)
        refine dOk_L (fun q_44 eq_44 => ?_)
        have hTq_44 : TS q_44 := by rw [eq_44]; exact ts_set2 hTq_41 (by omega) (by unfold klo; omega) (by unfold khi; omega)
        have hFq_44 : dFr [1, 2] [0] q q_44 := by rw [eq_44]; exact hFq_41.i (by decide) (by decide)
        refine dOk_L (fun q_45 eq_45 => ?_)
        have f_46 : 0 ≤ Int32.toInt (q_44.1 2 30) ∧ Int32.toInt (q_44.1 2 30) ≤ 6 := hTq_44.1 2 30
        have f_47 : 0 ≤ Int32.toInt (q_41.1 2 30) ∧ Int32.toInt (q_41.1 2 30) ≤ 6 := hTq_41.1 2 30
        try have w_48 : Int32.toInt (q_41.1 2 30) = Int32.toInt (q.1 2 30) := by rw [eq_41, dui_n (by omega)]
        try have w_49 : Int32.toInt (q_44.1 2 30) = Int32.toInt (q_41.1 2 30) := by rw [eq_44, dui_n (by omega)]
        try have t_50 : Int32.toInt (q_44.1 2 30 + 1) = Int32.toInt (q_44.1 2 30) + 1 := ti_add rfl (by decide) (by omega) (by omega)
        have hTq_45 : TS q_45 := by rw [eq_45]; exact ts_set2 hTq_44 (by omega) (by unfold klo; omega) (by unfold khi; omega)
        have hFq_45 : dFr [1, 2] [0] q q_45 := by rw [eq_45]; exact hFq_44.i (by decide) (by decide)
        have f_51 : 0 ≤ Int32.toInt (q_45.1 2 30) ∧ Int32.toInt (q_45.1 2 30) ≤ 6 := hTq_45.1 2 30
        have w_52 : Int32.toInt (q_45.1 2 30) = Int32.toInt (q_44.1 2 30 + 1) := by rw [eq_45, dui_e]
        refine dOk_B (ok_good q_45 (q_45.1 2 30) hTq_45) (fun r_53 q_54 h_55 => ?_)
        have h_55 : (TS q_54) ∧ (dFr [] [0] q_45 q_54) ∧ (Int32.toInt r_53 = Int32.toInt (q_45.1 2 30)) := h_55
        obtain ⟨i_56, i_57, i_58⟩ := h_55
        have hFq_54 : dFr [1, 2] [0] q q_54 := hFq_45.t i_57 (by decide) (by decide)
        exact dOk_some (show (TS q_54) ∧ (dFr [1, 2] [0] q q_54) from ⟨i_56, hFq_54⟩)

set_option maxHeartbeats 4000000 in
set_option maxRecDepth 100000 in
theorem ok_forget (q : dS) (hT : TS q) : dOk (zX10_forget q) (fun (o : Int32 × dS) => (TS o.2) ∧ (dFr [2] [] q o.2)) := by
  unfold zX10_forget
  refine dOk_L (fun q_1 eq_1 => ?_)
  have l_2 : Int32.toInt 0 = 0 := by decide
  have hTq_1 : TS q_1 := by rw [eq_1]; exact ts_set2 hT (by omega) (by unfold klo; omega) (by unfold khi; omega)
  have hFq_1 : dFr [2] [] q q_1 := by rw [eq_1]; exact (dFr.rf (q := q)).i (by decide) (by decide)
  have f_3 : 0 ≤ Int32.toInt (q.1 2 30) ∧ Int32.toInt (q.1 2 30) ≤ 6 := hT.1 2 30
  exact dOk_some (show (TS q_1) ∧ (dFr [2] [] q q_1) from ⟨hTq_1, hFq_1⟩)

set_option maxHeartbeats 4000000 in
set_option maxRecDepth 100000 in
theorem ok_rankBehind (q : dS) (p1 : Int32) (p2 : Int32) (hT : TS q) (hp0 : 1 ≤ Int32.toInt p1 ∧ Int32.toInt p1 ≤ Int32.toInt (q.1 2 29)) : dOk (zX10_rankBehind q p1 p2) (fun (o : Int32 × dS) => (o.2 = q) ∧ ((0 ≤ Int32.toInt p2 ∧ Int32.toInt p2 < Int32.toInt (q.1 2 29) ∧ 0 ≤ Int32.toInt o.1 ∧ Int32.toInt o.1 ≤ 5) ∨ ((Int32.toInt p2 < 0 ∨ Int32.toInt (q.1 2 29) ≤ Int32.toInt p2) ∧ Int32.toInt o.1 = -1))) := by
  unfold zX10_rankBehind
  refine dOk_B (ok_isPlace q p2 hT) (fun r_1 q_2 h_3 => ?_)
  have h_3 : (q_2 = q) ∧ ((Int32.toInt r_1 = 1 ∧ 0 ≤ Int32.toInt p2 ∧ Int32.toInt p2 < Int32.toInt (q.1 2 29)) ∨ (Int32.toInt r_1 = 0 ∧ (Int32.toInt p2 < 0 ∨ Int32.toInt (q.1 2 29) ≤ Int32.toInt p2))) := h_3
  obtain ⟨i_4, i_5⟩ := h_3
  subst q_2
  have f_6 : 0 ≤ Int32.toInt (q.1 2 29) ∧ Int32.toInt (q.1 2 29) ≤ 6 := hT.1 2 29
  refine dOk_eq (A := Int32.toInt r_1) (B := 0) rfl (by decide) (fun c_7z c_7 => ?_) (fun c_8z c_8 => ?_)
  · unfold zX10_rankBehind_33
    have l_10 : Int32.toInt (-1) = (-1) := by decide
    exact dOk_some (show (q = q) ∧ ((0 ≤ Int32.toInt p2 ∧ Int32.toInt p2 < Int32.toInt (q.1 2 29) ∧ 0 ≤ Int32.toInt (-1) ∧ Int32.toInt (-1) ≤ 5) ∨ ((Int32.toInt p2 < 0 ∨ Int32.toInt (q.1 2 29) ≤ Int32.toInt p2) ∧ Int32.toInt (-1) = -1)) from ⟨rfl, by omega⟩)
  · refine dOk_le (A := Int32.toInt p1) (B := Int32.toInt p2) rfl rfl (fun c_11 => ?_) (fun c_12 => ?_)
    · unfold zX10_rankBehind_31
      try have t_13 : Int32.toInt (0 + p2) = 0 + Int32.toInt p2 := ti_add (by decide) rfl (by omega) (by omega)
      refine dOk_G (dg_ok (show 0 ≤ Int32.toInt (0 + p2) by omega) (show Int32.toInt (0 + p2) < ((5640 : Nat) : Int) by omega)) ?_
      have n_14 : ((Int32.toNatClampNeg (0 + p2) : Nat) : Int) = Int32.toInt (0 + p2) := cl_eq (by omega)
      refine dOk_L (fun v_15 ev_15 => ?_)
      try have g_16 : klo (Int32.toNatClampNeg (0 + p2)) ≤ Int32.toInt v_15 ∧ Int32.toInt v_15 ≤ khi (Int32.toNatClampNeg (0 + p2)) := by rw [ev_15]; exact te_k hT _
      try have f_17 : 0 ≤ Int32.toInt v_15 ∧ Int32.toInt v_15 ≤ 5 := by rw [ev_15]; exact te_2r hT (by omega) (by omega)
      try have f_18 : 0 ≤ Int32.toInt v_15 ∧ Int32.toInt v_15 ≤ 1 := by rw [ev_15]; exact te_2h hT (by omega) (by omega)
      try have f_19 : 0 ≤ Int32.toInt v_15 ∧ Int32.toInt v_15 ≤ 5 := by rw [ev_15]; exact te_2s hT (by omega) (by omega)
      try have f_20 : 0 ≤ Int32.toInt v_15 ∧ Int32.toInt v_15 ≤ 400 := by rw [ev_15]; exact te_2z hT (by omega) (by omega)
      unfold zX10_rankBehind_33
      exact dOk_some (show (q = q) ∧ ((0 ≤ Int32.toInt p2 ∧ Int32.toInt p2 < Int32.toInt (q.1 2 29) ∧ 0 ≤ Int32.toInt v_15 ∧ Int32.toInt v_15 ≤ 5) ∨ ((Int32.toInt p2 < 0 ∨ Int32.toInt (q.1 2 29) ≤ Int32.toInt p2) ∧ Int32.toInt v_15 = -1)) from ⟨rfl, by omega⟩)
    · unfold zX10_rankBehind_31
      try have t_21 : Int32.toInt (p1 - 1) = Int32.toInt p1 - 1 := ti_sub rfl (by decide) (by omega) (by omega)
      try have t_22 : Int32.toInt (p1 - 1 - p2) = Int32.toInt (p1 - 1) - Int32.toInt p2 := ti_sub rfl rfl (by omega) (by omega)
      try have t_23 : Int32.toInt (0 + (p1 - 1 - p2)) = 0 + Int32.toInt (p1 - 1 - p2) := ti_add (by decide) rfl (by omega) (by omega)
      refine dOk_G (dg_ok (show 0 ≤ Int32.toInt (0 + (p1 - 1 - p2)) by omega) (show Int32.toInt (0 + (p1 - 1 - p2)) < ((5640 : Nat) : Int) by omega)) ?_
      have n_24 : ((Int32.toNatClampNeg (0 + (p1 - 1 - p2)) : Nat) : Int) = Int32.toInt (0 + (p1 - 1 - p2)) := cl_eq (by omega)
      refine dOk_L (fun v_25 ev_25 => ?_)
      try have g_26 : klo (Int32.toNatClampNeg (0 + (p1 - 1 - p2))) ≤ Int32.toInt v_25 ∧ Int32.toInt v_25 ≤ khi (Int32.toNatClampNeg (0 + (p1 - 1 - p2))) := by rw [ev_25]; exact te_k hT _
      try have f_27 : 0 ≤ Int32.toInt v_25 ∧ Int32.toInt v_25 ≤ 5 := by rw [ev_25]; exact te_2r hT (by omega) (by omega)
      try have f_28 : 0 ≤ Int32.toInt v_25 ∧ Int32.toInt v_25 ≤ 1 := by rw [ev_25]; exact te_2h hT (by omega) (by omega)
      try have f_29 : 0 ≤ Int32.toInt v_25 ∧ Int32.toInt v_25 ≤ 5 := by rw [ev_25]; exact te_2s hT (by omega) (by omega)
      try have f_30 : 0 ≤ Int32.toInt v_25 ∧ Int32.toInt v_25 ≤ 400 := by rw [ev_25]; exact te_2z hT (by omega) (by omega)
      unfold zX10_rankBehind_33
      exact dOk_some (show (q = q) ∧ ((0 ≤ Int32.toInt p2 ∧ Int32.toInt p2 < Int32.toInt (q.1 2 29) ∧ 0 ≤ Int32.toInt v_25 ∧ Int32.toInt v_25 ≤ 5) ∨ ((Int32.toInt p2 < 0 ∨ Int32.toInt (q.1 2 29) ≤ Int32.toInt p2) ∧ Int32.toInt v_25 = -1)) from ⟨rfl, by omega⟩)

set_option maxHeartbeats 4000000 in
set_option maxRecDepth 100000 in
theorem ok_mostAlike (q : dS) (p1 : Int32) (p2 : Int32) (hT : TS q) (hp0 : 0 ≤ Int32.toInt p2 ∧ Int32.toInt p2 < Int32.toInt (q.1 2 29)) : dOk (zX10_mostAlike q p1 p2) (fun (o : Int32 × dS) => (TS o.2) ∧ (dFr [25] [] q o.2)) := by
  unfold zX10_mostAlike
  unfold zX10_mostAlike_2
  refine dFix_ok (fun (a : dS × Int32 × Int32 × Int32) => (TS a.1) ∧ (dFr [25] [] q a.1) ∧ (a.2.1 = p1) ∧ (a.2.2.1 = p2) ∧ (0 ≤ Int32.toInt a.2.2.2) ∧ (Int32.toInt a.2.2.2 ≤ 6)) (fun (a : dS × Int32 × Int32 × Int32) => (6 - Int32.toInt a.2.2.2).toNat) ?_ _ ?_ _ (dF_gt ?_)
  · intro a ha k_2 hk_1
    obtain ⟨q_3, x1_4, x2_5, x3_6⟩ := a
    have ha : (TS q_3) ∧ (dFr [25] [] q q_3) ∧ (x1_4 = p1) ∧ (x2_5 = p2) ∧ (0 ≤ Int32.toInt x3_6) ∧ (Int32.toInt x3_6 ≤ 6) := ha
    obtain ⟨a_7, a_8, a_9, a_10, a_11, a_12⟩ := ha
    show dOk (zX10_mostAlike_2b  (fun q x1 x2 x3 => k_2 (q, x1, x2, x3)) q_3 x1_4 x2_5 x3_6) _
    unfold zX10_mostAlike_2b
    have hFq_3 : dFr [25] [] q q_3 := (dFr.rf (q := q)).t a_8 (by decide) (by decide)
    subst x1_4
    subst x2_5
    refine dOk_le (A := 6) (B := Int32.toInt x3_6) (by decide) rfl (fun c_13 => ?_) (fun c_14 => ?_)
    · unfold zX10_mostAlike_26
      refine dFix_ok (fun (a : dS × Int32 × Int32 × Int32 × Int32) => (TS a.1) ∧ (dFr [25] [] q_3 a.1) ∧ (a.2.1 = p1) ∧ (a.2.2.1 = p2) ∧ (1 ≤ Int32.toInt a.2.2.2.2) ∧ (Int32.toInt a.2.2.2.2 ≤ 7)) (fun (a : dS × Int32 × Int32 × Int32 × Int32) => (7 - Int32.toInt a.2.2.2.2).toNat) ?_ _ ?_ _ (dF_gt ?_)
      · intro a ha k_16 hk_15
        obtain ⟨q_17, x1_18, x2_19, x3_20, x4_21⟩ := a
        have ha : (TS q_17) ∧ (dFr [25] [] q_3 q_17) ∧ (x1_18 = p1) ∧ (x2_19 = p2) ∧ (1 ≤ Int32.toInt x4_21) ∧ (Int32.toInt x4_21 ≤ 7) := ha
        obtain ⟨a_22, a_23, a_24, a_25, a_26, a_27⟩ := ha
        show dOk (zX10_mostAlike_26b  (fun q x1 x2 x3 x4 => k_16 (q, x1, x2, x3, x4)) q_17 x1_18 x2_19 x3_20 x4_21) _
        unfold zX10_mostAlike_26b
        have hFq_17 : dFr [25] [] q q_17 := hFq_3.t a_23 (by decide) (by decide)
        subst x1_18
        subst x2_19
        refine dOk_B (ok_size q_17 a_22) (fun r_28 q_29 h_30 => ?_)
        have h_30 : (q_29 = q_17) ∧ (Int32.toInt r_28 = Int32.toInt (q_17.1 2 29)) ∧ (0 ≤ Int32.toInt r_28 ∧ Int32.toInt r_28 ≤ 6) := h_30
        obtain ⟨i_31, i_32, i_33⟩ := h_30
        subst q_29
        have f_34 : 0 ≤ Int32.toInt (q_17.1 2 29) ∧ Int32.toInt (q_17.1 2 29) ≤ 6 := a_22.1 2 29
        have f_35 : 0 ≤ Int32.toInt (q_3.1 2 29) ∧ Int32.toInt (q_3.1 2 29) ≤ 6 := a_7.1 2 29
        have f_36 : 0 ≤ Int32.toInt (q.1 2 29) ∧ Int32.toInt (q.1 2 29) ≤ 6 := hT.1 2 29
        have w_37 : Int32.toInt (q_3.1 2 29) = Int32.toInt (q.1 2 29) := by rw [a_8.1 2 (by decide) (by decide)]
        have w_38 : Int32.toInt (q_17.1 2 29) = Int32.toInt (q_3.1 2 29) := by rw [a_23.1 2 (by decide) (by decide)]
        refine dOk_lt (A := Int32.toInt r_28) (B := Int32.toInt x4_21) rfl rfl (fun c_39 => ?_) (fun c_40 => ?_)
        · exact dOk_some (show (TS q_17) ∧ (dFr [25] [] q q_17) from ⟨a_22, hFq_17⟩)
        · refine dOk_V (ok_isIn p1 x4_21) (fun r_41 h_42 => ?_)
          have h_42 : ((Int32.toInt r_41 = 0 ∨ Int32.toInt r_41 = 1)) := h_42
          have i_43 := h_42
          refine dOk_eq (A := Int32.toInt r_41) (B := 0) rfl (by decide) (fun c_44z c_44 => ?_) (fun c_45z c_45 => ?_)
          · unfold zX10_mostAlike_79
            try have t_47 : Int32.toInt (x4_21 + 1) = Int32.toInt x4_21 + 1 := ti_add rfl (by decide) (by omega) (by omega)
            exact hk_15 (q_17, p1, p2, x3_20, (x4_21 + 1)) (show (TS q_17) ∧ (dFr [25] [] q_3 q_17) ∧ (p1 = p1) ∧ (p2 = p2) ∧ (1 ≤ Int32.toInt (x4_21 + 1)) ∧ (Int32.toInt (x4_21 + 1) ≤ 7) from ⟨a_22, (((dFr.rf : dFr [25] [] q_3 q_3)).t a_23 (by decide) (by decide)), rfl, rfl, by omega, by omega⟩) (show (7 - Int32.toInt (x4_21 + 1)).toNat < (7 - Int32.toInt x4_21).toNat by omega)
          · refine dOk_B (ok_rankBehind q_17 x4_21 p2 a_22 (show 1 ≤ Int32.toInt x4_21 ∧ Int32.toInt x4_21 ≤ Int32.toInt (q_17.1 2 29) by omega)) (fun r_48 q_49 h_50 => ?_)
            have h_50 : (q_49 = q_17) ∧ ((0 ≤ Int32.toInt p2 ∧ Int32.toInt p2 < Int32.toInt (q_17.1 2 29) ∧ 0 ≤ Int32.toInt r_48 ∧ Int32.toInt r_48 ≤ 5) ∨ ((Int32.toInt p2 < 0 ∨ Int32.toInt (q_17.1 2 29) ≤ Int32.toInt p2) ∧ Int32.toInt r_48 = -1)) := h_50
            obtain ⟨i_51, i_52⟩ := h_50
            subst q_49
            refine dOk_G (dg_ok (show 0 ≤ Int32.toInt r_48 by omega) (show Int32.toInt r_48 < ((6 : Nat) : Int) by omega)) ?_
            have n_53 : ((Int32.toNatClampNeg r_48 : Nat) : Int) = Int32.toInt r_48 := cl_eq (by omega)
            refine dOk_L (fun v_54 ev_54 => ?_)
            refine dOk_G (dg_ok (show 0 ≤ Int32.toInt r_48 by omega) (show Int32.toInt r_48 < ((6 : Nat) : Int) by omega)) ?_
            refine dOk_L (fun q_55 eq_55 => ?_)
            have hTq_55 : TS q_55 := by rw [eq_55]; exact ts_any a_22 rfl
            have hFq_55 : dFr [25] [] q q_55 := by rw [eq_55]; exact hFq_17.i (by decide) (by decide)
            refine dOk_G (dg_ok (show 0 ≤ Int32.toInt r_48 by omega) (show Int32.toInt r_48 < ((6 : Nat) : Int) by omega)) ?_
            refine dOk_L (fun v_56 ev_56 => ?_)
            refine dOk_V (ok_greater x3_20 v_56) (fun r_57 h_58 => ?_)
            have h_58 : (Int32.toInt x3_20 ≤ Int32.toInt r_57 ∧ Int32.toInt v_56 ≤ Int32.toInt r_57 ∧ (Int32.toInt r_57 = Int32.toInt x3_20 ∨ Int32.toInt r_57 = Int32.toInt v_56)) := h_58
            have i_59 := h_58
            unfold zX10_mostAlike_79
            try have t_60 : Int32.toInt (x4_21 + 1) = Int32.toInt x4_21 + 1 := ti_add rfl (by decide) (by omega) (by omega)
            exact hk_15 (q_55, p1, p2, r_57, (x4_21 + 1)) (show (TS q_55) ∧ (dFr [25] [] q_3 q_55) ∧ (p1 = p1) ∧ (p2 = p2) ∧ (1 ≤ Int32.toInt (x4_21 + 1)) ∧ (Int32.toInt (x4_21 + 1) ≤ 7) from ⟨hTq_55, (by rw [eq_55]; exact ((((dFr.rf : dFr [25] [] q_3 q_3)).t a_23 (by decide) (by decide))).i (by decide) (by decide)), rfl, rfl, by omega, by omega⟩) (show (7 - Int32.toInt (x4_21 + 1)).toNat < (7 - Int32.toInt x4_21).toNat by omega)
      · have l_61 : Int32.toInt 0 = 0 := by decide
        have l_62 : Int32.toInt 1 = 1 := by decide
        exact (show (TS q_3) ∧ (dFr [25] [] q_3 q_3) ∧ (p1 = p1) ∧ (p2 = p2) ∧ (1 ≤ Int32.toInt 1) ∧ (Int32.toInt 1 ≤ 7) from ⟨a_7, dFr.rf, rfl, rfl, by omega, by omega⟩)
      · have l_63 : Int32.toInt 0 = 0 := by decide
        have l_64 : Int32.toInt 1 = 1 := by decide
        show (7 - Int32.toInt 1).toNat < 1000000000000
        omega
    · refine dOk_G (dg_ok (show 0 ≤ Int32.toInt x3_6 by omega) (show Int32.toInt x3_6 < ((6 : Nat) : Int) by omega)) ?_
      have n_65 : ((Int32.toNatClampNeg x3_6 : Nat) : Int) = Int32.toInt x3_6 := cl_eq (by omega)
      refine dOk_L (fun q_66 eq_66 => ?_)
      have hTq_66 : TS q_66 := by rw [eq_66]; exact ts_any a_7 rfl
      have hFq_66 : dFr [25] [] q q_66 := by rw [eq_66]; exact hFq_3.i (by decide) (by decide)
      try have t_67 : Int32.toInt (x3_6 + 1) = Int32.toInt x3_6 + 1 := ti_add rfl (by decide) (by omega) (by omega)
      exact hk_1 (q_66, p1, p2, (x3_6 + 1)) (show (TS q_66) ∧ (dFr [25] [] q q_66) ∧ (p1 = p1) ∧ (p2 = p2) ∧ (0 ≤ Int32.toInt (x3_6 + 1)) ∧ (Int32.toInt (x3_6 + 1) ≤ 6) from ⟨hTq_66, (by rw [eq_66]; exact ((((dFr.rf : dFr [25] [] q q)).t a_8 (by decide) (by decide))).i (by decide) (by decide)), rfl, rfl, by omega, by omega⟩) (show (6 - Int32.toInt (x3_6 + 1)).toNat < (6 - Int32.toInt x3_6).toNat by omega)
  · have l_68 : Int32.toInt 0 = 0 := by decide
    exact (show (TS q) ∧ (dFr [25] [] q q) ∧ (p1 = p1) ∧ (p2 = p2) ∧ (0 ≤ Int32.toInt 0) ∧ (Int32.toInt 0 ≤ 6) from ⟨hT, dFr.rf, rfl, rfl, by omega, by omega⟩)
  · have l_69 : Int32.toInt 0 = 0 := by decide
    show (6 - Int32.toInt 0).toNat < 1000000000000
    omega
