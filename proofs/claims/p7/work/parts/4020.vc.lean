set_option maxHeartbeats 4000000 in
set_option maxRecDepth 100000 in
theorem ok_isOrder (q : dS) (p1 : Int32) (hT : TS q) : dOk (zX10_isOrder q p1) (fun (o : Int32 × dS) => (TS o.2) ∧ (dFr [19] [] q o.2) ∧ ((Int32.toInt o.1 = 0 ∨ Int32.toInt o.1 = 1))) := by
  unfold zX10_isOrder
  refine dOk_lt (A := Int32.toInt p1) (B := 0) rfl (by decide) (fun c_1 => ?_) (fun c_2 => ?_)
  · unfold zX10_isOrder_13
    refine dOk_B (ok_size q hT) (fun r_3 q_4 h_5 => ?_)
    have h_5 : (q_4 = q) ∧ (Int32.toInt r_3 = Int32.toInt (q.1 2 29)) ∧ (0 ≤ Int32.toInt r_3 ∧ Int32.toInt r_3 ≤ 6) := h_5
    obtain ⟨i_6, i_7, i_8⟩ := h_5
    subst q_4
    have f_9 : 0 ≤ Int32.toInt (q.1 2 29) ∧ Int32.toInt (q.1 2 29) ≤ 6 := hT.1 2 29
    unfold zX10_isOrder_23
    refine dFix_ok (fun (a : dS × Int32 × Int32 × Int32 × Int32) => (TS a.1) ∧ (dFr [19] [] q a.1) ∧ (-1 ≤ Int32.toInt a.2.2.2.2) ∧ (Int32.toInt a.2.2.2.2 ≤ 5) ∧ (Int32.toInt a.2.2.2.1 = 0 ∨ Int32.toInt a.2.2.2.1 = 1)) (fun (a : dS × Int32 × Int32 × Int32 × Int32) => (Int32.toInt a.2.2.2.2 + 1).toNat) ?_ _ ?_ _ (dF_gt ?_)
    · intro a ha k_11 hk_10
      obtain ⟨q_12, x2_13, x3_14, x4_15, x5_16⟩ := a
      have ha : (TS q_12) ∧ (dFr [19] [] q q_12) ∧ (-1 ≤ Int32.toInt x5_16) ∧ (Int32.toInt x5_16 ≤ 5) ∧ (Int32.toInt x4_15 = 0 ∨ Int32.toInt x4_15 = 1) := ha
      obtain ⟨a_17, a_18, a_19, a_20, a_21⟩ := ha
      show dOk (zX10_isOrder_23b  (fun q x2 x3 x4 x5 => k_11 (q, x2, x3, x4, x5)) q_12 x2_13 x3_14 x4_15 x5_16) _
      unfold zX10_isOrder_23b
      have hFq_12 : dFr [19] [] q q_12 := (dFr.rf (q := q)).t a_18 (by decide) (by decide)
      refine dOk_lt (A := Int32.toInt x5_16) (B := 0) rfl (by decide) (fun c_22 => ?_) (fun c_23 => ?_)
      · refine dOk_eq (A := Int32.toInt x4_15) (B := 0) rfl (by decide) (fun c_24z c_24 => ?_) (fun c_25z c_25 => ?_)
        · unfold zX10_isOrder_120
          unfold zX10_isOrder_121
          have l_27 : Int32.toInt 0 = 0 := by decide
          refine dOk_G (dbl_ok (show Int32.toInt 0 = 0 ∨ Int32.toInt 0 = 1 by omega)) ?_
          exact dOk_some (show (TS q_12) ∧ (dFr [19] [] q q_12) ∧ ((Int32.toInt 0 = 0 ∨ Int32.toInt 0 = 1)) from ⟨a_17, hFq_12, by omega⟩)
        · refine dOk_eq (A := Int32.toInt x2_13) (B := 0) rfl (by decide) (fun c_28z c_28 => ?_) (fun c_29z c_29 => ?_)
          · unfold zX10_isOrder_121
            have l_31 : Int32.toInt 1 = 1 := by decide
            refine dOk_G (dbl_ok (show Int32.toInt 1 = 0 ∨ Int32.toInt 1 = 1 by omega)) ?_
            exact dOk_some (show (TS q_12) ∧ (dFr [19] [] q q_12) ∧ ((Int32.toInt 1 = 0 ∨ Int32.toInt 1 = 1)) from ⟨a_17, hFq_12, by omega⟩)
          · unfold zX10_isOrder_120
            unfold zX10_isOrder_121
            have l_32 : Int32.toInt 0 = 0 := by decide
            refine dOk_G (dbl_ok (show Int32.toInt 0 = 0 ∨ Int32.toInt 0 = 1 by omega)) ?_
            exact dOk_some (show (TS q_12) ∧ (dFr [19] [] q q_12) ∧ ((Int32.toInt 0 = 0 ∨ Int32.toInt 0 = 1)) from ⟨a_17, hFq_12, by omega⟩)
      · refine dOk_eq (A := Int32.toInt x4_15) (B := 0) rfl (by decide) (fun c_33z c_33 => ?_) (fun c_34z c_34 => ?_)
        · unfold zX10_isOrder_60
          unfold zX10_isOrder_61
          try have t_37 : Int32.toInt (x2_13 - x2_13 / 10 * 10) = Int32.toInt x2_13 % 10 := ti_rem rfl (by decide) (by omega) (by omega)
          try have t_38 : Int32.toInt 1 = 1 := by decide
          try have t_39 := ti_shl5 (x := 1) (s := x2_13 - x2_13 / 10 * 10) (by decide) (by decide) (by omega) (by omega)
          try have t_40 := ti_shl6 (x := 1) (s := x2_13 - x2_13 / 10 * 10) (by decide) (by decide) (by omega) (by omega)
          refine dOk_L (fun v_36 ev_36 => ?_)
          have w_41 : Int32.toInt v_36 = Int32.toInt (1 <<< ((x2_13 - x2_13 / 10 * 10 : Int32) &&& 31)) := by rw [ev_36]
          refine dOk_eq (A := 0) (B := 0) (by decide) (by decide) (fun c_42z c_42 => ?_) (fun c_43z c_43 => ?_)
          · unfold zX10_isOrder_95
            refine dOk_G (dg_ok (show 0 ≤ Int32.toInt x5_16 by omega) (show Int32.toInt x5_16 < ((6 : Nat) : Int) by omega)) ?_
            have n_45 : ((Int32.toNatClampNeg x5_16 : Nat) : Int) = Int32.toInt x5_16 := cl_eq (by omega)
            refine dOk_L (fun q_46 eq_46 => ?_)
            have hTq_46 : TS q_46 := by rw [eq_46]; exact ts_any a_17 rfl
            have hFq_46 : dFr [19] [] q q_46 := by rw [eq_46]; exact hFq_12.i (by decide) (by decide)
            try have t_47 : Int32.toInt (x2_13 / 10) = Int32.toInt x2_13 / 10 := ti_div rfl (by decide) (by omega) (by omega)
            try have t_48 := ti_or (x := x3_14) (y := v_36) 6 (by decide) (by omega) (by omega) (by omega) (by omega)
            have l_49 : Int32.toInt 0 = 0 := by decide
            try have t_50 : Int32.toInt (x5_16 + (-1)) = Int32.toInt x5_16 + (-1) := ti_add rfl (by decide) (by omega) (by omega)
            exact hk_10 (q_46, (x2_13 / 10), (x3_14 ||| v_36), 0, (x5_16 + (-1))) (show (TS q_46) ∧ (dFr [19] [] q q_46) ∧ (-1 ≤ Int32.toInt (x5_16 + (-1))) ∧ (Int32.toInt (x5_16 + (-1)) ≤ 5) ∧ (Int32.toInt 0 = 0 ∨ Int32.toInt 0 = 1) from ⟨hTq_46, (by rw [eq_46]; exact ((((dFr.rf : dFr [19] [] q q)).t a_18 (by decide) (by decide))).i (by decide) (by decide)), by omega, by omega, by omega⟩) (show (Int32.toInt (x5_16 + (-1)) + 1).toNat < (Int32.toInt x5_16 + 1).toNat by omega)
          · refine dOk_B (ok_lessThan q_12 (x2_13 - x2_13 / 10 * 10) a_17) (fun r_51 q_52 h_53 => ?_)
            have h_53 : (q_52 = q_12) ∧ (0 ≤ Int32.toInt r_51 ∧ Int32.toInt r_51 ≤ 6) := h_53
            obtain ⟨i_54, i_55⟩ := h_53
            subst q_52
            unfold zX10_isOrder_95
            refine dOk_G (dg_ok (show 0 ≤ Int32.toInt x5_16 by omega) (show Int32.toInt x5_16 < ((6 : Nat) : Int) by omega)) ?_
            have n_56 : ((Int32.toNatClampNeg x5_16 : Nat) : Int) = Int32.toInt x5_16 := cl_eq (by omega)
            refine dOk_L (fun q_57 eq_57 => ?_)
            have hTq_57 : TS q_57 := by rw [eq_57]; exact ts_any a_17 rfl
            have hFq_57 : dFr [19] [] q q_57 := by rw [eq_57]; exact hFq_12.i (by decide) (by decide)
            try have t_58 : Int32.toInt (x2_13 / 10) = Int32.toInt x2_13 / 10 := ti_div rfl (by decide) (by omega) (by omega)
            try have t_59 := ti_or (x := x3_14) (y := v_36) 6 (by decide) (by omega) (by omega) (by omega) (by omega)
            have l_60 : Int32.toInt 0 = 0 := by decide
            try have t_61 : Int32.toInt (x5_16 + (-1)) = Int32.toInt x5_16 + (-1) := ti_add rfl (by decide) (by omega) (by omega)
            exact hk_10 (q_57, (x2_13 / 10), (x3_14 ||| v_36), 0, (x5_16 + (-1))) (show (TS q_57) ∧ (dFr [19] [] q q_57) ∧ (-1 ≤ Int32.toInt (x5_16 + (-1))) ∧ (Int32.toInt (x5_16 + (-1)) ≤ 5) ∧ (Int32.toInt 0 = 0 ∨ Int32.toInt 0 = 1) from ⟨hTq_57, (by rw [eq_57]; exact ((((dFr.rf : dFr [19] [] q q)).t a_18 (by decide) (by decide))).i (by decide) (by decide)), by omega, by omega, by omega⟩) (show (Int32.toInt (x5_16 + (-1)) + 1).toNat < (Int32.toInt x5_16 + 1).toNat by omega)
        · try have t_62 : Int32.toInt (x2_13 - x2_13 / 10 * 10) = Int32.toInt x2_13 % 10 := ti_rem rfl (by decide) (by omega) (by omega)
          refine dOk_B (ok_placeOf q_12 (x2_13 - x2_13 / 10 * 10) a_17) (fun r_63 q_64 h_65 => ?_)
          have h_65 : (q_64 = q_12) ∧ (-1 ≤ Int32.toInt r_63 ∧ Int32.toInt r_63 ≤ 5) := h_65
          obtain ⟨i_66, i_67⟩ := h_65
          subst q_64
          refine dOk_eq (A := Int32.toInt r_63) (B := (-1)) rfl (by decide) (fun c_68z c_68 => ?_) (fun c_69z c_69 => ?_)
          · unfold zX10_isOrder_60
            unfold zX10_isOrder_61
            try have t_72 : Int32.toInt 1 = 1 := by decide
            try have t_73 := ti_shl5 (x := 1) (s := x2_13 - x2_13 / 10 * 10) (by decide) (by decide) (by omega) (by omega)
            try have t_74 := ti_shl6 (x := 1) (s := x2_13 - x2_13 / 10 * 10) (by decide) (by decide) (by omega) (by omega)
            refine dOk_L (fun v_71 ev_71 => ?_)
            have w_75 : Int32.toInt v_71 = Int32.toInt (1 <<< ((x2_13 - x2_13 / 10 * 10 : Int32) &&& 31)) := by rw [ev_71]
            refine dOk_eq (A := 0) (B := 0) (by decide) (by decide) (fun c_76z c_76 => ?_) (fun c_77z c_77 => ?_)
            · unfold zX10_isOrder_95
              refine dOk_G (dg_ok (show 0 ≤ Int32.toInt x5_16 by omega) (show Int32.toInt x5_16 < ((6 : Nat) : Int) by omega)) ?_
              have n_79 : ((Int32.toNatClampNeg x5_16 : Nat) : Int) = Int32.toInt x5_16 := cl_eq (by omega)
              refine dOk_L (fun q_80 eq_80 => ?_)
              have hTq_80 : TS q_80 := by rw [eq_80]; exact ts_any a_17 rfl
              have hFq_80 : dFr [19] [] q q_80 := by rw [eq_80]; exact hFq_12.i (by decide) (by decide)
              try have t_81 : Int32.toInt (x2_13 / 10) = Int32.toInt x2_13 / 10 := ti_div rfl (by decide) (by omega) (by omega)
              try have t_82 := ti_or (x := x3_14) (y := v_71) 6 (by decide) (by omega) (by omega) (by omega) (by omega)
              have l_83 : Int32.toInt 0 = 0 := by decide
              try have t_84 : Int32.toInt (x5_16 + (-1)) = Int32.toInt x5_16 + (-1) := ti_add rfl (by decide) (by omega) (by omega)
              exact hk_10 (q_80, (x2_13 / 10), (x3_14 ||| v_71), 0, (x5_16 + (-1))) (show (TS q_80) ∧ (dFr [19] [] q q_80) ∧ (-1 ≤ Int32.toInt (x5_16 + (-1))) ∧ (Int32.toInt (x5_16 + (-1)) ≤ 5) ∧ (Int32.toInt 0 = 0 ∨ Int32.toInt 0 = 1) from ⟨hTq_80, (by rw [eq_80]; exact ((((dFr.rf : dFr [19] [] q q)).t a_18 (by decide) (by decide))).i (by decide) (by decide)), by omega, by omega, by omega⟩) (show (Int32.toInt (x5_16 + (-1)) + 1).toNat < (Int32.toInt x5_16 + 1).toNat by omega)
            · refine dOk_B (ok_lessThan q_12 (x2_13 - x2_13 / 10 * 10) a_17) (fun r_85 q_86 h_87 => ?_)
              have h_87 : (q_86 = q_12) ∧ (0 ≤ Int32.toInt r_85 ∧ Int32.toInt r_85 ≤ 6) := h_87
              obtain ⟨i_88, i_89⟩ := h_87
              subst q_86
              unfold zX10_isOrder_95
              refine dOk_G (dg_ok (show 0 ≤ Int32.toInt x5_16 by omega) (show Int32.toInt x5_16 < ((6 : Nat) : Int) by omega)) ?_
              have n_90 : ((Int32.toNatClampNeg x5_16 : Nat) : Int) = Int32.toInt x5_16 := cl_eq (by omega)
              refine dOk_L (fun q_91 eq_91 => ?_)
              have hTq_91 : TS q_91 := by rw [eq_91]; exact ts_any a_17 rfl
              have hFq_91 : dFr [19] [] q q_91 := by rw [eq_91]; exact hFq_12.i (by decide) (by decide)
              try have t_92 : Int32.toInt (x2_13 / 10) = Int32.toInt x2_13 / 10 := ti_div rfl (by decide) (by omega) (by omega)
              try have t_93 := ti_or (x := x3_14) (y := v_71) 6 (by decide) (by omega) (by omega) (by omega) (by omega)
              have l_94 : Int32.toInt 0 = 0 := by decide
              try have t_95 : Int32.toInt (x5_16 + (-1)) = Int32.toInt x5_16 + (-1) := ti_add rfl (by decide) (by omega) (by omega)
              exact hk_10 (q_91, (x2_13 / 10), (x3_14 ||| v_71), 0, (x5_16 + (-1))) (show (TS q_91) ∧ (dFr [19] [] q q_91) ∧ (-1 ≤ Int32.toInt (x5_16 + (-1))) ∧ (Int32.toInt (x5_16 + (-1)) ≤ 5) ∧ (Int32.toInt 0 = 0 ∨ Int32.toInt 0 = 1) from ⟨hTq_91, (by rw [eq_91]; exact ((((dFr.rf : dFr [19] [] q q)).t a_18 (by decide) (by decide))).i (by decide) (by decide)), by omega, by omega, by omega⟩) (show (Int32.toInt (x5_16 + (-1)) + 1).toNat < (Int32.toInt x5_16 + 1).toNat by omega)
          · refine dOk_V (ok_isIn x3_14 (x2_13 - x2_13 / 10 * 10)) (fun r_96 h_97 => ?_)
            have h_97 : ((Int32.toInt r_96 = 0 ∨ Int32.toInt r_96 = 1)) := h_97
            have i_98 := h_97
            refine dOk_eq (A := Int32.toInt r_96) (B := 0) rfl (by decide) (fun c_99z c_99 => ?_) (fun c_100z c_100 => ?_)
            · unfold zX10_isOrder_61
              try have t_103 : Int32.toInt 1 = 1 := by decide
              try have t_104 := ti_shl5 (x := 1) (s := x2_13 - x2_13 / 10 * 10) (by decide) (by decide) (by omega) (by omega)
              try have t_105 := ti_shl6 (x := 1) (s := x2_13 - x2_13 / 10 * 10) (by decide) (by decide) (by omega) (by omega)
              refine dOk_L (fun v_102 ev_102 => ?_)
              have w_106 : Int32.toInt v_102 = Int32.toInt (1 <<< ((x2_13 - x2_13 / 10 * 10 : Int32) &&& 31)) := by rw [ev_102]
              refine dOk_eq (A := 1) (B := 0) (by decide) (by decide) (fun c_107z c_107 => ?_) (fun c_108z c_108 => ?_)
              · unfold zX10_isOrder_95
                refine dOk_G (dg_ok (show 0 ≤ Int32.toInt x5_16 by omega) (show Int32.toInt x5_16 < ((6 : Nat) : Int) by omega)) ?_
                have n_110 : ((Int32.toNatClampNeg x5_16 : Nat) : Int) = Int32.toInt x5_16 := cl_eq (by omega)
                refine dOk_L (fun q_111 eq_111 => ?_)
                have hTq_111 : TS q_111 := by rw [eq_111]; exact ts_any a_17 rfl
                have hFq_111 : dFr [19] [] q q_111 := by rw [eq_111]; exact hFq_12.i (by decide) (by decide)
                try have t_112 : Int32.toInt (x2_13 / 10) = Int32.toInt x2_13 / 10 := ti_div rfl (by decide) (by omega) (by omega)
                try have t_113 := ti_or (x := x3_14) (y := v_102) 6 (by decide) (by omega) (by omega) (by omega) (by omega)
                have l_114 : Int32.toInt 1 = 1 := by decide
                try have t_115 : Int32.toInt (x5_16 + (-1)) = Int32.toInt x5_16 + (-1) := ti_add rfl (by decide) (by omega) (by omega)
                exact hk_10 (q_111, (x2_13 / 10), (x3_14 ||| v_102), 1, (x5_16 + (-1))) (show (TS q_111) ∧ (dFr [19] [] q q_111) ∧ (-1 ≤ Int32.toInt (x5_16 + (-1))) ∧ (Int32.toInt (x5_16 + (-1)) ≤ 5) ∧ (Int32.toInt 1 = 0 ∨ Int32.toInt 1 = 1) from ⟨hTq_111, (by rw [eq_111]; exact ((((dFr.rf : dFr [19] [] q q)).t a_18 (by decide) (by decide))).i (by decide) (by decide)), by omega, by omega, by omega⟩) (show (Int32.toInt (x5_16 + (-1)) + 1).toNat < (Int32.toInt x5_16 + 1).toNat by omega)
              · refine dOk_B (ok_lessThan q_12 (x2_13 - x2_13 / 10 * 10) a_17) (fun r_116 q_117 h_118 => ?_)
                have h_118 : (q_117 = q_12) ∧ (0 ≤ Int32.toInt r_116 ∧ Int32.toInt r_116 ≤ 6) := h_118
                obtain ⟨i_119, i_120⟩ := h_118
                subst q_117
                unfold zX10_isOrder_95
                refine dOk_G (dg_ok (show 0 ≤ Int32.toInt x5_16 by omega) (show Int32.toInt x5_16 < ((6 : Nat) : Int) by omega)) ?_
                have n_121 : ((Int32.toNatClampNeg x5_16 : Nat) : Int) = Int32.toInt x5_16 := cl_eq (by omega)
                refine dOk_L (fun q_122 eq_122 => ?_)
                have hTq_122 : TS q_122 := by rw [eq_122]; exact ts_any a_17 rfl
                have hFq_122 : dFr [19] [] q q_122 := by rw [eq_122]; exact hFq_12.i (by decide) (by decide)
                try have t_123 : Int32.toInt (x2_13 / 10) = Int32.toInt x2_13 / 10 := ti_div rfl (by decide) (by omega) (by omega)
                try have t_124 := ti_or (x := x3_14) (y := v_102) 6 (by decide) (by omega) (by omega) (by omega) (by omega)
                have l_125 : Int32.toInt 1 = 1 := by decide
                try have t_126 : Int32.toInt (x5_16 + (-1)) = Int32.toInt x5_16 + (-1) := ti_add rfl (by decide) (by omega) (by omega)
                exact hk_10 (q_122, (x2_13 / 10), (x3_14 ||| v_102), 1, (x5_16 + (-1))) (show (TS q_122) ∧ (dFr [19] [] q q_122) ∧ (-1 ≤ Int32.toInt (x5_16 + (-1))) ∧ (Int32.toInt (x5_16 + (-1)) ≤ 5) ∧ (Int32.toInt 1 = 0 ∨ Int32.toInt 1 = 1) from ⟨hTq_122, (by rw [eq_122]; exact ((((dFr.rf : dFr [19] [] q q)).t a_18 (by decide) (by decide))).i (by decide) (by decide)), by omega, by omega, by omega⟩) (show (Int32.toInt (x5_16 + (-1)) + 1).toNat < (Int32.toInt x5_16 + 1).toNat by omega)
            · unfold zX10_isOrder_60
              unfold zX10_isOrder_61
              try have t_128 : Int32.toInt 1 = 1 := by decide
              try have t_129 := ti_shl5 (x := 1) (s := x2_13 - x2_13 / 10 * 10) (by decide) (by decide) (by omega) (by omega)
              try have t_130 := ti_shl6 (x := 1) (s := x2_13 - x2_13 / 10 * 10) (by decide) (by decide) (by omega) (by omega)
              refine dOk_L (fun v_127 ev_127 => ?_)
              have w_131 : Int32.toInt v_127 = Int32.toInt (1 <<< ((x2_13 - x2_13 / 10 * 10 : Int32) &&& 31)) := by rw [ev_127]
              refine dOk_eq (A := 0) (B := 0) (by decide) (by decide) (fun c_132z c_132 => ?_) (fun c_133z c_133 => ?_)
              · unfold zX10_isOrder_95
                refine dOk_G (dg_ok (show 0 ≤ Int32.toInt x5_16 by omega) (show Int32.toInt x5_16 < ((6 : Nat) : Int) by omega)) ?_
                have n_135 : ((Int32.toNatClampNeg x5_16 : Nat) : Int) = Int32.toInt x5_16 := cl_eq (by omega)
                refine dOk_L (fun q_136 eq_136 => ?_)
                have hTq_136 : TS q_136 := by rw [eq_136]; exact ts_any a_17 rfl
                have hFq_136 : dFr [19] [] q q_136 := by rw [eq_136]; exact hFq_12.i (by decide) (by decide)
                try have t_137 : Int32.toInt (x2_13 / 10) = Int32.toInt x2_13 / 10 := ti_div rfl (by decide) (by omega) (by omega)
                try have t_138 := ti_or (x := x3_14) (y := v_127) 6 (by decide) (by omega) (by omega) (by omega) (by omega)
                have l_139 : Int32.toInt 0 = 0 := by decide
                try have t_140 : Int32.toInt (x5_16 + (-1)) = Int32.toInt x5_16 + (-1) := ti_add rfl (by decide) (by omega) (by omega)
                exact hk_10 (q_136, (x2_13 / 10), (x3_14 ||| v_127), 0, (x5_16 + (-1))) (show (TS q_136) ∧ (dFr [19] [] q q_136) ∧ (-1 ≤ Int32.toInt (x5_16 + (-1))) ∧ (Int32.toInt (x5_16 + (-1)) ≤ 5) ∧ (Int32.toInt 0 = 0 ∨ Int32.toInt 0 = 1) from ⟨hTq_136, (by rw [eq_136]; exact ((((dFr.rf : dFr [19] [] q q)).t a_18 (by decide) (by decide))).i (by decide) (by decide)), by omega, by omega, by omega⟩) (show (Int32.toInt (x5_16 + (-1)) + 1).toNat < (Int32.toInt x5_16 + 1).toNat by omega)
              · refine dOk_B (ok_lessThan q_12 (x2_13 - x2_13 / 10 * 10) a_17) (fun r_141 q_142 h_143 => ?_)
                have h_143 : (q_142 = q_12) ∧ (0 ≤ Int32.toInt r_141 ∧ Int32.toInt r_141 ≤ 6) := h_143
                obtain ⟨i_144, i_145⟩ := h_143
                subst q_142
                unfold zX10_isOrder_95
                refine dOk_G (dg_ok (show 0 ≤ Int32.toInt x5_16 by omega) (show Int32.toInt x5_16 < ((6 : Nat) : Int) by omega)) ?_
                have n_146 : ((Int32.toNatClampNeg x5_16 : Nat) : Int) = Int32.toInt x5_16 := cl_eq (by omega)
                refine dOk_L (fun q_147 eq_147 => ?_)
                have hTq_147 : TS q_147 := by rw [eq_147]; exact ts_any a_17 rfl
                have hFq_147 : dFr [19] [] q q_147 := by rw [eq_147]; exact hFq_12.i (by decide) (by decide)
                try have t_148 : Int32.toInt (x2_13 / 10) = Int32.toInt x2_13 / 10 := ti_div rfl (by decide) (by omega) (by omega)
                try have t_149 := ti_or (x := x3_14) (y := v_127) 6 (by decide) (by omega) (by omega) (by omega) (by omega)
                have l_150 : Int32.toInt 0 = 0 := by decide
                try have t_151 : Int32.toInt (x5_16 + (-1)) = Int32.toInt x5_16 + (-1) := ti_add rfl (by decide) (by omega) (by omega)
                exact hk_10 (q_147, (x2_13 / 10), (x3_14 ||| v_127), 0, (x5_16 + (-1))) (show (TS q_147) ∧ (dFr [19] [] q q_147) ∧ (-1 ≤ Int32.toInt (x5_16 + (-1))) ∧ (Int32.toInt (x5_16 + (-1)) ≤ 5) ∧ (Int32.toInt 0 = 0 ∨ Int32.toInt 0 = 1) from ⟨hTq_147, (by rw [eq_147]; exact ((((dFr.rf : dFr [19] [] q q)).t a_18 (by decide) (by decide))).i (by decide) (by decide)), by omega, by omega, by omega⟩) (show (Int32.toInt (x5_16 + (-1)) + 1).toNat < (Int32.toInt x5_16 + 1).toNat by omega)
    · have l_152 : Int32.toInt 0 = 0 := by decide
      try have t_153 : Int32.toInt (r_3 - 1) = Int32.toInt r_3 - 1 := ti_sub rfl (by decide) (by omega) (by omega)
      exact (show (TS q) ∧ (dFr [19] [] q q) ∧ (-1 ≤ Int32.toInt (r_3 - 1)) ∧ (Int32.toInt (r_3 - 1) ≤ 5) ∧ (Int32.toInt 0 = 0 ∨ Int32.toInt 0 = 1) from ⟨hT, dFr.rf, by omega, by omega, by omega⟩)
    · have l_154 : Int32.toInt 0 = 0 := by decide
      try have t_155 : Int32.toInt (r_3 - 1) = Int32.toInt r_3 - 1 := ti_sub rfl (by decide) (by omega) (by omega)
      show (Int32.toInt (r_3 - 1) + 1).toNat < 1000000000000
      omega
  · unfold zX10_isOrder_13
    refine dOk_B (ok_size q hT) (fun r_156 q_157 h_158 => ?_)
    have h_158 : (q_157 = q) ∧ (Int32.toInt r_156 = Int32.toInt (q.1 2 29)) ∧ (0 ≤ Int32.toInt r_156 ∧ Int32.toInt r_156 ≤ 6) := h_158
    obtain ⟨i_159, i_160, i_161⟩ := h_158
    subst q_157
    have f_162 : 0 ≤ Int32.toInt (q.1 2 29) ∧ Int32.toInt (q.1 2 29) ≤ 6 := hT.1 2 29
    unfold zX10_isOrder_23
    refine dFix_ok (fun (a : dS × Int32 × Int32 × Int32 × Int32) => (TS a.1) ∧ (dFr [19] [] q a.1) ∧ (-1 ≤ Int32.toInt a.2.2.2.2) ∧ (Int32.toInt a.2.2.2.2 ≤ 5) ∧ (Int32.toInt a.2.2.2.1 = 0 ∨ Int32.toInt a.2.2.2.1 = 1)) (fun (a : dS × Int32 × Int32 × Int32 × Int32) => (Int32.toInt a.2.2.2.2 + 1).toNat) ?_ _ ?_ _ (dF_gt ?_)
    · intro a ha k_164 hk_163
      obtain ⟨q_165, x2_166, x3_167, x4_168, x5_169⟩ := a
      have ha : (TS q_165) ∧ (dFr [19] [] q q_165) ∧ (-1 ≤ Int32.toInt x5_169) ∧ (Int32.toInt x5_169 ≤ 5) ∧ (Int32.toInt x4_168 = 0 ∨ Int32.toInt x4_168 = 1) := ha
      obtain ⟨a_170, a_171, a_172, a_173, a_174⟩ := ha
      show dOk (zX10_isOrder_23b  (fun q x2 x3 x4 x5 => k_164 (q, x2, x3, x4, x5)) q_165 x2_166 x3_167 x4_168 x5_169) _
      unfold zX10_isOrder_23b
      have hFq_165 : dFr [19] [] q q_165 := (dFr.rf (q := q)).t a_171 (by decide) (by decide)
      refine dOk_lt (A := Int32.toInt x5_169) (B := 0) rfl (by decide) (fun c_175 => ?_) (fun c_176 => ?_)
      · refine dOk_eq (A := Int32.toInt x4_168) (B := 0) rfl (by decide) (fun c_177z c_177 => ?_) (fun c_178z c_178 => ?_)
        · unfold zX10_isOrder_120
          unfold zX10_isOrder_121
          have l_180 : Int32.toInt 0 = 0 := by decide
          refine dOk_G (dbl_ok (show Int32.toInt 0 = 0 ∨ Int32.toInt 0 = 1 by omega)) ?_
          exact dOk_some (show (TS q_165) ∧ (dFr [19] [] q q_165) ∧ ((Int32.toInt 0 = 0 ∨ Int32.toInt 0 = 1)) from ⟨a_170, hFq_165, by omega⟩)
        · refine dOk_eq (A := Int32.toInt x2_166) (B := 0) rfl (by decide) (fun c_181z c_181 => ?_) (fun c_182z c_182 => ?_)
          · unfold zX10_isOrder_121
            have l_184 : Int32.toInt 1 = 1 := by decide
            refine dOk_G (dbl_ok (show Int32.toInt 1 = 0 ∨ Int32.toInt 1 = 1 by omega)) ?_
            exact dOk_some (show (TS q_165) ∧ (dFr [19] [] q q_165) ∧ ((Int32.toInt 1 = 0 ∨ Int32.toInt 1 = 1)) from ⟨a_170, hFq_165, by omega⟩)
          · unfold zX10_isOrder_120
            unfold zX10_isOrder_121
            have l_185 : Int32.toInt 0 = 0 := by decide
            refine dOk_G (dbl_ok (show Int32.toInt 0 = 0 ∨ Int32.toInt 0 = 1 by omega)) ?_
            exact dOk_some (show (TS q_165) ∧ (dFr [19] [] q q_165) ∧ ((Int32.toInt 0 = 0 ∨ Int32.toInt 0 = 1)) from ⟨a_170, hFq_165, by omega⟩)
      · refine dOk_eq (A := Int32.toInt x4_168) (B := 0) rfl (by decide) (fun c_186z c_186 => ?_) (fun c_187z c_187 => ?_)
        · unfold zX10_isOrder_60
          unfold zX10_isOrder_61
          try have t_190 : Int32.toInt (x2_166 - x2_166 / 10 * 10) = Int32.toInt x2_166 % 10 := ti_rem rfl (by decide) (by omega) (by omega)
          try have t_191 : Int32.toInt 1 = 1 := by decide
          try have t_192 := ti_shl5 (x := 1) (s := x2_166 - x2_166 / 10 * 10) (by decide) (by decide) (by omega) (by omega)
          try have t_193 := ti_shl6 (x := 1) (s := x2_166 - x2_166 / 10 * 10) (by decide) (by decide) (by omega) (by omega)
          refine dOk_L (fun v_189 ev_189 => ?_)
          have w_194 : Int32.toInt v_189 = Int32.toInt (1 <<< ((x2_166 - x2_166 / 10 * 10 : Int32) &&& 31)) := by rw [ev_189]
          refine dOk_eq (A := 0) (B := 0) (by decide) (by decide) (fun c_195z c_195 => ?_) (fun c_196z c_196 => ?_)
          · unfold zX10_isOrder_95
            refine dOk_G (dg_ok (show 0 ≤ Int32.toInt x5_169 by omega) (show Int32.toInt x5_169 < ((6 : Nat) : Int) by omega)) ?_
            have n_198 : ((Int32.toNatClampNeg x5_169 : Nat) : Int) = Int32.toInt x5_169 := cl_eq (by omega)
            refine dOk_L (fun q_199 eq_199 => ?_)
            have hTq_199 : TS q_199 := by rw [eq_199]; exact ts_any a_170 rfl
            have hFq_199 : dFr [19] [] q q_199 := by rw [eq_199]; exact hFq_165.i (by decide) (by decide)
            try have t_200 : Int32.toInt (x2_166 / 10) = Int32.toInt x2_166 / 10 := ti_div rfl (by decide) (by omega) (by omega)
            try have t_201 := ti_or (x := x3_167) (y := v_189) 6 (by decide) (by omega) (by omega) (by omega) (by omega)
            have l_202 : Int32.toInt 0 = 0 := by decide
            try have t_203 : Int32.toInt (x5_169 + (-1)) = Int32.toInt x5_169 + (-1) := ti_add rfl (by decide) (by omega) (by omega)
            exact hk_163 (q_199, (x2_166 / 10), (x3_167 ||| v_189), 0, (x5_169 + (-1))) (show (TS q_199) ∧ (dFr [19] [] q q_199) ∧ (-1 ≤ Int32.toInt (x5_169 + (-1))) ∧ (Int32.toInt (x5_169 + (-1)) ≤ 5) ∧ (Int32.toInt 0 = 0 ∨ Int32.toInt 0 = 1) from ⟨hTq_199, (by rw [eq_199]; exact ((((dFr.rf : dFr [19] [] q q)).t a_171 (by decide) (by decide))).i (by decide) (by decide)), by omega, by omega, by omega⟩) (show (Int32.toInt (x5_169 + (-1)) + 1).toNat < (Int32.toInt x5_169 + 1).toNat by omega)
          · refine dOk_B (ok_lessThan q_165 (x2_166 - x2_166 / 10 * 10) a_170) (fun r_204 q_205 h_206 => ?_)
            have h_206 : (q_205 = q_165) ∧ (0 ≤ Int32.toInt r_204 ∧ Int32.toInt r_204 ≤ 6) := h_206
            obtain ⟨i_207, i_208⟩ := h_206
            subst q_205
            unfold zX10_isOrder_95
            refine dOk_G (dg_ok (show 0 ≤ Int32.toInt x5_169 by omega) (show Int32.toInt x5_169 < ((6 : Nat) : Int) by omega)) ?_
            have n_209 : ((Int32.toNatClampNeg x5_169 : Nat) : Int) = Int32.toInt x5_169 := cl_eq (by omega)
            refine dOk_L (fun q_210 eq_210 => ?_)
            have hTq_210 : TS q_210 := by rw [eq_210]; exact ts_any a_170 rfl
            have hFq_210 : dFr [19] [] q q_210 := by rw [eq_210]; exact hFq_165.i (by decide) (by decide)
            try have t_211 : Int32.toInt (x2_166 / 10) = Int32.toInt x2_166 / 10 := ti_div rfl (by decide) (by omega) (by omega)
            try have t_212 := ti_or (x := x3_167) (y := v_189) 6 (by decide) (by omega) (by omega) (by omega) (by omega)
            have l_213 : Int32.toInt 0 = 0 := by decide
            try have t_214 : Int32.toInt (x5_169 + (-1)) = Int32.toInt x5_169 + (-1) := ti_add rfl (by decide) (by omega) (by omega)
            exact hk_163 (q_210, (x2_166 / 10), (x3_167 ||| v_189), 0, (x5_169 + (-1))) (show (TS q_210) ∧ (dFr [19] [] q q_210) ∧ (-1 ≤ Int32.toInt (x5_169 + (-1))) ∧ (Int32.toInt (x5_169 + (-1)) ≤ 5) ∧ (Int32.toInt 0 = 0 ∨ Int32.toInt 0 = 1) from ⟨hTq_210, (by rw [eq_210]; exact ((((dFr.rf : dFr [19] [] q q)).t a_171 (by decide) (by decide))).i (by decide) (by decide)), by omega, by omega, by omega⟩) (show (Int32.toInt (x5_169 + (-1)) + 1).toNat < (Int32.toInt x5_169 + 1).toNat by omega)
        · try have t_215 : Int32.toInt (x2_166 - x2_166 / 10 * 10) = Int32.toInt x2_166 % 10 := ti_rem rfl (by decide) (by omega) (by omega)
          refine dOk_B (ok_placeOf q_165 (x2_166 - x2_166 / 10 * 10) a_170) (fun r_216 q_217 h_218 => ?_)
          have h_218 : (q_217 = q_165) ∧ (-1 ≤ Int32.toInt r_216 ∧ Int32.toInt r_216 ≤ 5) := h_218
          obtain ⟨i_219, i_220⟩ := h_218
          subst q_217
          refine dOk_eq (A := Int32.toInt r_216) (B := (-1)) rfl (by decide) (fun c_221z c_221 => ?_) (fun c_222z c_222 => ?_)
          · unfold zX10_isOrder_60
            unfold zX10_isOrder_61
            try have t_225 : Int32.toInt 1 = 1 := by decide
            try have t_226 := ti_shl5 (x := 1) (s := x2_166 - x2_166 / 10 * 10) (by decide) (by decide) (by omega) (by omega)
            try have t_227 := ti_shl6 (x := 1) (s := x2_166 - x2_166 / 10 * 10) (by decide) (by decide) (by omega) (by omega)
            refine dOk_L (fun v_224 ev_224 => ?_)
            have w_228 : Int32.toInt v_224 = Int32.toInt (1 <<< ((x2_166 - x2_166 / 10 * 10 : Int32) &&& 31)) := by rw [ev_224]
            refine dOk_eq (A := 0) (B := 0) (by decide) (by decide) (fun c_229z c_229 => ?_) (fun c_230z c_230 => ?_)
            · unfold zX10_isOrder_95
              refine dOk_G (dg_ok (show 0 ≤ Int32.toInt x5_169 by omega) (show Int32.toInt x5_169 < ((6 : Nat) : Int) by omega)) ?_
              have n_232 : ((Int32.toNatClampNeg x5_169 : Nat) : Int) = Int32.toInt x5_169 := cl_eq (by omega)
              refine dOk_L (fun q_233 eq_233 => ?_)
              have hTq_233 : TS q_233 := by rw [eq_233]; exact ts_any a_170 rfl
              have hFq_233 : dFr [19] [] q q_233 := by rw [eq_233]; exact hFq_165.i (by decide) (by decide)
              try have t_234 : Int32.toInt (x2_166 / 10) = Int32.toInt x2_166 / 10 := ti_div rfl (by decide) (by omega) (by omega)
              try have t_235 := ti_or (x := x3_167) (y := v_224) 6 (by decide) (by omega) (by omega) (by omega) (by omega)
              have l_236 : Int32.toInt 0 = 0 := by decide
              try have t_237 : Int32.toInt (x5_169 + (-1)) = Int32.toInt x5_169 + (-1) := ti_add rfl (by decide) (by omega) (by omega)
              exact hk_163 (q_233, (x2_166 / 10), (x3_167 ||| v_224), 0, (x5_169 + (-1))) (show (TS q_233) ∧ (dFr [19] [] q q_233) ∧ (-1 ≤ Int32.toInt (x5_169 + (-1))) ∧ (Int32.toInt (x5_169 + (-1)) ≤ 5) ∧ (Int32.toInt 0 = 0 ∨ Int32.toInt 0 = 1) from ⟨hTq_233, (by rw [eq_233]; exact ((((dFr.rf : dFr [19] [] q q)).t a_171 (by decide) (by decide))).i (by decide) (by decide)), by omega, by omega, by omega⟩) (show (Int32.toInt (x5_169 + (-1)) + 1).toNat < (Int32.toInt x5_169 + 1).toNat by omega)
            · refine dOk_B (ok_lessThan q_165 (x2_166 - x2_166 / 10 * 10) a_170) (fun r_238 q_239 h_240 => ?_)
              have h_240 : (q_239 = q_165) ∧ (0 ≤ Int32.toInt r_238 ∧ Int32.toInt r_238 ≤ 6) := h_240
              obtain ⟨i_241, i_242⟩ := h_240
              subst q_239
              unfold zX10_isOrder_95
              refine dOk_G (dg_ok (show 0 ≤ Int32.toInt x5_169 by omega) (show Int32.toInt x5_169 < ((6 : Nat) : Int) by omega)) ?_
              have n_243 : ((Int32.toNatClampNeg x5_169 : Nat) : Int) = Int32.toInt x5_169 := cl_eq (by omega)
              refine dOk_L (fun q_244 eq_244 => ?_)
              have hTq_244 : TS q_244 := by rw [eq_244]; exact ts_any a_170 rfl
              have hFq_244 : dFr [19] [] q q_244 := by rw [eq_244]; exact hFq_165.i (by decide) (by decide)
              try have t_245 : Int32.toInt (x2_166 / 10) = Int32.toInt x2_166 / 10 := ti_div rfl (by decide) (by omega) (by omega)
              try have t_246 := ti_or (x := x3_167) (y := v_224) 6 (by decide) (by omega) (by omega) (by omega) (by omega)
              have l_247 : Int32.toInt 0 = 0 := by decide
              try have t_248 : Int32.toInt (x5_169 + (-1)) = Int32.toInt x5_169 + (-1) := ti_add rfl (by decide) (by omega) (by omega)
              exact hk_163 (q_244, (x2_166 / 10), (x3_167 ||| v_224), 0, (x5_169 + (-1))) (show (TS q_244) ∧ (dFr [19] [] q q_244) ∧ (-1 ≤ Int32.toInt (x5_169 + (-1))) ∧ (Int32.toInt (x5_169 + (-1)) ≤ 5) ∧ (Int32.toInt 0 = 0 ∨ Int32.toInt 0 = 1) from ⟨hTq_244, (by rw [eq_244]; exact ((((dFr.rf : dFr [19] [] q q)).t a_171 (by decide) (by decide))).i (by decide) (by decide)), by omega, by omega, by omega⟩) (show (Int32.toInt (x5_169 + (-1)) + 1).toNat < (Int32.toInt x5_169 + 1).toNat by omega)
          · refine dOk_V (ok_isIn x3_167 (x2_166 - x2_166 / 10 * 10)) (fun r_249 h_250 => ?_)
            have h_250 : ((Int32.toInt r_249 = 0 ∨ Int32.toInt r_249 = 1)) := h_250
            have i_251 := h_250
            refine dOk_eq (A := Int32.toInt r_249) (B := 0) rfl (by decide) (fun c_252z c_252 => ?_) (fun c_253z c_253 => ?_)
            · unfold zX10_isOrder_61
              try have t_256 : Int32.toInt 1 = 1 := by decide
              try have t_257 := ti_shl5 (x := 1) (s := x2_166 - x2_166 / 10 * 10) (by decide) (by decide) (by omega) (by omega)
              try have t_258 := ti_shl6 (x := 1) (s := x2_166 - x2_166 / 10 * 10) (by decide) (by decide) (by omega) (by omega)
              refine dOk_L (fun v_255 ev_255 => ?_)
              have w_259 : Int32.toInt v_255 = Int32.toInt (1 <<< ((x2_166 - x2_166 / 10 * 10 : Int32) &&& 31)) := by rw [ev_255]
              refine dOk_eq (A := 1) (B := 0) (by decide) (by decide) (fun c_260z c_260 => ?_) (fun c_261z c_261 => ?_)
              · unfold zX10_isOrder_95
                refine dOk_G (dg_ok (show 0 ≤ Int32.toInt x5_169 by omega) (show Int32.toInt x5_169 < ((6 : Nat) : Int) by omega)) ?_
                have n_263 : ((Int32.toNatClampNeg x5_169 : Nat) : Int) = Int32.toInt x5_169 := cl_eq (by omega)
                refine dOk_L (fun q_264 eq_264 => ?_)
                have hTq_264 : TS q_264 := by rw [eq_264]; exact ts_any a_170 rfl
                have hFq_264 : dFr [19] [] q q_264 := by rw [eq_264]; exact hFq_165.i (by decide) (by decide)
                try have t_265 : Int32.toInt (x2_166 / 10) = Int32.toInt x2_166 / 10 := ti_div rfl (by decide) (by omega) (by omega)
                try have t_266 := ti_or (x := x3_167) (y := v_255) 6 (by decide) (by omega) (by omega) (by omega) (by omega)
                have l_267 : Int32.toInt 1 = 1 := by decide
                try have t_268 : Int32.toInt (x5_169 + (-1)) = Int32.toInt x5_169 + (-1) := ti_add rfl (by decide) (by omega) (by omega)
                exact hk_163 (q_264, (x2_166 / 10), (x3_167 ||| v_255), 1, (x5_169 + (-1))) (show (TS q_264) ∧ (dFr [19] [] q q_264) ∧ (-1 ≤ Int32.toInt (x5_169 + (-1))) ∧ (Int32.toInt (x5_169 + (-1)) ≤ 5) ∧ (Int32.toInt 1 = 0 ∨ Int32.toInt 1 = 1) from ⟨hTq_264, (by rw [eq_264]; exact ((((dFr.rf : dFr [19] [] q q)).t a_171 (by decide) (by decide))).i (by decide) (by decide)), by omega, by omega, by omega⟩) (show (Int32.toInt (x5_169 + (-1)) + 1).toNat < (Int32.toInt x5_169 + 1).toNat by omega)
              · refine dOk_B (ok_lessThan q_165 (x2_166 - x2_166 / 10 * 10) a_170) (fun r_269 q_270 h_271 => ?_)
                have h_271 : (q_270 = q_165) ∧ (0 ≤ Int32.toInt r_269 ∧ Int32.toInt r_269 ≤ 6) := h_271
                obtain ⟨i_272, i_273⟩ := h_271
                subst q_270
                unfold zX10_isOrder_95
                refine dOk_G (dg_ok (show 0 ≤ Int32.toInt x5_169 by omega) (show Int32.toInt x5_169 < ((6 : Nat) : Int) by omega)) ?_
                have n_274 : ((Int32.toNatClampNeg x5_169 : Nat) : Int) = Int32.toInt x5_169 := cl_eq (by omega)
                refine dOk_L (fun q_275 eq_275 => ?_)
                have hTq_275 : TS q_275 := by rw [eq_275]; exact ts_any a_170 rfl
                have hFq_275 : dFr [19] [] q q_275 := by rw [eq_275]; exact hFq_165.i (by decide) (by decide)
                try have t_276 : Int32.toInt (x2_166 / 10) = Int32.toInt x2_166 / 10 := ti_div rfl (by decide) (by omega) (by omega)
                try have t_277 := ti_or (x := x3_167) (y := v_255) 6 (by decide) (by omega) (by omega) (by omega) (by omega)
                have l_278 : Int32.toInt 1 = 1 := by decide
                try have t_279 : Int32.toInt (x5_169 + (-1)) = Int32.toInt x5_169 + (-1) := ti_add rfl (by decide) (by omega) (by omega)
                exact hk_163 (q_275, (x2_166 / 10), (x3_167 ||| v_255), 1, (x5_169 + (-1))) (show (TS q_275) ∧ (dFr [19] [] q q_275) ∧ (-1 ≤ Int32.toInt (x5_169 + (-1))) ∧ (Int32.toInt (x5_169 + (-1)) ≤ 5) ∧ (Int32.toInt 1 = 0 ∨ Int32.toInt 1 = 1) from ⟨hTq_275, (by rw [eq_275]; exact ((((dFr.rf : dFr [19] [] q q)).t a_171 (by decide) (by decide))).i (by decide) (by decide)), by omega, by omega, by omega⟩) (show (Int32.toInt (x5_169 + (-1)) + 1).toNat < (Int32.toInt x5_169 + 1).toNat by omega)
            · unfold zX10_isOrder_60
              unfold zX10_isOrder_61
              try have t_281 : Int32.toInt 1 = 1 := by decide
              try have t_282 := ti_shl5 (x := 1) (s := x2_166 - x2_166 / 10 * 10) (by decide) (by decide) (by omega) (by omega)
              try have t_283 := ti_shl6 (x := 1) (s := x2_166 - x2_166 / 10 * 10) (by decide) (by decide) (by omega) (by omega)
              refine dOk_L (fun v_280 ev_280 => ?_)
              have w_284 : Int32.toInt v_280 = Int32.toInt (1 <<< ((x2_166 - x2_166 / 10 * 10 : Int32) &&& 31)) := by rw [ev_280]
              refine dOk_eq (A := 0) (B := 0) (by decide) (by decide) (fun c_285z c_285 => ?_) (fun c_286z c_286 => ?_)
              · unfold zX10_isOrder_95
                refine dOk_G (dg_ok (show 0 ≤ Int32.toInt x5_169 by omega) (show Int32.toInt x5_169 < ((6 : Nat) : Int) by omega)) ?_
                have n_288 : ((Int32.toNatClampNeg x5_169 : Nat) : Int) = Int32.toInt x5_169 := cl_eq (by omega)
                refine dOk_L (fun q_289 eq_289 => ?_)
                have hTq_289 : TS q_289 := by rw [eq_289]; exact ts_any a_170 rfl
                have hFq_289 : dFr [19] [] q q_289 := by rw [eq_289]; exact hFq_165.i (by decide) (by decide)
                try have t_290 : Int32.toInt (x2_166 / 10) = Int32.toInt x2_166 / 10 := ti_div rfl (by decide) (by omega) (by omega)
                try have t_291 := ti_or (x := x3_167) (y := v_280) 6 (by decide) (by omega) (by omega) (by omega) (by omega)
                have l_292 : Int32.toInt 0 = 0 := by decide
                try have t_293 : Int32.toInt (x5_169 + (-1)) = Int32.toInt x5_169 + (-1) := ti_add rfl (by decide) (by omega) (by omega)
                exact hk_163 (q_289, (x2_166 / 10), (x3_167 ||| v_280), 0, (x5_169 + (-1))) (show (TS q_289) ∧ (dFr [19] [] q q_289) ∧ (-1 ≤ Int32.toInt (x5_169 + (-1))) ∧ (Int32.toInt (x5_169 + (-1)) ≤ 5) ∧ (Int32.toInt 0 = 0 ∨ Int32.toInt 0 = 1) from ⟨hTq_289, (by rw [eq_289]; exact ((((dFr.rf : dFr [19] [] q q)).t a_171 (by decide) (by decide))).i (by decide) (by decide)), by omega, by omega, by omega⟩) (show (Int32.toInt (x5_169 + (-1)) + 1).toNat < (Int32.toInt x5_169 + 1).toNat by omega)
              · refine dOk_B (ok_lessThan q_165 (x2_166 - x2_166 / 10 * 10) a_170) (fun r_294 q_295 h_296 => ?_)
                have h_296 : (q_295 = q_165) ∧ (0 ≤ Int32.toInt r_294 ∧ Int32.toInt r_294 ≤ 6) := h_296
                obtain ⟨i_297, i_298⟩ := h_296
                subst q_295
                unfold zX10_isOrder_95
                refine dOk_G (dg_ok (show 0 ≤ Int32.toInt x5_169 by omega) (show Int32.toInt x5_169 < ((6 : Nat) : Int) by omega)) ?_
                have n_299 : ((Int32.toNatClampNeg x5_169 : Nat) : Int) = Int32.toInt x5_169 := cl_eq (by omega)
                refine dOk_L (fun q_300 eq_300 => ?_)
                have hTq_300 : TS q_300 := by rw [eq_300]; exact ts_any a_170 rfl
                have hFq_300 : dFr [19] [] q q_300 := by rw [eq_300]; exact hFq_165.i (by decide) (by decide)
                try have t_301 : Int32.toInt (x2_166 / 10) = Int32.toInt x2_166 / 10 := ti_div rfl (by decide) (by omega) (by omega)
                try have t_302 := ti_or (x := x3_167) (y := v_280) 6 (by decide) (by omega) (by omega) (by omega) (by omega)
                have l_303 : Int32.toInt 0 = 0 := by decide
                try have t_304 : Int32.toInt (x5_169 + (-1)) = Int32.toInt x5_169 + (-1) := ti_add rfl (by decide) (by omega) (by omega)
                exact hk_163 (q_300, (x2_166 / 10), (x3_167 ||| v_280), 0, (x5_169 + (-1))) (show (TS q_300) ∧ (dFr [19] [] q q_300) ∧ (-1 ≤ Int32.toInt (x5_169 + (-1))) ∧ (Int32.toInt (x5_169 + (-1)) ≤ 5) ∧ (Int32.toInt 0 = 0 ∨ Int32.toInt 0 = 1) from ⟨hTq_300, (by rw [eq_300]; exact ((((dFr.rf : dFr [19] [] q q)).t a_171 (by decide) (by decide))).i (by decide) (by decide)), by omega, by omega, by omega⟩) (show (Int32.toInt (x5_169 + (-1)) + 1).toNat < (Int32.toInt x5_169 + 1).toNat by omega)
    · have l_305 : Int32.toInt 0 = 0 := by decide
      have l_306 : Int32.toInt 1 = 1 := by decide
      try have t_307 : Int32.toInt (r_156 - 1) = Int32.toInt r_156 - 1 := ti_sub rfl (by decide) (by omega) (by omega)
      exact (show (TS q) ∧ (dFr [19] [] q q) ∧ (-1 ≤ Int32.toInt (r_156 - 1)) ∧ (Int32.toInt (r_156 - 1) ≤ 5) ∧ (Int32.toInt 1 = 0 ∨ Int32.toInt 1 = 1) from ⟨hT, dFr.rf, by omega, by omega, by omega⟩)
    · have l_308 : Int32.toInt 0 = 0 := by decide
      have l_309 : Int32.toInt 1 = 1 := by decide
      try have t_310 : Int32.toInt (r_156 - 1) = Int32.toInt r_156 - 1 := ti_sub rfl (by decide) (by omega) (by omega)
      show (Int32.toInt (r_156 - 1) + 1).toNat < 1000000000000
      omega
