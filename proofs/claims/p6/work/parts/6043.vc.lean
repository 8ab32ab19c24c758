set_option maxHeartbeats 4000000 in
set_option maxRecDepth 100000 in
theorem ok_X3_turnsToNumber_s32 (q : dK) (p1 : Int32) (hT : TC q) (hp0 : LD q) (hp1 : 0 ≤ Int32.toInt (q.1 32 15)) (hp2 : Int32.toInt (q.1 32 15) < Int32.toInt (q.1 32 14)) : dOk (zX3_turnsToNumber_s32 q p1) (fun (o : Int32 × dK) => (TC o.2) ∧ (cFr [34, 43, 44] [(32, 19)] q o.2)) := by
  unfold zX3_turnsToNumber_s32
  have hLs := ld_sz hp0
  refine dOk_le (A := 0) (B := Int32.toInt p1) (by decide) rfl (fun c_1 => ?_) (fun c_2 => ?_)
  · unfold zX3_turnsToNumber_s32_13
    refine dFix_ok (fun (a : dK × Int32 × Int32 × Int32) => (TC a.1) ∧ (cFr [34] [] q a.1) ∧ (-1 ≤ Int32.toInt a.2.2.2) ∧ (Int32.toInt a.2.2.2 ≤ 5) ∧ (0 ≤ Int32.toInt a.2.1)) (fun (a : dK × Int32 × Int32 × Int32) => (Int32.toInt a.2.2.2 + 1).toNat) ?_ _ ?_ _ (dF_gt ?_)
    · intro a ha k_4 hk_3
      obtain ⟨q_5, x2_6, x3_7, x4_8⟩ := a
      replace ha : (TC q_5) ∧ (cFr [34] [] q q_5) ∧ (-1 ≤ Int32.toInt x4_8) ∧ (Int32.toInt x4_8 ≤ 5) ∧ (0 ≤ Int32.toInt x2_6) := ha
      obtain ⟨a_9, a_10, a_11, a_12, a_13⟩ := ha
      show dOk (zX3_turnsToNumber_s32_13b  (fun q x2 x3 x4 => k_4 (q, x2, x3, x4)) q_5 x2_6 x3_7 x4_8) _
      unfold zX3_turnsToNumber_s32_13b
      have hFq_5 : cFr [34, 43, 44] [(32, 19)] q q_5 := (cFr.rf (q := q)).t a_10 (by decide) (by decide)
      refine dOk_lt (A := Int32.toInt x4_8) (B := 0) rfl (by decide) (fun c_14 => ?_) (fun c_15 => ?_)
      · refine dOk_eq (A := Int32.toInt x2_6) (B := 0) rfl (by decide) (fun c_16z c_16 => ?_) (fun c_17z c_17 => ?_)
        · have f_19 : 0 ≤ Int32.toInt (q_5.1 32 13) ∧ Int32.toInt (q_5.1 32 13) ≤ 6 := rg_32_13 a_9
          have f_20 : 0 ≤ Int32.toInt (q.1 32 13) ∧ Int32.toInt (q.1 32 13) ≤ 6 := rg_32_13 hT
          have w_21 : Int32.toInt (q_5.1 32 13) = Int32.toInt (q.1 32 13) := by rw [a_10.1 32 13 (by decide) (by decide)]
          try have t_22 := ti_shlP (s := q_5.1 32 13) (by omega) (by omega)
          try have t_23 := ti_shl5 (x := 1) (s := q_5.1 32 13) (by decide) (by decide) (by omega) (by omega)
          try have t_24 := ti_shl6 (x := 1) (s := q_5.1 32 13) (by decide) (by decide) (by omega) (by omega)
          try have t_25 : Int32.toInt (1 <<< ((q_5.1 32 13 : Int32) &&& 31) - 1) = Int32.toInt (1 <<< ((q_5.1 32 13 : Int32) &&& 31)) - 1 := ti_sub rfl (by decide) (by omega) (by omega)
          refine dOk_eq (A := Int32.toInt x3_7) (B := Int32.toInt (1 <<< ((q_5.1 32 13 : Int32) &&& 31) - 1)) rfl rfl (fun c_26z c_26 => ?_) (fun c_27z c_27 => ?_)
          · refine dOk_B (ok_X3_numberOfOrder_s32 q_5 a_9) (fun r_29 q_30 h_31 => ?_)
            replace h_31 : (q_30 = q_5) ∧ (0 ≤ Int32.toInt r_29 ∧ Int32.toInt r_29 ≤ 719) := h_31
            obtain ⟨i_32, i_33⟩ := h_31
            subst q_30
            have f_34 : 0 ≤ Int32.toInt (q_5.1 32 15) ∧ Int32.toInt (q_5.1 32 15) ≤ 46079 := rg_32_15 a_9
            have f_35 : 0 ≤ Int32.toInt (q.1 32 15) ∧ Int32.toInt (q.1 32 15) ≤ 46079 := rg_32_15 hT
            have w_36 : Int32.toInt (q_5.1 32 15) = Int32.toInt (q.1 32 15) := by rw [a_10.1 32 15 (by decide) (by decide)]
            have f_37 : 0 ≤ Int32.toInt (q_5.1 32 14) ∧ Int32.toInt (q_5.1 32 14) ≤ 46080 := rg_32_14 a_9
            have f_38 : 0 ≤ Int32.toInt (q.1 32 14) ∧ Int32.toInt (q.1 32 14) ≤ 46080 := rg_32_14 hT
            have w_39 : Int32.toInt (q_5.1 32 14) = Int32.toInt (q.1 32 14) := by rw [a_10.1 32 14 (by decide) (by decide)]
            refine dOk_B (ok_X3_nearest_s32 q_5 1 r_29 a_9 (ld_fr hp0 hFq_5 rfl) (show 0 ≤ Int32.toInt (q_5.1 32 15) by omega) (show Int32.toInt (q_5.1 32 15) < Int32.toInt (q_5.1 32 14) by omega)) (fun r_40 q_41 h_42 => ?_)
            replace h_42 : (TC q_41) ∧ (cFr [43, 44] [(32, 19)] q_5 q_41) := h_42
            obtain ⟨i_43, i_44⟩ := h_42
            have hFq_41 : cFr [34, 43, 44] [(32, 19)] q q_41 := hFq_5.t i_44 (by decide) (by decide)
            exact dOk_some (show (TC q_41) ∧ (cFr [34, 43, 44] [(32, 19)] q q_41) from ⟨i_43, hFq_41⟩)
          · unfold zX3_turnsToNumber_s32_105
            exact dOk_some (show (TC q_5) ∧ (cFr [34, 43, 44] [(32, 19)] q q_5) from ⟨a_9, hFq_5⟩)
        · unfold zX3_turnsToNumber_s32_105
          exact dOk_some (show (TC q_5) ∧ (cFr [34, 43, 44] [(32, 19)] q q_5) from ⟨a_9, hFq_5⟩)
      · refine dOk_G (dg_ok (show 0 ≤ Int32.toInt x4_8 by omega) (show Int32.toInt x4_8 < ((6 : Nat) : Int) by omega)) ?_
        have n_45 : ((Int32.toNatClampNeg x4_8 : Nat) : Int) = Int32.toInt x4_8 := cl_eq (by omega)
        refine dOk_L (fun q_46 eq_46 => ?_)
        have hTq_46 : TC q_46 := by rw [eq_46]; exact sa_34 a_9
        have hFq_46 : cFr [34, 43, 44] [(32, 19)] q q_46 := by rw [eq_46]; exact hFq_5.i (by decide)
        have f_47 : 0 ≤ Int32.toInt (q_46.1 32 13) ∧ Int32.toInt (q_46.1 32 13) ≤ 6 := rg_32_13 hTq_46
        have f_48 : 0 ≤ Int32.toInt (q_5.1 32 13) ∧ Int32.toInt (q_5.1 32 13) ≤ 6 := rg_32_13 a_9
        have f_49 : 0 ≤ Int32.toInt (q.1 32 13) ∧ Int32.toInt (q.1 32 13) ≤ 6 := rg_32_13 hT
        have w_50 : Int32.toInt (q_5.1 32 13) = Int32.toInt (q.1 32 13) := by rw [a_10.1 32 13 (by decide) (by decide)]
        try have w_51 : Int32.toInt (q_46.1 32 13) = Int32.toInt (q_5.1 32 13) := by rw [eq_46, cui_o (by decide)]
        refine dOk_le (A := Int32.toInt (q_46.1 32 13)) (B := Int32.toInt x4_8) rfl rfl (fun c_52 => ?_) (fun c_53 => ?_)
        · unfold zX3_turnsToNumber_s32_83
          obtain ⟨y_54, hy_54⟩ : ∃ y : Int32, x4_8 + (-1) = y := ⟨_, rfl⟩
          have t_55 : Int32.toInt y_54 = Int32.toInt x4_8 + (-1) := by rw [← hy_54]; exact ti_add rfl (by decide) (by omega) (by omega)
          rw [hy_54]
          clear hy_54
          exact hk_3 (q_46, x2_6, x3_7, y_54) (show (TC q_46) ∧ (cFr [34] [] q q_46) ∧ (-1 ≤ Int32.toInt y_54) ∧ (Int32.toInt y_54 ≤ 5) ∧ (0 ≤ Int32.toInt x2_6) from ⟨hTq_46, (by rw [eq_46]; exact (((cFr.rf : cFr [34] [] q q).t a_10 (by decide) (by decide)) : cFr [34] [] q q_5).i (by decide)), by omega, by omega, by omega⟩) (show (Int32.toInt y_54 + 1).toNat < (Int32.toInt x4_8 + 1).toNat by omega)
        · try have t_56 : Int32.toInt (x2_6 - x2_6 / 10 * 10) = Int32.toInt x2_6 % 10 := ti_rem rfl (by decide) (by omega) (by omega)
          refine dOk_B (ok_X3_indexOfRank_s32 q_46 (x2_6 - x2_6 / 10 * 10) hTq_46) (fun r_57 q_58 h_59 => ?_)
          replace h_59 : (q_58 = q_46) ∧ (-1 ≤ Int32.toInt r_57 ∧ Int32.toInt r_57 ≤ 5) := h_59
          obtain ⟨i_60, i_61⟩ := h_59
          subst q_58
          refine dOk_G (dg_ok (show 0 ≤ Int32.toInt x4_8 by omega) (show Int32.toInt x4_8 < ((6 : Nat) : Int) by omega)) ?_
          refine dOk_L (fun q_62 eq_62 => ?_)
          have hTq_62 : TC q_62 := by rw [eq_62]; exact sa_34 hTq_46
          have hFq_62 : cFr [34, 43, 44] [(32, 19)] q q_62 := by rw [eq_62]; exact hFq_46.i (by decide)
          refine dOk_G (dg_ok (show 0 ≤ Int32.toInt x4_8 by omega) (show Int32.toInt x4_8 < ((6 : Nat) : Int) by omega)) ?_
          refine dOk_L (fun v_63 ev_63 => ?_)
          refine dOk_eq (A := Int32.toInt v_63) (B := (-1)) rfl (by decide) (fun c_64z c_64 => ?_) (fun c_65z c_65 => ?_)
          · unfold zX3_turnsToNumber_s32_81
            unfold zX3_turnsToNumber_s32_83
            try have t_67 : Int32.toInt (x2_6 / 10) = Int32.toInt x2_6 / 10 := ti_div rfl (by decide) (by omega) (by omega)
            have t_68 : Int32.toInt (x3_7 ||| 0) = Int32.toInt x3_7 := ti_or0 _
            obtain ⟨y_69, hy_69⟩ : ∃ y : Int32, x4_8 + (-1) = y := ⟨_, rfl⟩
            have t_70 : Int32.toInt y_69 = Int32.toInt x4_8 + (-1) := by rw [← hy_69]; exact ti_add rfl (by decide) (by omega) (by omega)
            rw [hy_69]
            clear hy_69
            exact hk_3 (q_62, (x2_6 / 10), (x3_7 ||| 0), y_69) (show (TC q_62) ∧ (cFr [34] [] q q_62) ∧ (-1 ≤ Int32.toInt y_69) ∧ (Int32.toInt y_69 ≤ 5) ∧ (0 ≤ Int32.toInt (x2_6 / 10)) from ⟨hTq_62, (by rw [eq_62]; exact ((by rw [eq_46]; exact (((cFr.rf : cFr [34] [] q q).t a_10 (by decide) (by decide)) : cFr [34] [] q q_5).i (by decide)) : cFr [34] [] q q_46).i (by decide)), by omega, by omega, by omega⟩) (show (Int32.toInt y_69 + 1).toNat < (Int32.toInt x4_8 + 1).toNat by omega)
          · refine dOk_G (dg_ok (show 0 ≤ Int32.toInt x4_8 by omega) (show Int32.toInt x4_8 < ((6 : Nat) : Int) by omega)) ?_
            refine dOk_L (fun v_71 ev_71 => ?_)
            have w_72 : Int32.toInt v_71 = Int32.toInt v_63 := by rw [ev_71, ev_63]
            unfold zX3_turnsToNumber_s32_81
            unfold zX3_turnsToNumber_s32_83
            try have t_73 : Int32.toInt (x2_6 / 10) = Int32.toInt x2_6 / 10 := ti_div rfl (by decide) (by omega) (by omega)
            try have t_74 := ti_shlP (s := v_71) (by omega) (by omega)
            try have t_75 := ti_shl5 (x := 1) (s := v_71) (by decide) (by decide) (by omega) (by omega)
            try have t_76 := ti_shl6 (x := 1) (s := v_71) (by decide) (by decide) (by omega) (by omega)
            try have t_77 := ti_or (x := x3_7) (y := 1 <<< ((v_71 : Int32) &&& 31)) 6 (by decide) (by omega) (by omega) (by omega) (by omega)
            obtain ⟨y_78, hy_78⟩ : ∃ y : Int32, x4_8 + (-1) = y := ⟨_, rfl⟩
            have t_79 : Int32.toInt y_78 = Int32.toInt x4_8 + (-1) := by rw [← hy_78]; exact ti_add rfl (by decide) (by omega) (by omega)
            rw [hy_78]
            clear hy_78
            exact hk_3 (q_62, (x2_6 / 10), (x3_7 ||| 1 <<< ((v_71 : Int32) &&& 31)), y_78) (show (TC q_62) ∧ (cFr [34] [] q q_62) ∧ (-1 ≤ Int32.toInt y_78) ∧ (Int32.toInt y_78 ≤ 5) ∧ (0 ≤ Int32.toInt (x2_6 / 10)) from ⟨hTq_62, (by rw [eq_62]; exact ((by rw [eq_46]; exact (((cFr.rf : cFr [34] [] q q).t a_10 (by decide) (by decide)) : cFr [34] [] q q_5).i (by decide)) : cFr [34] [] q q_46).i (by decide)), by omega, by omega, by omega⟩) (show (Int32.toInt y_78 + 1).toNat < (Int32.toInt x4_8 + 1).toNat by omega)
    · exact (show (TC q) ∧ (cFr [34] [] q q) ∧ (-1 ≤ (5 : Int)) ∧ ((5 : Int) ≤ 5) ∧ (0 ≤ Int32.toInt p1) from ⟨hT, cFr.rf, by omega, by omega, by omega⟩)
    · show ((5 : Int) + 1).toNat < 1000000000000
      omega
  · exact dOk_some (show (TC q) ∧ (cFr [34, 43, 44] [(32, 19)] q q) from ⟨hT, (cFr.rf (q := q))⟩)
