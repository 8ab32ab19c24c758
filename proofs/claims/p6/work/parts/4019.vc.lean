theorem ok_isOrder_L (q0 q : dS) (hT : TS q) (hF : dFr [19] [] q0 q) (x2 x3 x4 x5 : Int32) (h4 : x4.toInt = 0 ∨ x4.toInt = 1) (h5 : -1 ≤ x5.toInt) (h6 : x5.toInt ≤ 5) : dOk (zX10_isOrder_23 dF q x2 x3 x4 x5) (fun (o : Int32 × dS) => (TS o.2) ∧ (dFr [19] [] q0 o.2) ∧ ((Int32.toInt o.1 = 0 ∨ Int32.toInt o.1 = 1))) := by
  unfold zX10_isOrder_23
  refine dFix_ok (fun (a : dS × Int32 × Int32 × Int32 × Int32) => TS a.1 ∧ dFr [19] [] q0 a.1 ∧ (a.2.2.2.1.toInt = 0 ∨ a.2.2.2.1.toInt = 1) ∧ -1 ≤ a.2.2.2.2.toInt ∧ a.2.2.2.2.toInt ≤ 5) (fun (a : dS × Int32 × Int32 × Int32 × Int32) => (a.2.2.2.2.toInt + 1).toNat) ?_ _ ⟨hT, hF, h4, h5, h6⟩ _ (dF_gt ?_)
  · intro a ha k hk
    obtain ⟨q, x2, x3, x4, x5⟩ := a
    obtain ⟨hT, hF, h4, h5, h6⟩ := ha
    replace hT : TS q := hT
    replace hF : dFr [19] [] q0 q := hF
    replace h4 : x4.toInt = 0 ∨ x4.toInt = 1 := h4
    replace h5 : -1 ≤ x5.toInt := h5
    replace h6 : x5.toInt ≤ 5 := h6
    show dOk (zX10_isOrder_23b (fun q x2 x3 x4 x5 => k (q, x2, x3, x4, x5)) q x2 x3 x4 x5) _
    have h95 : 0 ≤ x5.toInt → ∀ (x3' y0 y1 : Int32), (y0.toInt = 0 ∨ y0.toInt = 1) → dOk (zX10_isOrder_95 (fun q x2 x3 x4 x5 => k (q, x2, x3, x4, x5)) q x2 x3' y0 x5 y1 x5) (fun (o : Int32 × dS) => (TS o.2) ∧ (dFr [19] [] q0 o.2) ∧ ((Int32.toInt o.1 = 0 ∨ Int32.toInt o.1 = 1))) := by
      intro h0 x3' y0 y1 hy
      unfold zX10_isOrder_95
      have t : Int32.toInt (x5 + (-1)) = x5.toInt + (-1) := ti_add rfl (by decide) (by omega) (by omega)
      refine dOk_G (dg_ok h0 (by omega)) (dOk_L (fun q2 e2 => ?_))
      refine hk (q2, x2 / 10, x3', y0, x5 + (-1)) ⟨?_, ?_, hy, ?_, ?_⟩ ?_
      · show TS q2
        rw [e2]; exact ts_any hT rfl
      · show dFr [19] [] q0 q2
        rw [e2]; exact hF.i (by decide) (by decide)
      · show -1 ≤ Int32.toInt (x5 + (-1))
        omega
      · show Int32.toInt (x5 + (-1)) ≤ 5
        omega
      · show (Int32.toInt (x5 + (-1)) + 1).toNat < (x5.toInt + 1).toNat
        omega
    have h61 : 0 ≤ x5.toInt → ∀ y0 : Int32, (y0.toInt = 0 ∨ y0.toInt = 1) → dOk (zX10_isOrder_61 (fun q x2 x3 x4 x5 => k (q, x2, x3, x4, x5)) q x2 x3 x5 y0) (fun (o : Int32 × dS) => (TS o.2) ∧ (dFr [19] [] q0 o.2) ∧ ((Int32.toInt o.1 = 0 ∨ Int32.toInt o.1 = 1))) := by
      intro h0 y0 hy
      unfold zX10_isOrder_61
      refine dOk_L (fun v1 _ => ?_)
      refine dOk_eq rfl rfl (fun _ _ => h95 h0 _ y0 0 hy) (fun _ _ => ?_)
      refine dOk_B (ok_lessThan q _ hT) (fun r2 q4 hr => ?_)
      have e4 : q4 = q := hr.1
      subst e4
      exact h95 h0 _ y0 r2 hy
    have h0d : (0 : Int32).toInt = 0 := by decide
    have h1d : (1 : Int32).toInt = 1 := by decide
    unfold zX10_isOrder_23b zX10_isOrder_60 zX10_isOrder_120 zX10_isOrder_121
    refine dOk_lt (A := x5.toInt) (B := 0) rfl h0d (fun c => ?_) (fun c => ?_)
    · refine dOk_eq rfl rfl (fun _ _ => dOk_G (by decide) (dOk_some ⟨hT, hF, Or.inl h0d⟩)) (fun _ _ => ?_)
      exact dOk_eq rfl rfl (fun _ _ => dOk_G (by decide) (dOk_some ⟨hT, hF, Or.inr h1d⟩)) (fun _ _ => dOk_G (by decide) (dOk_some ⟨hT, hF, Or.inl h0d⟩))
    · refine dOk_eq rfl rfl (fun _ _ => h61 c 0 (Or.inl h0d)) (fun _ _ => ?_)
      refine dOk_B (ok_placeOf q _ hT) (fun r1 q3 hr => ?_)
      have e3 : q3 = q := hr.1
      subst e3
      refine dOk_eq rfl rfl (fun _ _ => h61 c 0 (Or.inl h0d)) (fun _ _ => ?_)
      refine dOk_V (ok_isIn x3 _) (fun r4 _ => ?_)
      exact dOk_eq rfl rfl (fun _ _ => h61 c 1 (Or.inr h1d)) (fun _ _ => h61 c 0 (Or.inl h0d))
  · show (x5.toInt + 1).toNat < 1000000000000
    omega
theorem ok_isOrder (q : dS) (p1 : Int32) (hT : TS q) : dOk (zX10_isOrder q p1) (fun (o : Int32 × dS) => (TS o.2) ∧ (dFr [19] [] q o.2) ∧ ((Int32.toInt o.1 = 0 ∨ Int32.toInt o.1 = 1))) := by
  have h : ∀ y : Int32, (y.toInt = 0 ∨ y.toInt = 1) → dOk (zX10_isOrder_13 q p1 0 y) (fun (o : Int32 × dS) => (TS o.2) ∧ (dFr [19] [] q o.2) ∧ ((Int32.toInt o.1 = 0 ∨ Int32.toInt o.1 = 1))) := by
    intro y hy
    unfold zX10_isOrder_13
    refine dOk_B (ok_size q hT) (fun r q2 hr => ?_)
    have e2 : q2 = q := hr.1
    have h2 : 0 ≤ Int32.toInt r ∧ Int32.toInt r ≤ 6 := hr.2.2
    subst e2
    have t : Int32.toInt (r - 1) = r.toInt - 1 := ti_sub rfl (by decide) (by omega) (by omega)
    exact ok_isOrder_L q2 q2 hT dFr.rf _ _ _ _ hy (by omega) (by omega)
  unfold zX10_isOrder
  exact dOk_lt rfl rfl (fun _ => h 0 (by decide)) (fun _ => h 1 (by decide))

set_option maxHeartbeats 4000000 in
set_option maxRecDepth 100000 in
theorem ok_canStay (q : dS) (p1 : Int32) (hT : TS q) : dOk (zX10_canStay q p1) (fun (o : Int32 × dS) => (o.2 = q) ∧ ((Int32.toInt o.1 = 0 ∨ Int32.toInt o.1 = 1))) := by
  unfold zX10_canStay
  unfold zX10_canStay_7
  refine dFix_ok (fun (a : dS × Int32 × Int32 × Int32 × Int32) => (a.1 = q) ∧ (a.2.1 = p1) ∧ (0 ≤ Int32.toInt a.2.2.2.2) ∧ (Int32.toInt a.2.2.2.2 ≤ 6) ∧ (Int32.toInt a.2.2.2.1 = 0 ∨ Int32.toInt a.2.2.2.1 = 1)) (fun (a : dS × Int32 × Int32 × Int32 × Int32) => (6 - Int32.toInt a.2.2.2.2).toNat) ?_ _ ?_ _ (dF_gt ?_)
  · intro a ha k_2 hk_1
    obtain ⟨q_3, x1_4, x2_5, x3_6, x4_7⟩ := a
    replace ha : (q_3 = q) ∧ (x1_4 = p1) ∧ (0 ≤ Int32.toInt x4_7) ∧ (Int32.toInt x4_7 ≤ 6) ∧ (Int32.toInt x3_6 = 0 ∨ Int32.toInt x3_6 = 1) := ha
    obtain ⟨a_8, a_9, a_10, a_11, a_12⟩ := ha
    show dOk (zX10_canStay_7b  (fun q x1 x2 x3 x4 => k_2 (q, x1, x2, x3, x4)) q_3 x1_4 x2_5 x3_6 x4_7) _
    unfold zX10_canStay_7b
    subst q_3
    subst x1_4
    refine dOk_B (ok_size q hT) (fun r_13 q_14 h_15 => ?_)
    replace h_15 : (q_14 = q) ∧ (Int32.toInt r_13 = Int32.toInt (q.1 2 29)) ∧ (0 ≤ Int32.toInt r_13 ∧ Int32.toInt r_13 ≤ 6) := h_15
    obtain ⟨i_16, i_17, i_18⟩ := h_15
    subst q_14
    have f_19 : 0 ≤ Int32.toInt (q.1 2 29) ∧ Int32.toInt (q.1 2 29) ≤ 6 := hT.1 2 29
    refine dOk_le (A := Int32.toInt r_13) (B := Int32.toInt x4_7) rfl rfl (fun c_20 => ?_) (fun c_21 => ?_)
    · refine dOk_G (dbl_ok (show Int32.toInt x3_6 = 0 ∨ Int32.toInt x3_6 = 1 by omega)) ?_
      exact dOk_some (show (q = q) ∧ ((Int32.toInt x3_6 = 0 ∨ Int32.toInt x3_6 = 1)) from ⟨rfl, by omega⟩)
    · refine dOk_V (ok_isIn p1 x4_7) (fun r_22 h_23 => ?_)
      replace h_23 : ((Int32.toInt r_22 = 0 ∨ Int32.toInt r_22 = 1)) := h_23
      have i_24 := h_23
      refine dOk_eq (A := Int32.toInt r_22) (B := 0) rfl (by decide) (fun c_25z c_25 => ?_) (fun c_26z c_26 => ?_)
      · unfold zX10_canStay_84
        try have t_28 : Int32.toInt (x4_7 + 1) = Int32.toInt x4_7 + 1 := ti_add rfl (by decide) (by omega) (by omega)
        exact hk_1 (q, p1, x2_5, x3_6, (x4_7 + 1)) (show (q = q) ∧ (p1 = p1) ∧ (0 ≤ Int32.toInt (x4_7 + 1)) ∧ (Int32.toInt (x4_7 + 1) ≤ 6) ∧ (Int32.toInt x3_6 = 0 ∨ Int32.toInt x3_6 = 1) from ⟨rfl, rfl, by omega, by omega, by omega⟩) (show (6 - Int32.toInt (x4_7 + 1)).toNat < (6 - Int32.toInt x4_7).toNat by omega)
      · refine dOk_eq (A := Int32.toInt x3_6) (B := 0) rfl (by decide) (fun c_29z c_29 => ?_) (fun c_30z c_30 => ?_)
        · unfold zX10_canStay_72
          unfold zX10_canStay_73
          try have t_32 : Int32.toInt (0 + x4_7) = 0 + Int32.toInt x4_7 := ti_add (by decide) rfl (by omega) (by omega)
          refine dOk_G (dg_ok (show 0 ≤ Int32.toInt (0 + x4_7) by omega) (show Int32.toInt (0 + x4_7) < ((5640 : Nat) : Int) by omega)) ?_
          have n_33 : ((Int32.toNatClampNeg (0 + x4_7) : Nat) : Int) = Int32.toInt (0 + x4_7) := cl_eq (by omega)
          refine dOk_L (fun v_34 ev_34 => ?_)
          try have g_35 : klo (Int32.toNatClampNeg (0 + x4_7)) ≤ Int32.toInt v_34 ∧ Int32.toInt v_34 ≤ khi (Int32.toNatClampNeg (0 + x4_7)) := by rw [ev_34]; exact te_k hT _
          try have f_36 : 0 ≤ Int32.toInt v_34 ∧ Int32.toInt v_34 ≤ 5 := by rw [ev_34]; exact te_2r hT (by omega) (by omega)
          try have f_37 : 0 ≤ Int32.toInt v_34 ∧ Int32.toInt v_34 ≤ 1 := by rw [ev_34]; exact te_2h hT (by omega) (by omega)
          try have f_38 : 0 ≤ Int32.toInt v_34 ∧ Int32.toInt v_34 ≤ 5 := by rw [ev_34]; exact te_2s hT (by omega) (by omega)
          try have f_39 : 0 ≤ Int32.toInt v_34 ∧ Int32.toInt v_34 ≤ 400 := by rw [ev_34]; exact te_2z hT (by omega) (by omega)
          unfold zX10_canStay_84
          try have t_40 : Int32.toInt (x4_7 + 1) = Int32.toInt x4_7 + 1 := ti_add rfl (by decide) (by omega) (by omega)
          exact hk_1 (q, p1, v_34, 0, (x4_7 + 1)) (show (q = q) ∧ (p1 = p1) ∧ (0 ≤ Int32.toInt (x4_7 + 1)) ∧ (Int32.toInt (x4_7 + 1) ≤ 6) ∧ ((0 : Int) = 0 ∨ (0 : Int) = 1) from ⟨rfl, rfl, by omega, by omega, by omega⟩) (show (6 - Int32.toInt (x4_7 + 1)).toNat < (6 - Int32.toInt x4_7).toNat by omega)
        · try have t_41 : Int32.toInt (0 + x4_7) = 0 + Int32.toInt x4_7 := ti_add (by decide) rfl (by omega) (by omega)
          refine dOk_G (dg_ok (show 0 ≤ Int32.toInt (0 + x4_7) by omega) (show Int32.toInt (0 + x4_7) < ((5640 : Nat) : Int) by omega)) ?_
          have n_42 : ((Int32.toNatClampNeg (0 + x4_7) : Nat) : Int) = Int32.toInt (0 + x4_7) := cl_eq (by omega)
          refine dOk_L (fun v_43 ev_43 => ?_)
          try have g_44 : klo (Int32.toNatClampNeg (0 + x4_7)) ≤ Int32.toInt v_43 ∧ Int32.toInt v_43 ≤ khi (Int32.toNatClampNeg (0 + x4_7)) := by rw [ev_43]; exact te_k hT _
          try have f_45 : 0 ≤ Int32.toInt v_43 ∧ Int32.toInt v_43 ≤ 5 := by rw [ev_43]; exact te_2r hT (by omega) (by omega)
          try have f_46 : 0 ≤ Int32.toInt v_43 ∧ Int32.toInt v_43 ≤ 1 := by rw [ev_43]; exact te_2h hT (by omega) (by omega)
          try have f_47 : 0 ≤ Int32.toInt v_43 ∧ Int32.toInt v_43 ≤ 5 := by rw [ev_43]; exact te_2s hT (by omega) (by omega)
          try have f_48 : 0 ≤ Int32.toInt v_43 ∧ Int32.toInt v_43 ≤ 400 := by rw [ev_43]; exact te_2z hT (by omega) (by omega)
          refine dOk_le (A := Int32.toInt v_43) (B := Int32.toInt x2_5) rfl rfl (fun c_49 => ?_) (fun c_50 => ?_)
          · unfold zX10_canStay_72
            unfold zX10_canStay_73
            refine dOk_G (dg_ok (show 0 ≤ Int32.toInt (0 + x4_7) by omega) (show Int32.toInt (0 + x4_7) < ((5640 : Nat) : Int) by omega)) ?_
            refine dOk_L (fun v_51 ev_51 => ?_)
            have w_52 : Int32.toInt v_51 = Int32.toInt v_43 := by rw [ev_51, ev_43]
            try have g_53 : klo (Int32.toNatClampNeg (0 + x4_7)) ≤ Int32.toInt v_51 ∧ Int32.toInt v_51 ≤ khi (Int32.toNatClampNeg (0 + x4_7)) := by rw [ev_51]; exact te_k hT _
            try have f_54 : 0 ≤ Int32.toInt v_51 ∧ Int32.toInt v_51 ≤ 5 := by rw [ev_51]; exact te_2r hT (by omega) (by omega)
            try have f_55 : 0 ≤ Int32.toInt v_51 ∧ Int32.toInt v_51 ≤ 1 := by rw [ev_51]; exact te_2h hT (by omega) (by omega)
            try have f_56 : 0 ≤ Int32.toInt v_51 ∧ Int32.toInt v_51 ≤ 5 := by rw [ev_51]; exact te_2s hT (by omega) (by omega)
            try have f_57 : 0 ≤ Int32.toInt v_51 ∧ Int32.toInt v_51 ≤ 400 := by rw [ev_51]; exact te_2z hT (by omega) (by omega)
            unfold zX10_canStay_84
            try have t_58 : Int32.toInt (x4_7 + 1) = Int32.toInt x4_7 + 1 := ti_add rfl (by decide) (by omega) (by omega)
            exact hk_1 (q, p1, v_51, 0, (x4_7 + 1)) (show (q = q) ∧ (p1 = p1) ∧ (0 ≤ Int32.toInt (x4_7 + 1)) ∧ (Int32.toInt (x4_7 + 1) ≤ 6) ∧ ((0 : Int) = 0 ∨ (0 : Int) = 1) from ⟨rfl, rfl, by omega, by omega, by omega⟩) (show (6 - Int32.toInt (x4_7 + 1)).toNat < (6 - Int32.toInt x4_7).toNat by omega)
          · have f_59 : 0 ≤ Int32.toInt (q.1 2 28) ∧ Int32.toInt (q.1 2 28) ≤ 1 := hT.1 2 28
            refine dOk_eq (A := Int32.toInt (q.1 2 28)) (B := 0) rfl (by decide) (fun c_60z c_60 => ?_) (fun c_61z c_61 => ?_)
            · unfold zX10_canStay_68
              unfold zX10_canStay_73
              refine dOk_G (dg_ok (show 0 ≤ Int32.toInt (0 + x4_7) by omega) (show Int32.toInt (0 + x4_7) < ((5640 : Nat) : Int) by omega)) ?_
              refine dOk_L (fun v_63 ev_63 => ?_)
              have w_64 : Int32.toInt v_63 = Int32.toInt v_43 := by rw [ev_63, ev_43]
              try have g_65 : klo (Int32.toNatClampNeg (0 + x4_7)) ≤ Int32.toInt v_63 ∧ Int32.toInt v_63 ≤ khi (Int32.toNatClampNeg (0 + x4_7)) := by rw [ev_63]; exact te_k hT _
              try have f_66 : 0 ≤ Int32.toInt v_63 ∧ Int32.toInt v_63 ≤ 5 := by rw [ev_63]; exact te_2r hT (by omega) (by omega)
              try have f_67 : 0 ≤ Int32.toInt v_63 ∧ Int32.toInt v_63 ≤ 1 := by rw [ev_63]; exact te_2h hT (by omega) (by omega)
              try have f_68 : 0 ≤ Int32.toInt v_63 ∧ Int32.toInt v_63 ≤ 5 := by rw [ev_63]; exact te_2s hT (by omega) (by omega)
              try have f_69 : 0 ≤ Int32.toInt v_63 ∧ Int32.toInt v_63 ≤ 400 := by rw [ev_63]; exact te_2z hT (by omega) (by omega)
              unfold zX10_canStay_84
              try have t_70 : Int32.toInt (x4_7 + 1) = Int32.toInt x4_7 + 1 := ti_add rfl (by decide) (by omega) (by omega)
              exact hk_1 (q, p1, v_63, 1, (x4_7 + 1)) (show (q = q) ∧ (p1 = p1) ∧ (0 ≤ Int32.toInt (x4_7 + 1)) ∧ (Int32.toInt (x4_7 + 1) ≤ 6) ∧ ((1 : Int) = 0 ∨ (1 : Int) = 1) from ⟨rfl, rfl, by omega, by omega, by omega⟩) (show (6 - Int32.toInt (x4_7 + 1)).toNat < (6 - Int32.toInt x4_7).toNat by omega)
            · try have t_71 : Int32.toInt (6 + x4_7) = 6 + Int32.toInt x4_7 := ti_add (by decide) rfl (by omega) (by omega)
              refine dOk_G (dg_ok (show 0 ≤ Int32.toInt (6 + x4_7) by omega) (show Int32.toInt (6 + x4_7) < ((5640 : Nat) : Int) by omega)) ?_
              have n_72 : ((Int32.toNatClampNeg (6 + x4_7) : Nat) : Int) = Int32.toInt (6 + x4_7) := cl_eq (by omega)
              refine dOk_L (fun v_73 ev_73 => ?_)
              try have g_74 : klo (Int32.toNatClampNeg (6 + x4_7)) ≤ Int32.toInt v_73 ∧ Int32.toInt v_73 ≤ khi (Int32.toNatClampNeg (6 + x4_7)) := by rw [ev_73]; exact te_k hT _
              try have f_75 : 0 ≤ Int32.toInt v_73 ∧ Int32.toInt v_73 ≤ 5 := by rw [ev_73]; exact te_2r hT (by omega) (by omega)
              try have f_76 : 0 ≤ Int32.toInt v_73 ∧ Int32.toInt v_73 ≤ 1 := by rw [ev_73]; exact te_2h hT (by omega) (by omega)
              try have f_77 : 0 ≤ Int32.toInt v_73 ∧ Int32.toInt v_73 ≤ 5 := by rw [ev_73]; exact te_2s hT (by omega) (by omega)
              try have f_78 : 0 ≤ Int32.toInt v_73 ∧ Int32.toInt v_73 ≤ 400 := by rw [ev_73]; exact te_2z hT (by omega) (by omega)
              refine dOk_eq (A := Int32.toInt v_73) (B := 0) rfl (by decide) (fun c_79z c_79 => ?_) (fun c_80z c_80 => ?_)
              · unfold zX10_canStay_68
                unfold zX10_canStay_73
                refine dOk_G (dg_ok (show 0 ≤ Int32.toInt (0 + x4_7) by omega) (show Int32.toInt (0 + x4_7) < ((5640 : Nat) : Int) by omega)) ?_
                refine dOk_L (fun v_82 ev_82 => ?_)
                have w_83 : Int32.toInt v_82 = Int32.toInt v_43 := by rw [ev_82, ev_43]
                try have g_84 : klo (Int32.toNatClampNeg (0 + x4_7)) ≤ Int32.toInt v_82 ∧ Int32.toInt v_82 ≤ khi (Int32.toNatClampNeg (0 + x4_7)) := by rw [ev_82]; exact te_k hT _
                try have f_85 : 0 ≤ Int32.toInt v_82 ∧ Int32.toInt v_82 ≤ 5 := by rw [ev_82]; exact te_2r hT (by omega) (by omega)
                try have f_86 : 0 ≤ Int32.toInt v_82 ∧ Int32.toInt v_82 ≤ 1 := by rw [ev_82]; exact te_2h hT (by omega) (by omega)
                try have f_87 : 0 ≤ Int32.toInt v_82 ∧ Int32.toInt v_82 ≤ 5 := by rw [ev_82]; exact te_2s hT (by omega) (by omega)
                try have f_88 : 0 ≤ Int32.toInt v_82 ∧ Int32.toInt v_82 ≤ 400 := by rw [ev_82]; exact te_2z hT (by omega) (by omega)
                unfold zX10_canStay_84
                try have t_89 : Int32.toInt (x4_7 + 1) = Int32.toInt x4_7 + 1 := ti_add rfl (by decide) (by omega) (by omega)
                exact hk_1 (q, p1, v_82, 1, (x4_7 + 1)) (show (q = q) ∧ (p1 = p1) ∧ (0 ≤ Int32.toInt (x4_7 + 1)) ∧ (Int32.toInt (x4_7 + 1) ≤ 6) ∧ ((1 : Int) = 0 ∨ (1 : Int) = 1) from ⟨rfl, rfl, by omega, by omega, by omega⟩) (show (6 - Int32.toInt (x4_7 + 1)).toNat < (6 - Int32.toInt x4_7).toNat by omega)
              · unfold zX10_canStay_72
                unfold zX10_canStay_73
                refine dOk_G (dg_ok (show 0 ≤ Int32.toInt (0 + x4_7) by omega) (show Int32.toInt (0 + x4_7) < ((5640 : Nat) : Int) by omega)) ?_
                refine dOk_L (fun v_90 ev_90 => ?_)
                have w_91 : Int32.toInt v_90 = Int32.toInt v_43 := by rw [ev_90, ev_43]
                try have g_92 : klo (Int32.toNatClampNeg (0 + x4_7)) ≤ Int32.toInt v_90 ∧ Int32.toInt v_90 ≤ khi (Int32.toNatClampNeg (0 + x4_7)) := by rw [ev_90]; exact te_k hT _
                try have f_93 : 0 ≤ Int32.toInt v_90 ∧ Int32.toInt v_90 ≤ 5 := by rw [ev_90]; exact te_2r hT (by omega) (by omega)
                try have f_94 : 0 ≤ Int32.toInt v_90 ∧ Int32.toInt v_90 ≤ 1 := by rw [ev_90]; exact te_2h hT (by omega) (by omega)
                try have f_95 : 0 ≤ Int32.toInt v_90 ∧ Int32.toInt v_90 ≤ 5 := by rw [ev_90]; exact te_2s hT (by omega) (by omega)
                try have f_96 : 0 ≤ Int32.toInt v_90 ∧ Int32.toInt v_90 ≤ 400 := by rw [ev_90]; exact te_2z hT (by omega) (by omega)
                unfold zX10_canStay_84
                try have t_97 : Int32.toInt (x4_7 + 1) = Int32.toInt x4_7 + 1 := ti_add rfl (by decide) (by omega) (by omega)
                exact hk_1 (q, p1, v_90, 0, (x4_7 + 1)) (show (q = q) ∧ (p1 = p1) ∧ (0 ≤ Int32.toInt (x4_7 + 1)) ∧ (Int32.toInt (x4_7 + 1) ≤ 6) ∧ ((0 : Int) = 0 ∨ (0 : Int) = 1) from ⟨rfl, rfl, by omega, by omega, by omega⟩) (show (6 - Int32.toInt (x4_7 + 1)).toNat < (6 - Int32.toInt x4_7).toNat by omega)
  · exact (show (q = q) ∧ (p1 = p1) ∧ (0 ≤ (0 : Int)) ∧ ((0 : Int) ≤ 6) ∧ ((1 : Int) = 0 ∨ (1 : Int) = 1) from ⟨rfl, rfl, by omega, by omega, by omega⟩)
  · show (6 - (0 : Int)).toNat < 1000000000000
    omega

set_option maxHeartbeats 4000000 in
set_option maxRecDepth 100000 in
theorem ok_stays (q : dS) (p1 : Int32) (hT : TS q) : dOk (zX10_stays q p1) (fun (o : Int32 × dS) => (o.2 = q)) := by
  unfold zX10_stays
  refine dOk_V (ok_lies p1 0 1) (fun r_1 h_2 => ?_)
  replace h_2 : ((Int32.toInt r_1 = 1 ∧ (0 : Int) ≤ Int32.toInt p1 ∧ Int32.toInt p1 ≤ (1 : Int)) ∨ (Int32.toInt r_1 = 0 ∧ (Int32.toInt p1 < (0 : Int) ∨ (1 : Int) < Int32.toInt p1))) := h_2
  have i_3 := h_2
  refine dOk_eq (A := Int32.toInt r_1) (B := 0) rfl (by decide) (fun c_4z c_4 => ?_) (fun c_5z c_5 => ?_)
  · exact dOk_some (show (q = q) from rfl)
  · unfold zX10_stays_15
    refine dFix_ok (fun (a : dS × Int32 × Int32 × Int32) => (a.1 = q) ∧ (a.2.1 = p1) ∧ (0 ≤ Int32.toInt a.2.2.2) ∧ (Int32.toInt a.2.2.2 ≤ 64)) (fun (a : dS × Int32 × Int32 × Int32) => (64 - Int32.toInt a.2.2.2).toNat) ?_ _ ?_ _ (dF_gt ?_)
    · intro a ha k_8 hk_7
      obtain ⟨q_9, x1_10, x2_11, x3_12⟩ := a
      replace ha : (q_9 = q) ∧ (x1_10 = p1) ∧ (0 ≤ Int32.toInt x3_12) ∧ (Int32.toInt x3_12 ≤ 64) := ha
      obtain ⟨a_13, a_14, a_15, a_16⟩ := ha
      show dOk (zX10_stays_15b  (fun q x1 x2 x3 => k_8 (q, x1, x2, x3)) q_9 x1_10 x2_11 x3_12) _
      unfold zX10_stays_15b
      subst q_9
      subst x1_10
      refine dOk_B (ok_size q hT) (fun r_17 q_18 h_19 => ?_)
      replace h_19 : (q_18 = q) ∧ (Int32.toInt r_17 = Int32.toInt (q.1 2 29)) ∧ (0 ≤ Int32.toInt r_17 ∧ Int32.toInt r_17 ≤ 6) := h_19
      obtain ⟨i_20, i_21, i_22⟩ := h_19
      subst q_18
      have f_23 : 0 ≤ Int32.toInt (q.1 2 29) ∧ Int32.toInt (q.1 2 29) ≤ 6 := hT.1 2 29
      try have t_24 := ti_shlP (s := r_17) (by omega) (by omega)
      try have t_25 := ti_shl5 (x := 1) (s := r_17) (by decide) (by decide) (by omega) (by omega)
      try have t_26 := ti_shl6 (x := 1) (s := r_17) (by decide) (by decide) (by omega) (by omega)
      refine dOk_le (A := Int32.toInt (1 <<< ((r_17 : Int32) &&& 31))) (B := Int32.toInt x3_12) rfl rfl (fun c_27 => ?_) (fun c_28 => ?_)
      · refine dOk_eq (A := Int32.toInt p1) (B := 0) rfl (by decide) (fun c_29z c_29 => ?_) (fun c_30z c_30 => ?_)
        · refine dOk_V (ok_ones x2_11) (fun r_32 h_33 => ?_)
          replace h_33 : (0 ≤ Int32.toInt r_32 ∧ Int32.toInt r_32 ≤ 7) := h_33
          have i_34 := h_33
          unfold zX10_stays_64
          exact dOk_some (show (q = q) from rfl)
        · unfold zX10_stays_64
          exact dOk_some (show (q = q) from rfl)
      · refine dOk_V (ok_ones x3_12) (fun r_35 h_36 => ?_)
        replace h_36 : (0 ≤ Int32.toInt r_35 ∧ Int32.toInt r_35 ≤ 7) := h_36
        have i_37 := h_36
        refine dOk_V (ok_ones x2_11) (fun r_38 h_39 => ?_)
        replace h_39 : (0 ≤ Int32.toInt r_38 ∧ Int32.toInt r_38 ≤ 7) := h_39
        have i_40 := h_39
        refine dOk_le (A := Int32.toInt r_35) (B := Int32.toInt r_38) rfl rfl (fun c_41 => ?_) (fun c_42 => ?_)
        · unfold zX10_stays_46
          try have t_43 : Int32.toInt (x3_12 + 1) = Int32.toInt x3_12 + 1 := ti_add rfl (by decide) (by omega) (by omega)
          exact hk_7 (q, p1, x2_11, (x3_12 + 1)) (show (q = q) ∧ (p1 = p1) ∧ (0 ≤ Int32.toInt (x3_12 + 1)) ∧ (Int32.toInt (x3_12 + 1) ≤ 64) from ⟨rfl, rfl, by omega, by omega⟩) (show (64 - Int32.toInt (x3_12 + 1)).toNat < (64 - Int32.toInt x3_12).toNat by omega)
        · refine dOk_B (ok_canStay q x3_12 hT) (fun r_44 q_45 h_46 => ?_)
          replace h_46 : (q_45 = q) ∧ ((Int32.toInt r_44 = 0 ∨ Int32.toInt r_44 = 1)) := h_46
          obtain ⟨i_47, i_48⟩ := h_46
          subst q_45
          refine dOk_eq (A := Int32.toInt r_44) (B := 0) rfl (by decide) (fun c_49z c_49 => ?_) (fun c_50z c_50 => ?_)
          · unfold zX10_stays_46
            try have t_52 : Int32.toInt (x3_12 + 1) = Int32.toInt x3_12 + 1 := ti_add rfl (by decide) (by omega) (by omega)
            exact hk_7 (q, p1, x2_11, (x3_12 + 1)) (show (q = q) ∧ (p1 = p1) ∧ (0 ≤ Int32.toInt (x3_12 + 1)) ∧ (Int32.toInt (x3_12 + 1) ≤ 64) from ⟨rfl, rfl, by omega, by omega⟩) (show (64 - Int32.toInt (x3_12 + 1)).toNat < (64 - Int32.toInt x3_12).toNat by omega)
          · unfold zX10_stays_46
            try have t_53 : Int32.toInt (x3_12 + 1) = Int32.toInt x3_12 + 1 := ti_add rfl (by decide) (by omega) (by omega)
            exact hk_7 (q, p1, x3_12, (x3_12 + 1)) (show (q = q) ∧ (p1 = p1) ∧ (0 ≤ Int32.toInt (x3_12 + 1)) ∧ (Int32.toInt (x3_12 + 1) ≤ 64) from ⟨rfl, rfl, by omega, by omega⟩) (show (64 - Int32.toInt (x3_12 + 1)).toNat < (64 - Int32.toInt x3_12).toNat by omega)
    · exact (show (q = q) ∧ (p1 = p1) ∧ (0 ≤ (0 : Int)) ∧ ((0 : Int) ≤ 64) from ⟨rfl, rfl, by omega, by omega⟩)
    · show (64 - (0 : Int)).toNat < 1000000000000
      omega

set_option maxHeartbeats 4000000 in
set_option maxRecDepth 100000 in
theorem ok_seen (q : dS) (p1 : Int32) (p2 : Int32) (hT : TS q) : dOk (zX10_seen q p1 p2) (fun (o : Int32 × dS) => (TS o.2) ∧ (dFr [1, 2] [0] q o.2) ∧ ((0 ≤ Int32.toInt p1 ∧ Int32.toInt p1 ≤ 5 ∧ 0 ≤ Int32.toInt p2 ∧ Int32.toInt p2 ≤ 5 ∧ Int32.toInt (q.1 2 30) < 6 ∧ Int32.toInt (o.2.1 2 30) = Int32.toInt (q.1 2 30) + 1 ∧ Int32.toInt o.1 = Int32.toInt (q.1 2 30) + 1) ∨ (0 ≤ Int32.toInt p1 ∧ Int32.toInt p1 ≤ 5 ∧ 0 ≤ Int32.toInt p2 ∧ Int32.toInt p2 ≤ 5 ∧ Int32.toInt (q.1 2 30) = 6 ∧ Int32.toInt (o.2.1 2 30) = Int32.toInt (q.1 2 30) ∧ Int32.toInt o.1 = -5) ∨ ((Int32.toInt p1 < 0 ∨ 5 < Int32.toInt p1 ∨ Int32.toInt p2 < 0 ∨ 5 < Int32.toInt p2) ∧ Int32.toInt (o.2.1 2 30) = Int32.toInt (q.1 2 30) ∧ Int32.toInt o.1 = -1)) ∧ (Int32.toInt (o.2.1 2 26) = Int32.toInt (q.1 2 26))) := by
  unfold zX10_seen
  refine dOk_V (ok_isRank p1) (fun r_1 h_2 => ?_)
  replace h_2 : ((Int32.toInt r_1 = 1 ∧ 0 ≤ Int32.toInt p1 ∧ Int32.toInt p1 ≤ 5) ∨ (Int32.toInt r_1 = 0 ∧ (Int32.toInt p1 < 0 ∨ 5 < Int32.toInt p1))) := h_2
  have i_3 := h_2
  refine dOk_eq (A := Int32.toInt r_1) (B := 0) rfl (by decide) (fun c_4z c_4 => ?_) (fun c_5z c_5 => ?_)
  · unfold zX10_seen_14
    refine dOk_B (ok_refuses q (-1) hT (show (-6) ≤ (-1 : Int) by omega) (show (-1 : Int) ≤ 0 by omega)) (fun r_7 q_8 h_9 => ?_)
    replace h_9 : (TS q_8) ∧ (dFr [1] [0] q q_8) ∧ (Int32.toInt r_7 = (-1 : Int)) := h_9
    obtain ⟨i_10, i_11, i_12⟩ := h_9
    have hFq_8 : dFr [1, 2] [0] q q_8 := (dFr.rf (q := q)).t i_11 (by decide) (by decide)
    have f_13 : 0 ≤ Int32.toInt (q.1 2 30) ∧ Int32.toInt (q.1 2 30) ≤ 6 := hT.1 2 30
    have f_14 : 0 ≤ Int32.toInt (q_8.1 2 30) ∧ Int32.toInt (q_8.1 2 30) ≤ 6 := i_10.1 2 30
    have w_15 : Int32.toInt (q_8.1 2 30) = Int32.toInt (q.1 2 30) := by rw [i_11.1 2 (by decide) (by decide)]
    have f_16 : 0 ≤ Int32.toInt (q_8.1 2 26) ∧ Int32.toInt (q_8.1 2 26) ≤ 10 := i_10.1 2 26
    have f_17 : 0 ≤ Int32.toInt (q.1 2 26) ∧ Int32.toInt (q.1 2 26) ≤ 10 := hT.1 2 26
    have w_18 : Int32.toInt (q_8.1 2 26) = Int32.toInt (q.1 2 26) := by rw [i_11.1 2 (by decide) (by decide)]
    exact dOk_some (show (TS q_8) ∧ (dFr [1, 2] [0] q q_8) ∧ ((0 ≤ Int32.toInt p1 ∧ Int32.toInt p1 ≤ 5 ∧ 0 ≤ Int32.toInt p2 ∧ Int32.toInt p2 ≤ 5 ∧ Int32.toInt (q.1 2 30) < 6 ∧ Int32.toInt (q_8.1 2 30) = Int32.toInt (q.1 2 30) + 1 ∧ Int32.toInt r_7 = Int32.toInt (q.1 2 30) + 1) ∨ (0 ≤ Int32.toInt p1 ∧ Int32.toInt p1 ≤ 5 ∧ 0 ≤ Int32.toInt p2 ∧ Int32.toInt p2 ≤ 5 ∧ Int32.toInt (q.1 2 30) = 6 ∧ Int32.toInt (q_8.1 2 30) = Int32.toInt (q.1 2 30) ∧ Int32.toInt r_7 = -5) ∨ ((Int32.toInt p1 < 0 ∨ 5 < Int32.toInt p1 ∨ Int32.toInt p2 < 0 ∨ 5 < Int32.toInt p2) ∧ Int32.toInt (q_8.1 2 30) = Int32.toInt (q.1 2 30) ∧ Int32.toInt r_7 = -1)) ∧ (Int32.toInt (q_8.1 2 26) = Int32.toInt (q.1 2 26)) from ⟨i_10, hFq_8, by omega, by omega⟩)
  · refine dOk_V (ok_isRank p2) (fun r_19 h_20 => ?_)
    replace h_20 : ((Int32.toInt r_19 = 1 ∧ 0 ≤ Int32.toInt p2 ∧ Int32.toInt p2 ≤ 5) ∨ (Int32.toInt r_19 = 0 ∧ (Int32.toInt p2 < 0 ∨ 5 < Int32.toInt p2))) := h_20
    have i_21 := h_20
    refine dOk_eq (A := Int32.toInt r_19) (B := 0) rfl (by decide) (fun c_22z c_22 => ?_) (fun c_23z c_23 => ?_)
    · unfold zX10_seen_14
      refine dOk_B (ok_refuses q (-1) hT (show (-6) ≤ (-1 : Int) by omega) (show (-1 : Int) ≤ 0 by omega)) (fun r_25 q_26 h_27 => ?_)
      replace h_27 : (TS q_26) ∧ (dFr [1] [0] q q_26) ∧ (Int32.toInt r_25 = (-1 : Int)) := h_27
      obtain ⟨i_28, i_29, i_30⟩ := h_27
      have hFq_26 : dFr [1, 2] [0] q q_26 := (dFr.rf (q := q)).t i_29 (by decide) (by decide)
      have f_31 : 0 ≤ Int32.toInt (q.1 2 30) ∧ Int32.toInt (q.1 2 30) ≤ 6 := hT.1 2 30
      have f_32 : 0 ≤ Int32.toInt (q_26.1 2 30) ∧ Int32.toInt (q_26.1 2 30) ≤ 6 := i_28.1 2 30
      have w_33 : Int32.toInt (q_26.1 2 30) = Int32.toInt (q.1 2 30) := by rw [i_29.1 2 (by decide) (by decide)]
      have f_34 : 0 ≤ Int32.toInt (q_26.1 2 26) ∧ Int32.toInt (q_26.1 2 26) ≤ 10 := i_28.1 2 26
      have f_35 : 0 ≤ Int32.toInt (q.1 2 26) ∧ Int32.toInt (q.1 2 26) ≤ 10 := hT.1 2 26
      have w_36 : Int32.toInt (q_26.1 2 26) = Int32.toInt (q.1 2 26) := by rw [i_29.1 2 (by decide) (by decide)]
      exact dOk_some (show (TS q_26) ∧ (dFr [1, 2] [0] q q_26) ∧ ((0 ≤ Int32.toInt p1 ∧ Int32.toInt p1 ≤ 5 ∧ 0 ≤ Int32.toInt p2 ∧ Int32.toInt p2 ≤ 5 ∧ Int32.toInt (q.1 2 30) < 6 ∧ Int32.toInt (q_26.1 2 30) = Int32.toInt (q.1 2 30) + 1 ∧ Int32.toInt r_25 = Int32.toInt (q.1 2 30) + 1) ∨ (0 ≤ Int32.toInt p1 ∧ Int32.toInt p1 ≤ 5 ∧ 0 ≤ Int32.toInt p2 ∧ Int32.toInt p2 ≤ 5 ∧ Int32.toInt (q.1 2 30) = 6 ∧ Int32.toInt (q_26.1 2 30) = Int32.toInt (q.1 2 30) ∧ Int32.toInt r_25 = -5) ∨ ((Int32.toInt p1 < 0 ∨ 5 < Int32.toInt p1 ∨ Int32.toInt p2 < 0 ∨ 5 < Int32.toInt p2) ∧ Int32.toInt (q_26.1 2 30) = Int32.toInt (q.1 2 30) ∧ Int32.toInt r_25 = -1)) ∧ (Int32.toInt (q_26.1 2 26) = Int32.toInt (q.1 2 26)) from ⟨i_28, hFq_26, by omega, by omega⟩)
    · have f_37 : 0 ≤ Int32.toInt (q.1 2 30) ∧ Int32.toInt (q.1 2 30) ≤ 6 := hT.1 2 30
      refine dOk_eq (A := Int32.toInt (q.1 2 30)) (B := 6) rfl (by decide) (fun c_38z c_38 => ?_) (fun c_39z c_39 => ?_)
      · refine dOk_B (ok_refuses q (-5) hT (show (-6) ≤ (-5 : Int) by omega) (show (-5 : Int) ≤ 0 by omega)) (fun r_41 q_42 h_43 => ?_)
        replace h_43 : (TS q_42) ∧ (dFr [1] [0] q q_42) ∧ (Int32.toInt r_41 = (-5 : Int)) := h_43
        obtain ⟨i_44, i_45, i_46⟩ := h_43
        have hFq_42 : dFr [1, 2] [0] q q_42 := (dFr.rf (q := q)).t i_45 (by decide) (by decide)
        have f_47 : 0 ≤ Int32.toInt (q_42.1 2 30) ∧ Int32.toInt (q_42.1 2 30) ≤ 6 := i_44.1 2 30
        have w_48 : Int32.toInt (q_42.1 2 30) = Int32.toInt (q.1 2 30) := by rw [i_45.1 2 (by decide) (by decide)]
        have f_49 : 0 ≤ Int32.toInt (q_42.1 2 26) ∧ Int32.toInt (q_42.1 2 26) ≤ 10 := i_44.1 2 26
        have f_50 : 0 ≤ Int32.toInt (q.1 2 26) ∧ Int32.toInt (q.1 2 26) ≤ 10 := hT.1 2 26
        have w_51 : Int32.toInt (q_42.1 2 26) = Int32.toInt (q.1 2 26) := by rw [i_45.1 2 (by decide) (by decide)]
        exact dOk_some (show (TS q_42) ∧ (dFr [1, 2] [0] q q_42) ∧ ((0 ≤ Int32.toInt p1 ∧ Int32.toInt p1 ≤ 5 ∧ 0 ≤ Int32.toInt p2 ∧ Int32.toInt p2 ≤ 5 ∧ Int32.toInt (q.1 2 30) < 6 ∧ Int32.toInt (q_42.1 2 30) = Int32.toInt (q.1 2 30) + 1 ∧ Int32.toInt r_41 = Int32.toInt (q.1 2 30) + 1) ∨ (0 ≤ Int32.toInt p1 ∧ Int32.toInt p1 ≤ 5 ∧ 0 ≤ Int32.toInt p2 ∧ Int32.toInt p2 ≤ 5 ∧ Int32.toInt (q.1 2 30) = 6 ∧ Int32.toInt (q_42.1 2 30) = Int32.toInt (q.1 2 30) ∧ Int32.toInt r_41 = -5) ∨ ((Int32.toInt p1 < 0 ∨ 5 < Int32.toInt p1 ∨ Int32.toInt p2 < 0 ∨ 5 < Int32.toInt p2) ∧ Int32.toInt (q_42.1 2 30) = Int32.toInt (q.1 2 30) ∧ Int32.toInt r_41 = -1)) ∧ (Int32.toInt (q_42.1 2 26) = Int32.toInt (q.1 2 26)) from ⟨i_44, hFq_42, by omega, by omega⟩)
      · try have t_52 : Int32.toInt (2 * q.1 2 30) = 2 * Int32.toInt (q.1 2 30) := ti_mul (by decide) rfl (by omega) (by omega)
        try have t_53 : Int32.toInt (14 + 2 * q.1 2 30) = 14 + Int32.toInt (2 * q.1 2 30) := ti_add (by decide) rfl (by omega) (by omega)
        refine dOk_G (dg_ok (show 0 ≤ Int32.toInt (14 + 2 * q.1 2 30) by omega) (show Int32.toInt (14 + 2 * q.1 2 30) < ((5640 : Nat) : Int) by omega)) ?_
        have n_54 : ((Int32.toNatClampNeg (14 + 2 * q.1 2 30) : Nat) : Int) = Int32.toInt (14 + 2 * q.1 2 30) := cl_eq (by omega)
        refine dOk_L (fun q_55 eq_55 => ?_)
        have hTq_55 : TS q_55 := by rw [eq_55]; exact ts_set2 hT (by omega) (show klo (Int32.toNatClampNeg (14 + 2 * q.1 2 30)) ≤ Int32.toInt p1 by unfold klo; omega) (show Int32.toInt p1 ≤ khi (Int32.toNatClampNeg (14 + 2 * q.1 2 30)) by unfold khi; omega)
        have hFq_55 : dFr [1, 2] [0] q q_55 := by rw [eq_55]; exact (dFr.rf (q := q)).i (by decide) (by decide)
        try have t_56 : Int32.toInt (14 + 2 * q.1 2 30 + 1) = Int32.toInt (14 + 2 * q.1 2 30) + 1 := ti_add rfl (by decide) (by omega) (by omega)
        refine dOk_G (dg_ok (show 0 ≤ Int32.toInt (14 + 2 * q.1 2 30 + 1) by omega) (show Int32.toInt (14 + 2 * q.1 2 30 + 1) < ((5640 : Nat) : Int) by omega)) ?_
        have n_57 : ((Int32.toNatClampNeg (14 + 2 * q.1 2 30 + 1) : Nat) : Int) = Int32.toInt (14 + 2 * q.1 2 30 + 1) := cl_eq (by omega)
        refine dOk_L (fun q_58 eq_58 => ?_)
        have hTq_58 : TS q_58 := by rw [eq_58]; exact ts_set2 hTq_55 (by omega) (show klo (Int32.toNatClampNeg (14 + 2 * q.1 2 30 + 1)) ≤ Int32.toInt p2 by unfold klo; omega) (show Int32.toInt p2 ≤ khi (Int32.toNatClampNeg (14 + 2 * q.1 2 30 + 1)) by unfold khi; omega)
        have hFq_58 : dFr [1, 2] [0] q q_58 := by rw [eq_58]; exact hFq_55.i (by decide) (by decide)
        refine dOk_L (fun q_59 eq_59 => ?_)
        have f_60 : 0 ≤ Int32.toInt (q_58.1 2 30) ∧ Int32.toInt (q_58.1 2 30) ≤ 6 := hTq_58.1 2 30
        have f_61 : 0 ≤ Int32.toInt (q_55.1 2 30) ∧ Int32.toInt (q_55.1 2 30) ≤ 6 := hTq_55.1 2 30
        try have w_62 : Int32.toInt (q_55.1 2 30) = Int32.toInt (q.1 2 30) := by rw [eq_55, dui_n (by omega)]
        try have w_63 : Int32.toInt (q_58.1 2 30) = Int32.toInt (q_55.1 2 30) := by rw [eq_58, dui_n (by omega)]
        try have t_64 : Int32.toInt (q_58.1 2 30 + 1) = Int32.toInt (q_58.1 2 30) + 1 := ti_add rfl (by decide) (by omega) (by omega)
        have hTq_59 : TS q_59 := by rw [eq_59]; exact ts_set2 hTq_58 (by omega) (show klo (30) ≤ Int32.toInt (q_58.1 2 30 + 1) by unfold klo; omega) (show Int32.toInt (q_58.1 2 30 + 1) ≤ khi (30) by unfold khi; omega)
        have hFq_59 : dFr [1, 2] [0] q q_59 := by rw [eq_59]; exact hFq_58.i (by decide) (by decide)
        have f_65 : 0 ≤ Int32.toInt (q_59.1 2 30) ∧ Int32.toInt (q_59.1 2 30) ≤ 6 := hTq_59.1 2 30
        have w_66 : Int32.toInt (q_59.1 2 30) = Int32.toInt (q_58.1 2 30 + 1) := by rw [eq_59, dui_e]
        refine dOk_B (ok_good q_59 (q_59.1 2 30) hTq_59) (fun r_67 q_68 h_69 => ?_)
        replace h_69 : (TS q_68) ∧ (dFr [] [0] q_59 q_68) ∧ (Int32.toInt r_67 = Int32.toInt (q_59.1 2 30)) := h_69
        obtain ⟨i_70, i_71, i_72⟩ := h_69
        have hFq_68 : dFr [1, 2] [0] q q_68 := hFq_59.t i_71 (by decide) (by decide)
        have f_73 : 0 ≤ Int32.toInt (q_68.1 2 30) ∧ Int32.toInt (q_68.1 2 30) ≤ 6 := i_70.1 2 30
        have w_74 : Int32.toInt (q_68.1 2 30) = Int32.toInt (q_59.1 2 30) := by rw [i_71.1 2 (by decide) (by decide)]
        have f_75 : 0 ≤ Int32.toInt (q_68.1 2 26) ∧ Int32.toInt (q_68.1 2 26) ≤ 10 := i_70.1 2 26
        have f_76 : 0 ≤ Int32.toInt (q_59.1 2 26) ∧ Int32.toInt (q_59.1 2 26) ≤ 10 := hTq_59.1 2 26
        have f_77 : 0 ≤ Int32.toInt (q_58.1 2 26) ∧ Int32.toInt (q_58.1 2 26) ≤ 10 := hTq_58.1 2 26
        have f_78 : 0 ≤ Int32.toInt (q_55.1 2 26) ∧ Int32.toInt (q_55.1 2 26) ≤ 10 := hTq_55.1 2 26
        have f_79 : 0 ≤ Int32.toInt (q.1 2 26) ∧ Int32.toInt (q.1 2 26) ≤ 10 := hT.1 2 26
        try have w_80 : Int32.toInt (q_55.1 2 26) = Int32.toInt (q.1 2 26) := by rw [eq_55, dui_n (by omega)]
        try have w_81 : Int32.toInt (q_58.1 2 26) = Int32.toInt (q_55.1 2 26) := by rw [eq_58, dui_n (by omega)]
        have w_82 : Int32.toInt (q_59.1 2 26) = Int32.toInt (q_58.1 2 26) := by rw [eq_59, dui_n (by decide)]
        have w_83 : Int32.toInt (q_68.1 2 26) = Int32.toInt (q_59.1 2 26) := by rw [i_71.1 2 (by decide) (by decide)]
        exact dOk_some (show (TS q_68) ∧ (dFr [1, 2] [0] q q_68) ∧ ((0 ≤ Int32.toInt p1 ∧ Int32.toInt p1 ≤ 5 ∧ 0 ≤ Int32.toInt p2 ∧ Int32.toInt p2 ≤ 5 ∧ Int32.toInt (q.1 2 30) < 6 ∧ Int32.toInt (q_68.1 2 30) = Int32.toInt (q.1 2 30) + 1 ∧ Int32.toInt r_67 = Int32.toInt (q.1 2 30) + 1) ∨ (0 ≤ Int32.toInt p1 ∧ Int32.toInt p1 ≤ 5 ∧ 0 ≤ Int32.toInt p2 ∧ Int32.toInt p2 ≤ 5 ∧ Int32.toInt (q.1 2 30) = 6 ∧ Int32.toInt (q_68.1 2 30) = Int32.toInt (q.1 2 30) ∧ Int32.toInt r_67 = -5) ∨ ((Int32.toInt p1 < 0 ∨ 5 < Int32.toInt p1 ∨ Int32.toInt p2 < 0 ∨ 5 < Int32.toInt p2) ∧ Int32.toInt (q_68.1 2 30) = Int32.toInt (q.1 2 30) ∧ Int32.toInt r_67 = -1)) ∧ (Int32.toInt (q_68.1 2 26) = Int32.toInt (q.1 2 26)) from ⟨i_70, hFq_68, by omega, by omega⟩)

set_option maxHeartbeats 4000000 in
set_option maxRecDepth 100000 in
theorem ok_forget (q : dS) (hT : TS q) : dOk (zX10_forget q) (fun (o : Int32 × dS) => (TS o.2) ∧ (dFr [2] [] q o.2) ∧ (Int32.toInt o.1 = Int32.toInt (q.1 2 30)) ∧ (Int32.toInt (o.2.1 2 30) = 0) ∧ (Int32.toInt (o.2.1 2 26) = Int32.toInt (q.1 2 26))) := by
  unfold zX10_forget
  refine dOk_L (fun q_1 eq_1 => ?_)
  have hTq_1 : TS q_1 := by rw [eq_1]; exact ts_set2 hT (by omega) (show klo (30) ≤ (0 : Int) by unfold klo; omega) (show (0 : Int) ≤ khi (30) by unfold khi; omega)
  have hFq_1 : dFr [2] [] q q_1 := by rw [eq_1]; exact (dFr.rf (q := q)).i (by decide) (by decide)
  have f_2 : 0 ≤ Int32.toInt (q.1 2 30) ∧ Int32.toInt (q.1 2 30) ≤ 6 := hT.1 2 30
  have f_3 : 0 ≤ Int32.toInt (q_1.1 2 30) ∧ Int32.toInt (q_1.1 2 30) ≤ 6 := hTq_1.1 2 30
  have w_4 : Int32.toInt (q_1.1 2 30) = (0 : Int) := by rw [eq_1, dui_e]; decide
  have f_5 : 0 ≤ Int32.toInt (q_1.1 2 26) ∧ Int32.toInt (q_1.1 2 26) ≤ 10 := hTq_1.1 2 26
  have f_6 : 0 ≤ Int32.toInt (q.1 2 26) ∧ Int32.toInt (q.1 2 26) ≤ 10 := hT.1 2 26
  have w_7 : Int32.toInt (q_1.1 2 26) = Int32.toInt (q.1 2 26) := by rw [eq_1, dui_n (by decide)]
  exact dOk_some (show (TS q_1) ∧ (dFr [2] [] q q_1) ∧ (Int32.toInt (q.1 2 30) = Int32.toInt (q.1 2 30)) ∧ (Int32.toInt (q_1.1 2 30) = 0) ∧ (Int32.toInt (q_1.1 2 26) = Int32.toInt (q.1 2 26)) from ⟨hTq_1, hFq_1, by omega, by omega, by omega⟩)

set_option maxHeartbeats 4000000 in
set_option maxRecDepth 100000 in
theorem ok_rankBehind (q : dS) (p1 : Int32) (p2 : Int32) (hT : TS q) (hp0 : 1 ≤ Int32.toInt p1 ∧ Int32.toInt p1 ≤ Int32.toInt (q.1 2 29)) : dOk (zX10_rankBehind q p1 p2) (fun (o : Int32 × dS) => (o.2 = q) ∧ ((0 ≤ Int32.toInt p2 ∧ Int32.toInt p2 < Int32.toInt (q.1 2 29) ∧ 0 ≤ Int32.toInt o.1 ∧ Int32.toInt o.1 ≤ 5) ∨ ((Int32.toInt p2 < 0 ∨ Int32.toInt (q.1 2 29) ≤ Int32.toInt p2) ∧ Int32.toInt o.1 = -1))) := by
  unfold zX10_rankBehind
  refine dOk_B (ok_isPlace q p2 hT) (fun r_1 q_2 h_3 => ?_)
  replace h_3 : (q_2 = q) ∧ ((Int32.toInt r_1 = 1 ∧ 0 ≤ Int32.toInt p2 ∧ Int32.toInt p2 < Int32.toInt (q.1 2 29)) ∨ (Int32.toInt r_1 = 0 ∧ (Int32.toInt p2 < 0 ∨ Int32.toInt (q.1 2 29) ≤ Int32.toInt p2))) := h_3
  obtain ⟨i_4, i_5⟩ := h_3
  subst q_2
  have f_6 : 0 ≤ Int32.toInt (q.1 2 29) ∧ Int32.toInt (q.1 2 29) ≤ 6 := hT.1 2 29
  refine dOk_eq (A := Int32.toInt r_1) (B := 0) rfl (by decide) (fun c_7z c_7 => ?_) (fun c_8z c_8 => ?_)
  · unfold zX10_rankBehind_33
    exact dOk_some (show (q = q) ∧ ((0 ≤ Int32.toInt p2 ∧ Int32.toInt p2 < Int32.toInt (q.1 2 29) ∧ 0 ≤ (-1 : Int) ∧ (-1 : Int) ≤ 5) ∨ ((Int32.toInt p2 < 0 ∨ Int32.toInt (q.1 2 29) ≤ Int32.toInt p2) ∧ (-1 : Int) = -1)) from ⟨rfl, by omega⟩)
  · refine dOk_le (A := Int32.toInt p1) (B := Int32.toInt p2) rfl rfl (fun c_10 => ?_) (fun c_11 => ?_)
    · unfold zX10_rankBehind_31
      try have t_12 : Int32.toInt (0 + p2) = 0 + Int32.toInt p2 := ti_add (by decide) rfl (by omega) (by omega)
      refine dOk_G (dg_ok (show 0 ≤ Int32.toInt (0 + p2) by omega) (show Int32.toInt (0 + p2) < ((5640 : Nat) : Int) by omega)) ?_
      have n_13 : ((Int32.toNatClampNeg (0 + p2) : Nat) : Int) = Int32.toInt (0 + p2) := cl_eq (by omega)
      refine dOk_L (fun v_14 ev_14 => ?_)
      try have g_15 : klo (Int32.toNatClampNeg (0 + p2)) ≤ Int32.toInt v_14 ∧ Int32.toInt v_14 ≤ khi (Int32.toNatClampNeg (0 + p2)) := by rw [ev_14]; exact te_k hT _
      try have f_16 : 0 ≤ Int32.toInt v_14 ∧ Int32.toInt v_14 ≤ 5 := by rw [ev_14]; exact te_2r hT (by omega) (by omega)
      try have f_17 : 0 ≤ Int32.toInt v_14 ∧ Int32.toInt v_14 ≤ 1 := by rw [ev_14]; exact te_2h hT (by omega) (by omega)
      try have f_18 : 0 ≤ Int32.toInt v_14 ∧ Int32.toInt v_14 ≤ 5 := by rw [ev_14]; exact te_2s hT (by omega) (by omega)
      try have f_19 : 0 ≤ Int32.toInt v_14 ∧ Int32.toInt v_14 ≤ 400 := by rw [ev_14]; exact te_2z hT (by omega) (by omega)
      unfold zX10_rankBehind_33
      exact dOk_some (show (q = q) ∧ ((0 ≤ Int32.toInt p2 ∧ Int32.toInt p2 < Int32.toInt (q.1 2 29) ∧ 0 ≤ Int32.toInt v_14 ∧ Int32.toInt v_14 ≤ 5) ∨ ((Int32.toInt p2 < 0 ∨ Int32.toInt (q.1 2 29) ≤ Int32.toInt p2) ∧ Int32.toInt v_14 = -1)) from ⟨rfl, by omega⟩)
    · unfold zX10_rankBehind_31
      try have t_20 : Int32.toInt (p1 - 1) = Int32.toInt p1 - 1 := ti_sub rfl (by decide) (by omega) (by omega)
      try have t_21 : Int32.toInt (p1 - 1 - p2) = Int32.toInt (p1 - 1) - Int32.toInt p2 := ti_sub rfl rfl (by omega) (by omega)
      try have t_22 : Int32.toInt (0 + (p1 - 1 - p2)) = 0 + Int32.toInt (p1 - 1 - p2) := ti_add (by decide) rfl (by omega) (by omega)
      refine dOk_G (dg_ok (show 0 ≤ Int32.toInt (0 + (p1 - 1 - p2)) by omega) (show Int32.toInt (0 + (p1 - 1 - p2)) < ((5640 : Nat) : Int) by omega)) ?_
      have n_23 : ((Int32.toNatClampNeg (0 + (p1 - 1 - p2)) : Nat) : Int) = Int32.toInt (0 + (p1 - 1 - p2)) := cl_eq (by omega)
      refine dOk_L (fun v_24 ev_24 => ?_)
      try have g_25 : klo (Int32.toNatClampNeg (0 + (p1 - 1 - p2))) ≤ Int32.toInt v_24 ∧ Int32.toInt v_24 ≤ khi (Int32.toNatClampNeg (0 + (p1 - 1 - p2))) := by rw [ev_24]; exact te_k hT _
      try have f_26 : 0 ≤ Int32.toInt v_24 ∧ Int32.toInt v_24 ≤ 5 := by rw [ev_24]; exact te_2r hT (by omega) (by omega)
      try have f_27 : 0 ≤ Int32.toInt v_24 ∧ Int32.toInt v_24 ≤ 1 := by rw [ev_24]; exact te_2h hT (by omega) (by omega)
      try have f_28 : 0 ≤ Int32.toInt v_24 ∧ Int32.toInt v_24 ≤ 5 := by rw [ev_24]; exact te_2s hT (by omega) (by omega)
      try have f_29 : 0 ≤ Int32.toInt v_24 ∧ Int32.toInt v_24 ≤ 400 := by rw [ev_24]; exact te_2z hT (by omega) (by omega)
      unfold zX10_rankBehind_33
      exact dOk_some (show (q = q) ∧ ((0 ≤ Int32.toInt p2 ∧ Int32.toInt p2 < Int32.toInt (q.1 2 29) ∧ 0 ≤ Int32.toInt v_24 ∧ Int32.toInt v_24 ≤ 5) ∨ ((Int32.toInt p2 < 0 ∨ Int32.toInt (q.1 2 29) ≤ Int32.toInt p2) ∧ Int32.toInt v_24 = -1)) from ⟨rfl, by omega⟩)
