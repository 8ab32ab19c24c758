set_option maxHeartbeats 4000000 in
set_option maxRecDepth 100000 in
theorem ok_numberOf (q : dS) (hT : TS q) : dOk (zX10_numberOf q) (fun (o : Int32 × dS) => (o.2 = q) ∧ (NB (Int32.toInt (q.1 2 29)) (Int32.toInt (q.1 2 29)) (Int32.toInt o.1)) ∧ (0 ≤ Int32.toInt o.1 ∧ Int32.toInt o.1 ≤ 719)) := by
  unfold zX10_numberOf
  unfold zX10_numberOf_4
  refine dFix_ok (fun (a : dS × Int32 × Int32) => (a.1 = q) ∧ (0 ≤ Int32.toInt a.2.2) ∧ (Int32.toInt a.2.2 ≤ 6) ∧ (NB (Int32.toInt (q.1 2 29)) (Int32.toInt a.2.2) (Int32.toInt a.2.1))) (fun (a : dS × Int32 × Int32) => (6 - Int32.toInt a.2.2).toNat) ?_ _ ?_ _ (dF_gt ?_)
  · intro a ha k_2 hk_1
    obtain ⟨q_3, x1_4, x2_5⟩ := a
    replace ha : (q_3 = q) ∧ (0 ≤ Int32.toInt x2_5) ∧ (Int32.toInt x2_5 ≤ 6) ∧ (NB (Int32.toInt (q.1 2 29)) (Int32.toInt x2_5) (Int32.toInt x1_4)) := ha
    obtain ⟨a_6, a_7, a_8, a_9⟩ := ha
    show dOk (zX10_numberOf_4b  (fun q x1 x2 => k_2 (q, x1, x2)) q_3 x1_4 x2_5) _
    unfold zX10_numberOf_4b
    subst q_3
    have f_10 : 0 ≤ Int32.toInt (q.1 2 29) ∧ Int32.toInt (q.1 2 29) ≤ 6 := hT.1 2 29
    have zr := NB_r ‹NB _ _ (Int32.toInt x1_4)›
    refine dOk_B (ok_size q hT) (fun r_11 q_12 h_13 => ?_)
    replace h_13 : (q_12 = q) ∧ (Int32.toInt r_11 = Int32.toInt (q.1 2 29)) ∧ (0 ≤ Int32.toInt r_11 ∧ Int32.toInt r_11 ≤ 6) := h_13
    obtain ⟨i_14, i_15, i_16⟩ := h_13
    subst q_12
    try have z8 : Int32.toInt (r_11 - x2_5) = Int32.toInt r_11 - Int32.toInt x2_5 := ti_sub rfl rfl (by omega) (by omega)
    try have z9 := NB_m ‹NB _ _ (Int32.toInt x1_4)› (Int32.toInt (r_11 - x2_5)) (by omega) (by omega)
    refine dOk_le (A := Int32.toInt r_11) (B := Int32.toInt x2_5) rfl rfl (fun c_17 => ?_) (fun c_18 => ?_)
    · exact dOk_some (show (q = q) ∧ (NB (Int32.toInt (q.1 2 29)) (Int32.toInt (q.1 2 29)) (Int32.toInt x1_4)) ∧ (0 ≤ Int32.toInt x1_4 ∧ Int32.toInt x1_4 ≤ 719) from ⟨rfl, by exact NB_e ‹NB _ _ _› (by omega), by omega⟩)
    · unfold zX10_numberOf_19
      refine dFix_ok (fun (a : dS × Int32 × Int32 × Int32 × Int32) => (a.1 = q) ∧ (a.2.1 = x1_4) ∧ (a.2.2.1 = x2_5) ∧ (Int32.toInt a.2.2.1 + 1 ≤ Int32.toInt a.2.2.2.2) ∧ (Int32.toInt a.2.2.2.2 ≤ Int32.toInt (q.1 2 29)) ∧ (0 ≤ Int32.toInt a.2.2.2.1) ∧ (Int32.toInt a.2.2.2.1 ≤ Int32.toInt a.2.2.2.2 - Int32.toInt a.2.2.1 - 1)) (fun (a : dS × Int32 × Int32 × Int32 × Int32) => (6 - Int32.toInt a.2.2.2.2).toNat) ?_ _ ?_ _ (dF_gt ?_)
      · intro a ha k_20 hk_19
        obtain ⟨q_21, x1_22, x2_23, x3_24, x4_25⟩ := a
        replace ha : (q_21 = q) ∧ (x1_22 = x1_4) ∧ (x2_23 = x2_5) ∧ (Int32.toInt x2_23 + 1 ≤ Int32.toInt x4_25) ∧ (Int32.toInt x4_25 ≤ Int32.toInt (q.1 2 29)) ∧ (0 ≤ Int32.toInt x3_24) ∧ (Int32.toInt x3_24 ≤ Int32.toInt x4_25 - Int32.toInt x2_23 - 1) := ha
        obtain ⟨a_26, a_27, a_28, a_29, a_30, a_31, a_32⟩ := ha
        show dOk (zX10_numberOf_19b _ (fun q x1 x2 x3 x4 => k_20 (q, x1, x2, x3, x4)) q_21 x1_22 x2_23 x3_24 x4_25) _
        unfold zX10_numberOf_19b
        subst q_21
        subst x1_22
        subst x2_23
        refine dOk_B (ok_size q hT) (fun r_33 q_34 h_35 => ?_)
        replace h_35 : (q_34 = q) ∧ (Int32.toInt r_33 = Int32.toInt (q.1 2 29)) ∧ (0 ≤ Int32.toInt r_33 ∧ Int32.toInt r_33 ≤ 6) := h_35
        obtain ⟨i_36, i_37, i_38⟩ := h_35
        subst q_34
        try have z8 : Int32.toInt (r_33 - x2_5) = Int32.toInt r_33 - Int32.toInt x2_5 := ti_sub rfl rfl (by omega) (by omega)
        try have z9 := NB_m ‹NB _ _ (Int32.toInt x1_4)› (Int32.toInt (r_33 - x2_5)) (by omega) (by omega)
        refine dOk_le (A := Int32.toInt r_33) (B := Int32.toInt x4_25) rfl rfl (fun c_39 => ?_) (fun c_40 => ?_)
        · refine dOk_B (ok_size q hT) (fun r_41 q_42 h_43 => ?_)
          replace h_43 : (q_42 = q) ∧ (Int32.toInt r_41 = Int32.toInt (q.1 2 29)) ∧ (0 ≤ Int32.toInt r_41 ∧ Int32.toInt r_41 ≤ 6) := h_43
          obtain ⟨i_44, i_45, i_46⟩ := h_43
          subst q_42
          try have z8 : Int32.toInt (r_41 - x2_5) = Int32.toInt r_41 - Int32.toInt x2_5 := ti_sub rfl rfl (by omega) (by omega)
          try have z9 := NB_m ‹NB _ _ (Int32.toInt x1_4)› (Int32.toInt (r_41 - x2_5)) (by omega) (by omega)
          try have t_47 : Int32.toInt (r_41 - x2_5) = Int32.toInt r_41 - Int32.toInt x2_5 := ti_sub rfl rfl (by omega) (by omega)
          try have t_48 : Int32.toInt (x1_4 * (r_41 - x2_5)) = Int32.toInt x1_4 * Int32.toInt (r_41 - x2_5) := ti_mul rfl rfl (by omega) (by omega)
          try have t_49 : Int32.toInt (x1_4 * (r_41 - x2_5) + x3_24) = Int32.toInt (x1_4 * (r_41 - x2_5)) + Int32.toInt x3_24 := ti_add rfl rfl (by omega) (by omega)
          try have t_50 : Int32.toInt (x2_5 + 1) = Int32.toInt x2_5 + 1 := ti_add rfl (by decide) (by omega) (by omega)
          exact hk_1 (q, (x1_4 * (r_41 - x2_5) + x3_24), (x2_5 + 1)) (show (q = q) ∧ (0 ≤ Int32.toInt (x2_5 + 1)) ∧ (Int32.toInt (x2_5 + 1) ≤ 6) ∧ (NB (Int32.toInt (q.1 2 29)) (Int32.toInt (x2_5 + 1)) (Int32.toInt (x1_4 * (r_41 - x2_5) + x3_24))) from ⟨rfl, by omega, by omega, by exact NB_s2 (Int32.toInt x3_24) (Int32.toInt (r_41 - x2_5)) ‹NB _ _ _› (by omega) (by omega) (by omega) (by omega) (by omega) (by omega)⟩) (show (6 - Int32.toInt (x2_5 + 1)).toNat < (6 - Int32.toInt x2_5).toNat by omega)
        · refine dOk_G (dg_ok (show 0 ≤ Int32.toInt x4_25 by omega) (show Int32.toInt x4_25 < ((6 : Nat) : Int) by omega)) ?_
          have n_51 : ((Int32.toNatClampNeg x4_25 : Nat) : Int) = Int32.toInt x4_25 := cl_eq (by omega)
          refine dOk_L (fun v_52 ev_52 => ?_)
          refine dOk_G (dg_ok (show 0 ≤ Int32.toInt x2_5 by omega) (show Int32.toInt x2_5 < ((6 : Nat) : Int) by omega)) ?_
          have n_53 : ((Int32.toNatClampNeg x2_5 : Nat) : Int) = Int32.toInt x2_5 := cl_eq (by omega)
          refine dOk_L (fun v_54 ev_54 => ?_)
          refine dOk_le (A := Int32.toInt v_54) (B := Int32.toInt v_52) rfl rfl (fun c_55 => ?_) (fun c_56 => ?_)
          · unfold zX10_numberOf_50
            try have t_57 : Int32.toInt (x3_24 + 0) = Int32.toInt x3_24 + 0 := ti_add rfl (by decide) (by omega) (by omega)
            try have t_58 : Int32.toInt (x4_25 + 1) = Int32.toInt x4_25 + 1 := ti_add rfl (by decide) (by omega) (by omega)
            exact hk_19 (q, x1_4, x2_5, (x3_24 + 0), (x4_25 + 1)) (show (q = q) ∧ (x1_4 = x1_4) ∧ (x2_5 = x2_5) ∧ (Int32.toInt x2_5 + 1 ≤ Int32.toInt (x4_25 + 1)) ∧ (Int32.toInt (x4_25 + 1) ≤ Int32.toInt (q.1 2 29)) ∧ (0 ≤ Int32.toInt (x3_24 + 0)) ∧ (Int32.toInt (x3_24 + 0) ≤ Int32.toInt (x4_25 + 1) - Int32.toInt x2_5 - 1) from ⟨rfl, rfl, rfl, by omega, by omega, by omega, by omega⟩) (show (6 - Int32.toInt (x4_25 + 1)).toNat < (6 - Int32.toInt x4_25).toNat by omega)
          · unfold zX10_numberOf_50
            try have t_59 : Int32.toInt (x3_24 + 1) = Int32.toInt x3_24 + 1 := ti_add rfl (by decide) (by omega) (by omega)
            try have t_60 : Int32.toInt (x4_25 + 1) = Int32.toInt x4_25 + 1 := ti_add rfl (by decide) (by omega) (by omega)
            exact hk_19 (q, x1_4, x2_5, (x3_24 + 1), (x4_25 + 1)) (show (q = q) ∧ (x1_4 = x1_4) ∧ (x2_5 = x2_5) ∧ (Int32.toInt x2_5 + 1 ≤ Int32.toInt (x4_25 + 1)) ∧ (Int32.toInt (x4_25 + 1) ≤ Int32.toInt (q.1 2 29)) ∧ (0 ≤ Int32.toInt (x3_24 + 1)) ∧ (Int32.toInt (x3_24 + 1) ≤ Int32.toInt (x4_25 + 1) - Int32.toInt x2_5 - 1) from ⟨rfl, rfl, rfl, by omega, by omega, by omega, by omega⟩) (show (6 - Int32.toInt (x4_25 + 1)).toNat < (6 - Int32.toInt x4_25).toNat by omega)
      · try have t_61 : Int32.toInt (x2_5 + 1) = Int32.toInt x2_5 + 1 := ti_add rfl (by decide) (by omega) (by omega)
        exact (show (q = q) ∧ (x1_4 = x1_4) ∧ (x2_5 = x2_5) ∧ (Int32.toInt x2_5 + 1 ≤ Int32.toInt (x2_5 + 1)) ∧ (Int32.toInt (x2_5 + 1) ≤ Int32.toInt (q.1 2 29)) ∧ (0 ≤ (0 : Int)) ∧ ((0 : Int) ≤ Int32.toInt (x2_5 + 1) - Int32.toInt x2_5 - 1) from ⟨rfl, rfl, rfl, by omega, by omega, by omega, by omega⟩)
      · try have t_62 : Int32.toInt (x2_5 + 1) = Int32.toInt x2_5 + 1 := ti_add rfl (by decide) (by omega) (by omega)
        show (6 - Int32.toInt (x2_5 + 1)).toNat < 1000000000000
        omega
  · have f_63 : 0 ≤ Int32.toInt (q.1 2 29) ∧ Int32.toInt (q.1 2 29) ≤ 6 := hT.1 2 29
    exact (show (q = q) ∧ (0 ≤ (0 : Int)) ∧ ((0 : Int) ≤ 6) ∧ (NB (Int32.toInt (q.1 2 29)) ((0 : Int)) ((0 : Int))) from ⟨rfl, by omega, by omega, by exact NB_0 (by omega) (by omega)⟩)
  · show (6 - (0 : Int)).toNat < 1000000000000
    omega

set_option maxHeartbeats 4000000 in
set_option maxRecDepth 100000 in
theorem ok_rankOf (q : dS) (p1 : Int32) (hT : TS q) : dOk (zX10_rankOf q p1) (fun (o : Int32 × dS) => (o.2 = q)) := by
  unfold zX10_rankOf
  unfold zX10_rankOf_4
  refine dFix_ok (fun (a : dS × Int32 × Int32 × Int32) => (a.1 = q) ∧ (a.2.1 = p1) ∧ (0 ≤ Int32.toInt a.2.2.2) ∧ (Int32.toInt a.2.2.2 ≤ 6)) (fun (a : dS × Int32 × Int32 × Int32) => (6 - Int32.toInt a.2.2.2).toNat) ?_ _ ?_ _ (dF_gt ?_)
  · intro a ha k_2 hk_1
    obtain ⟨q_3, x1_4, x2_5, x3_6⟩ := a
    replace ha : (q_3 = q) ∧ (x1_4 = p1) ∧ (0 ≤ Int32.toInt x3_6) ∧ (Int32.toInt x3_6 ≤ 6) := ha
    obtain ⟨a_7, a_8, a_9, a_10⟩ := ha
    show dOk (zX10_rankOf_4b  (fun q x1 x2 x3 => k_2 (q, x1, x2, x3)) q_3 x1_4 x2_5 x3_6) _
    unfold zX10_rankOf_4b
    subst q_3
    subst x1_4
    refine dOk_B (ok_size q hT) (fun r_11 q_12 h_13 => ?_)
    replace h_13 : (q_12 = q) ∧ (Int32.toInt r_11 = Int32.toInt (q.1 2 29)) ∧ (0 ≤ Int32.toInt r_11 ∧ Int32.toInt r_11 ≤ 6) := h_13
    obtain ⟨i_14, i_15, i_16⟩ := h_13
    subst q_12
    have f_17 : 0 ≤ Int32.toInt (q.1 2 29) ∧ Int32.toInt (q.1 2 29) ≤ 6 := hT.1 2 29
    refine dOk_le (A := Int32.toInt r_11) (B := Int32.toInt x3_6) rfl rfl (fun c_18 => ?_) (fun c_19 => ?_)
    · exact dOk_some (show (q = q) from rfl)
    · try have t_20 : Int32.toInt (0 + x3_6) = 0 + Int32.toInt x3_6 := ti_add (by decide) rfl (by omega) (by omega)
      refine dOk_G (dg_ok (show 0 ≤ Int32.toInt (0 + x3_6) by omega) (show Int32.toInt (0 + x3_6) < ((5640 : Nat) : Int) by omega)) ?_
      have n_21 : ((Int32.toNatClampNeg (0 + x3_6) : Nat) : Int) = Int32.toInt (0 + x3_6) := cl_eq (by omega)
      refine dOk_L (fun v_22 ev_22 => ?_)
      try have g_23 : klo (Int32.toNatClampNeg (0 + x3_6)) ≤ Int32.toInt v_22 ∧ Int32.toInt v_22 ≤ khi (Int32.toNatClampNeg (0 + x3_6)) := by rw [ev_22]; exact te_k hT _
      try have f_24 : 0 ≤ Int32.toInt v_22 ∧ Int32.toInt v_22 ≤ 5 := by rw [ev_22]; exact te_2r hT (by omega) (by omega)
      try have f_25 : 0 ≤ Int32.toInt v_22 ∧ Int32.toInt v_22 ≤ 1 := by rw [ev_22]; exact te_2h hT (by omega) (by omega)
      try have f_26 : 0 ≤ Int32.toInt v_22 ∧ Int32.toInt v_22 ≤ 5 := by rw [ev_22]; exact te_2s hT (by omega) (by omega)
      try have f_27 : 0 ≤ Int32.toInt v_22 ∧ Int32.toInt v_22 ≤ 400 := by rw [ev_22]; exact te_2z hT (by omega) (by omega)
      refine dOk_B (ok_lessThan q v_22 hT) (fun r_28 q_29 h_30 => ?_)
      replace h_30 : (q_29 = q) ∧ (0 ≤ Int32.toInt r_28 ∧ Int32.toInt r_28 ≤ 6) := h_30
      obtain ⟨i_31, i_32⟩ := h_30
      subst q_29
      refine dOk_eq (A := Int32.toInt r_28) (B := Int32.toInt p1) rfl rfl (fun c_33z c_33 => ?_) (fun c_34z c_34 => ?_)
      · refine dOk_G (dg_ok (show 0 ≤ Int32.toInt (0 + x3_6) by omega) (show Int32.toInt (0 + x3_6) < ((5640 : Nat) : Int) by omega)) ?_
        refine dOk_L (fun v_36 ev_36 => ?_)
        have w_37 : Int32.toInt v_36 = Int32.toInt v_22 := by rw [ev_36, ev_22]
        try have g_38 : klo (Int32.toNatClampNeg (0 + x3_6)) ≤ Int32.toInt v_36 ∧ Int32.toInt v_36 ≤ khi (Int32.toNatClampNeg (0 + x3_6)) := by rw [ev_36]; exact te_k hT _
        try have f_39 : 0 ≤ Int32.toInt v_36 ∧ Int32.toInt v_36 ≤ 5 := by rw [ev_36]; exact te_2r hT (by omega) (by omega)
        try have f_40 : 0 ≤ Int32.toInt v_36 ∧ Int32.toInt v_36 ≤ 1 := by rw [ev_36]; exact te_2h hT (by omega) (by omega)
        try have f_41 : 0 ≤ Int32.toInt v_36 ∧ Int32.toInt v_36 ≤ 5 := by rw [ev_36]; exact te_2s hT (by omega) (by omega)
        try have f_42 : 0 ≤ Int32.toInt v_36 ∧ Int32.toInt v_36 ≤ 400 := by rw [ev_36]; exact te_2z hT (by omega) (by omega)
        unfold zX10_rankOf_40
        try have t_43 : Int32.toInt (x3_6 + 1) = Int32.toInt x3_6 + 1 := ti_add rfl (by decide) (by omega) (by omega)
        exact hk_1 (q, p1, v_36, (x3_6 + 1)) (show (q = q) ∧ (p1 = p1) ∧ (0 ≤ Int32.toInt (x3_6 + 1)) ∧ (Int32.toInt (x3_6 + 1) ≤ 6) from ⟨rfl, rfl, by omega, by omega⟩) (show (6 - Int32.toInt (x3_6 + 1)).toNat < (6 - Int32.toInt x3_6).toNat by omega)
      · unfold zX10_rankOf_40
        try have t_44 : Int32.toInt (x3_6 + 1) = Int32.toInt x3_6 + 1 := ti_add rfl (by decide) (by omega) (by omega)
        exact hk_1 (q, p1, x2_5, (x3_6 + 1)) (show (q = q) ∧ (p1 = p1) ∧ (0 ≤ Int32.toInt (x3_6 + 1)) ∧ (Int32.toInt (x3_6 + 1) ≤ 6) from ⟨rfl, rfl, by omega, by omega⟩) (show (6 - Int32.toInt (x3_6 + 1)).toNat < (6 - Int32.toInt x3_6).toNat by omega)
  · exact (show (q = q) ∧ (p1 = p1) ∧ (0 ≤ (0 : Int)) ∧ ((0 : Int) ≤ 6) from ⟨rfl, rfl, by omega, by omega⟩)
  · show (6 - (0 : Int)).toNat < 1000000000000
    omega

set_option maxHeartbeats 4000000 in
set_option maxRecDepth 100000 in
theorem ok_headsBehind (q : dS) (p1 : Int32) (p2 : Int32) (hT : TS q) (hp0 : 1 ≤ Int32.toInt p2) : dOk (zX10_headsBehind q p1 p2) (fun (o : Int32 × dS) => (o.2 = q) ∧ (0 ≤ Int32.toInt o.1 ∧ Int32.toInt o.1 ≤ 63)) := by
  unfold zX10_headsBehind
  unfold zX10_headsBehind_5
  refine dFix_ok (fun (a : dS × Int32 × Int32 × Int32 × Int32) => (a.1 = q) ∧ (a.2.1 = p1) ∧ (a.2.2.1 = p2) ∧ (0 ≤ Int32.toInt a.2.2.2.2) ∧ (Int32.toInt a.2.2.2.2 ≤ 6) ∧ (0 ≤ Int32.toInt a.2.2.2.1 ∧ Int32.toInt a.2.2.2.1 ≤ 63)) (fun (a : dS × Int32 × Int32 × Int32 × Int32) => (6 - Int32.toInt a.2.2.2.2).toNat) ?_ _ ?_ _ (dF_gt ?_)
  · intro a ha k_2 hk_1
    obtain ⟨q_3, x1_4, x2_5, x3_6, x4_7⟩ := a
    replace ha : (q_3 = q) ∧ (x1_4 = p1) ∧ (x2_5 = p2) ∧ (0 ≤ Int32.toInt x4_7) ∧ (Int32.toInt x4_7 ≤ 6) ∧ (0 ≤ Int32.toInt x3_6 ∧ Int32.toInt x3_6 ≤ 63) := ha
    obtain ⟨a_8, a_9, a_10, a_11, a_12, a_13⟩ := ha
    show dOk (zX10_headsBehind_5b  (fun q x1 x2 x3 x4 => k_2 (q, x1, x2, x3, x4)) q_3 x1_4 x2_5 x3_6 x4_7) _
    unfold zX10_headsBehind_5b
    subst q_3
    subst x1_4
    subst x2_5
    refine dOk_B (ok_size q hT) (fun r_14 q_15 h_16 => ?_)
    replace h_16 : (q_15 = q) ∧ (Int32.toInt r_14 = Int32.toInt (q.1 2 29)) ∧ (0 ≤ Int32.toInt r_14 ∧ Int32.toInt r_14 ≤ 6) := h_16
    obtain ⟨i_17, i_18, i_19⟩ := h_16
    subst q_15
    have f_20 : 0 ≤ Int32.toInt (q.1 2 29) ∧ Int32.toInt (q.1 2 29) ≤ 6 := hT.1 2 29
    refine dOk_le (A := Int32.toInt r_14) (B := Int32.toInt x4_7) rfl rfl (fun c_21 => ?_) (fun c_22 => ?_)
    · exact dOk_some (show (q = q) ∧ (0 ≤ Int32.toInt x3_6 ∧ Int32.toInt x3_6 ≤ 63) from ⟨rfl, by omega⟩)
    · refine dOk_le (A := Int32.toInt p2) (B := Int32.toInt x4_7) rfl rfl (fun c_23 => ?_) (fun c_24 => ?_)
      · unfold zX10_headsBehind_42
        have t_25 := ti_and1 (p1 >>> ((x4_7 : Int32) &&& 31))
        try have t_26 := ti_shl5 (x := p1 >>> ((x4_7 : Int32) &&& 31) &&& 1) (s := x4_7) (by omega) (by omega) (by omega) (by omega)
        try have t_27 := ti_shl6 (x := p1 >>> ((x4_7 : Int32) &&& 31) &&& 1) (s := x4_7) (by omega) (by omega) (by omega) (by omega)
        try have t_28 := ti_or (x := x3_6) (y := (p1 >>> ((x4_7 : Int32) &&& 31) &&& 1) <<< ((x4_7 : Int32) &&& 31)) 6 (by decide) (by omega) (by omega) (by omega) (by omega)
        try have t_29 : Int32.toInt (x4_7 + 1) = Int32.toInt x4_7 + 1 := ti_add rfl (by decide) (by omega) (by omega)
        exact hk_1 (q, p1, p2, (x3_6 ||| (p1 >>> ((x4_7 : Int32) &&& 31) &&& 1) <<< ((x4_7 : Int32) &&& 31)), (x4_7 + 1)) (show (q = q) ∧ (p1 = p1) ∧ (p2 = p2) ∧ (0 ≤ Int32.toInt (x4_7 + 1)) ∧ (Int32.toInt (x4_7 + 1) ≤ 6) ∧ (0 ≤ Int32.toInt (x3_6 ||| (p1 >>> ((x4_7 : Int32) &&& 31) &&& 1) <<< ((x4_7 : Int32) &&& 31)) ∧ Int32.toInt (x3_6 ||| (p1 >>> ((x4_7 : Int32) &&& 31) &&& 1) <<< ((x4_7 : Int32) &&& 31)) ≤ 63) from ⟨rfl, rfl, rfl, by omega, by omega, by omega⟩) (show (6 - Int32.toInt (x4_7 + 1)).toNat < (6 - Int32.toInt x4_7).toNat by omega)
      · try have t_31 : Int32.toInt (p2 - 1) = Int32.toInt p2 - 1 := ti_sub rfl (by decide) (by omega) (by omega)
        try have t_32 : Int32.toInt (p2 - 1 - x4_7) = Int32.toInt (p2 - 1) - Int32.toInt x4_7 := ti_sub rfl rfl (by omega) (by omega)
        have t_33 := ti_and1 (p1 >>> ((p2 - 1 - x4_7 : Int32) &&& 31))
        refine dOk_L (fun v_30 ev_30 => ?_)
        have w_34 : Int32.toInt v_30 = Int32.toInt (p1 >>> ((p2 - 1 - x4_7 : Int32) &&& 31) &&& 1) := by rw [ev_30]
        unfold zX10_headsBehind_42
        try have t_35 : Int32.toInt (1 - v_30) = 1 - Int32.toInt v_30 := ti_sub (by decide) rfl (by omega) (by omega)
        try have t_36 := ti_shl5 (x := 1 - v_30) (s := x4_7) (by omega) (by omega) (by omega) (by omega)
        try have t_37 := ti_shl6 (x := 1 - v_30) (s := x4_7) (by omega) (by omega) (by omega) (by omega)
        try have t_38 := ti_or (x := x3_6) (y := (1 - v_30) <<< ((x4_7 : Int32) &&& 31)) 6 (by decide) (by omega) (by omega) (by omega) (by omega)
        try have t_39 : Int32.toInt (x4_7 + 1) = Int32.toInt x4_7 + 1 := ti_add rfl (by decide) (by omega) (by omega)
        exact hk_1 (q, p1, p2, (x3_6 ||| (1 - v_30) <<< ((x4_7 : Int32) &&& 31)), (x4_7 + 1)) (show (q = q) ∧ (p1 = p1) ∧ (p2 = p2) ∧ (0 ≤ Int32.toInt (x4_7 + 1)) ∧ (Int32.toInt (x4_7 + 1) ≤ 6) ∧ (0 ≤ Int32.toInt (x3_6 ||| (1 - v_30) <<< ((x4_7 : Int32) &&& 31)) ∧ Int32.toInt (x3_6 ||| (1 - v_30) <<< ((x4_7 : Int32) &&& 31)) ≤ 63) from ⟨rfl, rfl, rfl, by omega, by omega, by omega⟩) (show (6 - Int32.toInt (x4_7 + 1)).toNat < (6 - Int32.toInt x4_7).toNat by omega)
  · exact (show (q = q) ∧ (p1 = p1) ∧ (p2 = p2) ∧ (0 ≤ (0 : Int)) ∧ ((0 : Int) ≤ 6) ∧ (0 ≤ (0 : Int) ∧ (0 : Int) ≤ 63) from ⟨rfl, rfl, rfl, by omega, by omega, by omega⟩)
  · show (6 - (0 : Int)).toNat < 1000000000000
    omega

set_option maxHeartbeats 4000000 in
set_option maxRecDepth 100000 in
theorem ok_behind (q : dS) (p1 : Int32) (p2 : Int32) (hT : TS q) (hp0 : 0 ≤ Int32.toInt p1 ∧ Int32.toInt p1 < 46080) (hp1 : 0 ≤ Int32.toInt p2 ∧ Int32.toInt p2 ≤ 6) : dOk (zX10_behind q p1 p2) (fun (o : Int32 × dS) => (o.2 = q) ∧ (0 ≤ Int32.toInt o.1 ∧ Int32.toInt o.1 ≤ 46079)) := by
  unfold zX10_behind
  try have t_1 : Int32.toInt (p1 / 64) = Int32.toInt p1 / 64 := ti_div rfl (by decide) (by omega) (by omega)
  try have t_2 : Int32.toInt (7 * (p1 / 64)) = 7 * Int32.toInt (p1 / 64) := ti_mul (by decide) rfl (by omega) (by omega)
  try have t_3 : Int32.toInt (7 * (p1 / 64) + p2) = Int32.toInt (7 * (p1 / 64)) + Int32.toInt p2 := ti_add rfl rfl (by omega) (by omega)
  refine dOk_G (dg_ok (show 0 ≤ Int32.toInt (7 * (p1 / 64) + p2) by omega) (show Int32.toInt (7 * (p1 / 64) + p2) < ((5040 : Nat) : Int) by omega)) ?_
  have n_4 : ((Int32.toNatClampNeg (7 * (p1 / 64) + p2) : Nat) : Int) = Int32.toInt (7 * (p1 / 64) + p2) := cl_eq (by omega)
  refine dOk_L (fun v_5 ev_5 => ?_)
  have f_6 : 0 ≤ Int32.toInt v_5 ∧ Int32.toInt v_5 ≤ 719 := by rw [ev_5]; exact hT.1 17 _
  try have t_7 : Int32.toInt (p1 - p1 / 64 * 64) = Int32.toInt p1 % 64 := ti_rem rfl (by decide) (by omega) (by omega)
  try have t_8 : Int32.toInt (7 * (p1 - p1 / 64 * 64)) = 7 * Int32.toInt (p1 - p1 / 64 * 64) := ti_mul (by decide) rfl (by omega) (by omega)
  try have t_9 : Int32.toInt (7 * (p1 - p1 / 64 * 64) + p2) = Int32.toInt (7 * (p1 - p1 / 64 * 64)) + Int32.toInt p2 := ti_add rfl rfl (by omega) (by omega)
  refine dOk_G (dg_ok (show 0 ≤ Int32.toInt (7 * (p1 - p1 / 64 * 64) + p2) by omega) (show Int32.toInt (7 * (p1 - p1 / 64 * 64) + p2) < ((448 : Nat) : Int) by omega)) ?_
  have n_10 : ((Int32.toNatClampNeg (7 * (p1 - p1 / 64 * 64) + p2) : Nat) : Int) = Int32.toInt (7 * (p1 - p1 / 64 * 64) + p2) := cl_eq (by omega)
  refine dOk_L (fun v_11 ev_11 => ?_)
  have f_12 : 0 ≤ Int32.toInt v_11 ∧ Int32.toInt v_11 ≤ 63 := by rw [ev_11]; exact hT.1 18 _
  try have t_13 : Int32.toInt (64 * v_5) = 64 * Int32.toInt v_5 := ti_mul (by decide) rfl (by omega) (by omega)
  try have t_14 : Int32.toInt (64 * v_5 + v_11) = Int32.toInt (64 * v_5) + Int32.toInt v_11 := ti_add rfl rfl (by omega) (by omega)
  exact dOk_some (show (q = q) ∧ (0 ≤ Int32.toInt (64 * v_5 + v_11) ∧ Int32.toInt (64 * v_5 + v_11) ≤ 46079) from ⟨rfl, by omega⟩)

set_option maxHeartbeats 4000000 in
set_option maxRecDepth 100000 in
theorem ok_askedAt (p1 : Int32) (p2 : Int32) (p3 : Int32) (p4 : Int32) (hp0 : 0 ≤ Int32.toInt p1 ∧ Int32.toInt p1 ≤ 6) (hp1 : 0 ≤ Int32.toInt p2 ∧ Int32.toInt p2 ≤ 5) (hp2 : 0 ≤ Int32.toInt p3 ∧ Int32.toInt p3 ≤ 6) (hp3 : 0 ≤ Int32.toInt p4 ∧ Int32.toInt p4 ≤ 1) : dOk (zX10_askedAt p1 p2 p3 p4) (fun (o : Int32) => (Int32.toInt o = ((Int32.toInt p1 * 6 + Int32.toInt p2) * 7 + Int32.toInt p3) * 2 + Int32.toInt p4)) := by
  unfold zX10_askedAt
  try have t_2 : Int32.toInt (p1 * 6) = Int32.toInt p1 * 6 := ti_mul rfl (by decide) (by omega) (by omega)
  try have t_3 : Int32.toInt (p1 * 6 + p2) = Int32.toInt (p1 * 6) + Int32.toInt p2 := ti_add rfl rfl (by omega) (by omega)
  try have t_4 : Int32.toInt ((p1 * 6 + p2) * 7) = Int32.toInt (p1 * 6 + p2) * 7 := ti_mul rfl (by decide) (by omega) (by omega)
  try have t_5 : Int32.toInt ((p1 * 6 + p2) * 7 + p3) = Int32.toInt ((p1 * 6 + p2) * 7) + Int32.toInt p3 := ti_add rfl rfl (by omega) (by omega)
  try have t_6 : Int32.toInt (((p1 * 6 + p2) * 7 + p3) * 2) = Int32.toInt ((p1 * 6 + p2) * 7 + p3) * 2 := ti_mul rfl (by decide) (by omega) (by omega)
  try have t_7 : Int32.toInt (((p1 * 6 + p2) * 7 + p3) * 2 + p4) = Int32.toInt (((p1 * 6 + p2) * 7 + p3) * 2) + Int32.toInt p4 := ti_add rfl rfl (by omega) (by omega)
  refine dOk_L (fun v_1 ev_1 => ?_)
  have w_8 : Int32.toInt v_1 = Int32.toInt (((p1 * 6 + p2) * 7 + p3) * 2 + p4) := by rw [ev_1]
  exact dOk_some (show (Int32.toInt v_1 = ((Int32.toInt p1 * 6 + Int32.toInt p2) * 7 + Int32.toInt p3) * 2 + Int32.toInt p4) from (by omega))

set_option maxHeartbeats 4000000 in
set_option maxRecDepth 100000 in
theorem ok_priceOf (q : dS) (p1 : Int32) (p2 : Int32) (hT : TS q) (hp0 : 0 ≤ Int32.toInt p1 ∧ Int32.toInt p1 < 46080) (hp1 : 1 ≤ Int32.toInt p2 ∧ Int32.toInt p2 ≤ 6) : dOk (zX10_priceOf q p1 p2) (fun (o : Int32 × dS) => (o.2 = q) ∧ (-1 ≤ Int32.toInt o.1 ∧ Int32.toInt o.1 ≤ 99)) := by
  unfold zX10_priceOf
  try have t_1 : Int32.toInt (p1 / 64) = Int32.toInt p1 / 64 := ti_div rfl (by decide) (by omega) (by omega)
  try have t_2 : Int32.toInt (6 * (p1 / 64)) = 6 * Int32.toInt (p1 / 64) := ti_mul (by decide) rfl (by omega) (by omega)
  refine dOk_G (dg_ok (show 0 ≤ Int32.toInt (6 * (p1 / 64)) by omega) (show Int32.toInt (6 * (p1 / 64)) < ((4320 : Nat) : Int) by omega)) ?_
  have n_3 : ((Int32.toNatClampNeg (6 * (p1 / 64)) : Nat) : Int) = Int32.toInt (6 * (p1 / 64)) := cl_eq (by omega)
  refine dOk_L (fun v_4 ev_4 => ?_)
  have f_5 : 0 ≤ Int32.toInt v_4 ∧ Int32.toInt v_4 ≤ 5 := by rw [ev_4]; exact hT.1 16 _
  refine dOk_B (ok_size q hT) (fun r_6 q_7 h_8 => ?_)
  replace h_8 : (q_7 = q) ∧ (Int32.toInt r_6 = Int32.toInt (q.1 2 29)) ∧ (0 ≤ Int32.toInt r_6 ∧ Int32.toInt r_6 ≤ 6) := h_8
  obtain ⟨i_9, i_10, i_11⟩ := h_8
  subst q_7
  have f_12 : 0 ≤ Int32.toInt (q.1 2 29) ∧ Int32.toInt (q.1 2 29) ≤ 6 := hT.1 2 29
  refine dOk_le (A := Int32.toInt r_6) (B := Int32.toInt p2) rfl rfl (fun c_13 => ?_) (fun c_14 => ?_)
  · unfold zX10_priceOf_41
    try have t_15 : Int32.toInt (p1 - p1 / 2 * 2) = Int32.toInt p1 % 2 := ti_rem rfl (by decide) (by omega) (by omega)
    refine dOk_V (ok_askedAt p2 v_4 0 (p1 - p1 / 2 * 2) (show 0 ≤ Int32.toInt p2 ∧ Int32.toInt p2 ≤ 6 by omega) (show 0 ≤ Int32.toInt v_4 ∧ Int32.toInt v_4 ≤ 5 by omega) (show 0 ≤ (0 : Int) ∧ (0 : Int) ≤ 6 by omega) (show 0 ≤ Int32.toInt (p1 - p1 / 2 * 2) ∧ Int32.toInt (p1 - p1 / 2 * 2) ≤ 1 by omega)) (fun r_16 h_17 => ?_)
    replace h_17 : (Int32.toInt r_16 = ((Int32.toInt p2 * 6 + Int32.toInt v_4) * 7 + (0 : Int)) * 2 + Int32.toInt (p1 - p1 / 2 * 2)) := h_17
    have i_18 := h_17
    refine dOk_G (dg_ok (show 0 ≤ Int32.toInt r_16 by omega) (show Int32.toInt r_16 < ((588 : Nat) : Int) by omega)) ?_
    have n_19 : ((Int32.toNatClampNeg r_16 : Nat) : Int) = Int32.toInt r_16 := cl_eq (by omega)
    refine dOk_L (fun v_20 ev_20 => ?_)
    have f_21 : -1 ≤ Int32.toInt v_20 ∧ Int32.toInt v_20 ≤ 99 := by rw [ev_20]; exact hT.1 20 _
    exact dOk_some (show (q = q) ∧ (-1 ≤ Int32.toInt v_20 ∧ Int32.toInt v_20 ≤ 99) from ⟨rfl, by omega⟩)
  · try have t_22 : Int32.toInt (6 * (p1 / 64) + p2) = Int32.toInt (6 * (p1 / 64)) + Int32.toInt p2 := ti_add rfl rfl (by omega) (by omega)
    refine dOk_G (dg_ok (show 0 ≤ Int32.toInt (6 * (p1 / 64) + p2) by omega) (show Int32.toInt (6 * (p1 / 64) + p2) < ((4320 : Nat) : Int) by omega)) ?_
    have n_23 : ((Int32.toNatClampNeg (6 * (p1 / 64) + p2) : Nat) : Int) = Int32.toInt (6 * (p1 / 64) + p2) := cl_eq (by omega)
    refine dOk_L (fun v_24 ev_24 => ?_)
    have f_25 : 0 ≤ Int32.toInt v_24 ∧ Int32.toInt v_24 ≤ 5 := by rw [ev_24]; exact hT.1 16 _
    unfold zX10_priceOf_41
    try have t_26 : Int32.toInt (1 + v_24) = 1 + Int32.toInt v_24 := ti_add (by decide) rfl (by omega) (by omega)
    try have t_27 : Int32.toInt (p1 - p1 / 2 * 2) = Int32.toInt p1 % 2 := ti_rem rfl (by decide) (by omega) (by omega)
    refine dOk_V (ok_askedAt p2 v_4 (1 + v_24) (p1 - p1 / 2 * 2) (show 0 ≤ Int32.toInt p2 ∧ Int32.toInt p2 ≤ 6 by omega) (show 0 ≤ Int32.toInt v_4 ∧ Int32.toInt v_4 ≤ 5 by omega) (show 0 ≤ Int32.toInt (1 + v_24) ∧ Int32.toInt (1 + v_24) ≤ 6 by omega) (show 0 ≤ Int32.toInt (p1 - p1 / 2 * 2) ∧ Int32.toInt (p1 - p1 / 2 * 2) ≤ 1 by omega)) (fun r_28 h_29 => ?_)
    replace h_29 : (Int32.toInt r_28 = ((Int32.toInt p2 * 6 + Int32.toInt v_4) * 7 + Int32.toInt (1 + v_24)) * 2 + Int32.toInt (p1 - p1 / 2 * 2)) := h_29
    have i_30 := h_29
    refine dOk_G (dg_ok (show 0 ≤ Int32.toInt r_28 by omega) (show Int32.toInt r_28 < ((588 : Nat) : Int) by omega)) ?_
    have n_31 : ((Int32.toNatClampNeg r_28 : Nat) : Int) = Int32.toInt r_28 := cl_eq (by omega)
    refine dOk_L (fun v_32 ev_32 => ?_)
    have f_33 : -1 ≤ Int32.toInt v_32 ∧ Int32.toInt v_32 ≤ 99 := by rw [ev_32]; exact hT.1 20 _
    exact dOk_some (show (q = q) ∧ (-1 ≤ Int32.toInt v_32 ∧ Int32.toInt v_32 ≤ 99) from ⟨rfl, by omega⟩)

set_option maxHeartbeats 4000000 in
set_option maxRecDepth 100000 in
theorem ok_isThere (q : dS) (p1 : Int32) (hT : TS q) (hp0 : 0 ≤ Int32.toInt p1) : dOk (zX10_isThere q p1) (fun (o : Int32 × dS) => (o.2 = q) ∧ ((Int32.toInt o.1 = 0 ∨ Int32.toInt o.1 = 1))) := by
  unfold zX10_isThere
  have f_1 : 0 ≤ Int32.toInt (q.1 0 38) ∧ Int32.toInt (q.1 0 38) ≤ 64 := hT.1 0 38
  try have t_2 : Int32.toInt (p1 - p1 / 64 * 64) = Int32.toInt p1 % 64 := ti_rem rfl (by decide) (by omega) (by omega)
  refine dOk_le (A := Int32.toInt (q.1 0 38)) (B := Int32.toInt (p1 - p1 / 64 * 64)) rfl rfl (fun c_3 => ?_) (fun c_4 => ?_)
  · unfold zX10_isThere_26
    unfold zX10_isThere_27
    refine dOk_G (dbl_ok (show (0 : Int) = 0 ∨ (0 : Int) = 1 by omega)) ?_
    exact dOk_some (show (q = q) ∧ (((0 : Int) = 0 ∨ (0 : Int) = 1)) from ⟨rfl, by omega⟩)
  · have f_5 : 0 ≤ Int32.toInt (q.1 0 37) ∧ Int32.toInt (q.1 0 37) ≤ 720 := hT.1 0 37
    try have t_6 : Int32.toInt (p1 / 64) = Int32.toInt p1 / 64 := ti_div rfl (by decide) (by omega) (by omega)
    refine dOk_le (A := Int32.toInt (q.1 0 37)) (B := Int32.toInt (p1 / 64)) rfl rfl (fun c_7 => ?_) (fun c_8 => ?_)
    · unfold zX10_isThere_26
      unfold zX10_isThere_27
      refine dOk_G (dbl_ok (show (0 : Int) = 0 ∨ (0 : Int) = 1 by omega)) ?_
      exact dOk_some (show (q = q) ∧ (((0 : Int) = 0 ∨ (0 : Int) = 1)) from ⟨rfl, by omega⟩)
    · unfold zX10_isThere_27
      refine dOk_G (dbl_ok (show (1 : Int) = 0 ∨ (1 : Int) = 1 by omega)) ?_
      exact dOk_some (show (q = q) ∧ (((1 : Int) = 0 ∨ (1 : Int) = 1)) from ⟨rfl, by omega⟩)

set_option maxHeartbeats 4000000 in
set_option maxRecDepth 100000 in
theorem ok_isOrdered (q : dS) (p1 : Int32) (hT : TS q) (hp0 : 0 ≤ Int32.toInt p1) : dOk (zX10_isOrdered q p1) (fun (o : Int32 × dS) => (o.2 = q) ∧ ((Int32.toInt o.1 = 0 ∨ Int32.toInt o.1 = 1))) := by
  unfold zX10_isOrdered
  try have t_1 : Int32.toInt (p1 / 64) = Int32.toInt p1 / 64 := ti_div rfl (by decide) (by omega) (by omega)
  refine dOk_eq (A := Int32.toInt (p1 / 64)) (B := 0) rfl (by decide) (fun c_2z c_2 => ?_) (fun c_3z c_3 => ?_)
  · have f_5 : 0 ≤ Int32.toInt (q.1 2 28) ∧ Int32.toInt (q.1 2 28) ≤ 1 := hT.1 2 28
    refine dOk_eq (A := Int32.toInt (q.1 2 28)) (B := 0) rfl (by decide) (fun c_6z c_6 => ?_) (fun c_7z c_7 => ?_)
    · unfold zX10_isOrdered_24
      unfold zX10_isOrdered_29
      refine dOk_G (dbl_ok (show (1 : Int) = 0 ∨ (1 : Int) = 1 by omega)) ?_
      exact dOk_some (show (q = q) ∧ (((1 : Int) = 0 ∨ (1 : Int) = 1)) from ⟨rfl, by omega⟩)
    · try have t_9 : Int32.toInt (p1 - p1 / 64 * 64) = Int32.toInt p1 % 64 := ti_rem rfl (by decide) (by omega) (by omega)
      refine dOk_eq (A := Int32.toInt (p1 - p1 / 64 * 64)) (B := 0) rfl (by decide) (fun c_10z c_10 => ?_) (fun c_11z c_11 => ?_)
      · unfold zX10_isOrdered_24
        unfold zX10_isOrdered_29
        refine dOk_G (dbl_ok (show (1 : Int) = 0 ∨ (1 : Int) = 1 by omega)) ?_
        exact dOk_some (show (q = q) ∧ (((1 : Int) = 0 ∨ (1 : Int) = 1)) from ⟨rfl, by omega⟩)
      · unfold zX10_isOrdered_28
        unfold zX10_isOrdered_29
        refine dOk_G (dbl_ok (show (0 : Int) = 0 ∨ (0 : Int) = 1 by omega)) ?_
        exact dOk_some (show (q = q) ∧ (((0 : Int) = 0 ∨ (0 : Int) = 1)) from ⟨rfl, by omega⟩)
  · unfold zX10_isOrdered_28
    unfold zX10_isOrdered_29
    refine dOk_G (dbl_ok (show (0 : Int) = 0 ∨ (0 : Int) = 1 by omega)) ?_
    exact dOk_some (show (q = q) ∧ (((0 : Int) = 0 ∨ (0 : Int) = 1)) from ⟨rfl, by omega⟩)
