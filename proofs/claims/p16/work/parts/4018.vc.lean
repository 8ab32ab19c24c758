section
set_option maxHeartbeats 4000000 in
set_option maxRecDepth 100000 in
theorem ok_numberOf (q : dS) (hT : TS q) : dOk (zX10_numberOf q) (fun (o : Int32 × dS) => (o.2 = q) ∧ (NB (Int32.toInt (q.1 2 29)) (Int32.toInt (q.1 2 29)) (Int32.toInt o.1)) ∧ (0 ≤ Int32.toInt o.1 ∧ Int32.toInt o.1 ≤ 719)) := by
  unfold zX10_numberOf
  unfold zX10_numberOf_4
  refine dFix_ok (fun (a : dS × Int32 × Int32) => (a.1 = q) ∧ (0 ≤ Int32.toInt a.2.2) ∧ (Int32.toInt a.2.2 ≤ 6) ∧ (NB (Int32.toInt (q.1 2 29)) (Int32.toInt a.2.2) (Int32.toInt a.2.1))) (fun (a : dS × Int32 × Int32) => (6 - Int32.toInt a.2.2).toNat) ?_ _ ?_ _ (dF_gt ?_)
  · intro a ha k_2 hk_1
    obtain ⟨q_3, x1_4, x2_5⟩ := a
    replace ha : (q_3 = q) ∧ (0 ≤ Int32.toInt x2_5) ∧ (Int32.toInt x2_5 ≤ 6) ∧ (NB (Int32.toInt (q.1 2 29)) (Int32.toInt x2_5) (Int32.toInt x1_4)) := ha
    obtain ⟨a_6, a_7, a_8, a_9⟩ := ha
    show dOk (zX10_numberOf_4b  (fun q x1 x2 => k_2 (q, x1, x2)) q_3 x1_4 x2_5) _
    unfold zX10_numberOf_4b
    subst q_3
    have f_10 : 0 ≤ Int32.toInt (q.1 2 29) ∧ Int32.toInt (q.1 2 29) ≤ 6 := hT.1 2 29
    have zr := NB_r ‹NB _ _ (Int32.toInt x1_4)›
    refine dOk_B (ok_size q hT) (fun r_11 q_12 h_13 => ?_)
    replace h_13 : (q_12 = q) ∧ (Int32.toInt r_11 = Int32.toInt (q.1 2 29)) ∧ (0 ≤ Int32.toInt r_11 ∧ Int32.toInt r_11 ≤ 6) := h_13
    obtain ⟨i_14, i_15, i_16⟩ := h_13
    subst q_12
    try have z8 : Int32.toInt (r_11 - x2_5) = Int32.toInt r_11 - Int32.toInt x2_5 := ti_sub rfl rfl (by omega) (by omega)
    try have z9 := NB_m ‹NB _ _ (Int32.toInt x1_4)› (Int32.toInt (r_11 - x2_5)) (by omega) (by omega)
    refine dOk_le (A := Int32.toInt r_11) (B := Int32.toInt x2_5) rfl rfl (fun c_17 => ?_) (fun c_18 => ?_)
    · exact dOk_some (show (q = q) ∧ (NB (Int32.toInt (q.1 2 29)) (Int32.toInt (q.1 2 29)) (Int32.toInt x1_4)) ∧ (0 ≤ Int32.toInt x1_4 ∧ Int32.toInt x1_4 ≤ 719) from ⟨rfl, by exact NB_e ‹NB _ _ _› (by omega), by omega⟩)
    · unfold zX10_numberOf_19
      refine dFix_ok (fun (a : dS × Int32 × Int32 × Int32 × Int32) => (a.1 = q) ∧ (a.2.1 = x1_4) ∧ (a.2.2.1 = x2_5) ∧ (Int32.toInt a.2.2.1 + 1 ≤ Int32.toInt a.2.2.2.2) ∧ (Int32.toInt a.2.2.2.2 ≤ Int32.toInt (q.1 2 29)) ∧ (0 ≤ Int32.toInt a.2.2.2.1) ∧ (Int32.toInt a.2.2.2.1 ≤ Int32.toInt a.2.2.2.2 - Int32.toInt a.2.2.1 - 1)) (fun (a : dS × Int32 × Int32 × Int32 × Int32) => (6 - Int32.toInt a.2.2.2.2).toNat) ?_ _ ?_ _ (dF_gt ?_)
      · intro a ha k_20 hk_19
        obtain ⟨q_21, x1_22, x2_23, x3_24, x4_25⟩ := a
        replace ha : (q_21 = q) ∧ (x1_22 = x1_4) ∧ (x2_23 = x2_5) ∧ (Int32.toInt x2_23 + 1 ≤ Int32.toInt x4_25) ∧ (Int32.toInt x4_25 ≤ Int32.toInt (q.1 2 29)) ∧ (0 ≤ Int32.toInt x3_24) ∧ (Int32.toInt x3_24 ≤ Int32.toInt x4_25 - Int32.toInt x2_23 - 1) := ha
        obtain ⟨a_26, a_27, a_28, a_29, a_30, a_31, a_32⟩ := ha
        show dOk (zX10_numberOf_19b _ (fun q x1 x2 x3 x4 => k_20 (q, x1, x2, x3, x4)) q_21 x1_22 x2_23 x3_24 x4_25) _
        unfold zX10_numberOf_19b
        subst q_21
        subst x1_22
        subst x2_23
        refine dOk_B (ok_size q hT) (fun r_33 q_34 h_35 => ?_)
        replace h_35 : (q_34 = q) ∧ (Int32.toInt r_33 = Int32.toInt (q.1 2 29)) ∧ (0 ≤ Int32.toInt r_33 ∧ Int32.toInt r_33 ≤ 6) := h_35
        obtain ⟨i_36, i_37, i_38⟩ := h_35
        subst q_34
        try have z8 : Int32.toInt (r_33 - x2_5) = Int32.toInt r_33 - Int32.toInt x2_5 := ti_sub rfl rfl (by omega) (by omega)
        try have z9 := NB_m ‹NB _ _ (Int32.toInt x1_4)› (Int32.toInt (r_33 - x2_5)) (by omega) (by omega)
        refine dOk_le (A := Int32.toInt r_33) (B := Int32.toInt x4_25) rfl rfl (fun c_39 => ?_) (fun c_40 => ?_)
        · refine dOk_B (ok_size q hT) (fun r_41 q_42 h_43 => ?_)
          replace h_43 : (q_42 = q) ∧ (Int32.toInt r_41 = Int32.toInt (q.1 2 29)) ∧ (0 ≤ Int32.toInt r_41 ∧ Int32.toInt r_41 ≤ 6) := h_43
          obtain ⟨i_44, i_45, i_46⟩ := h_43
          subst q_42
          try have z8 : Int32.toInt (r_41 - x2_5) = Int32.toInt r_41 - Int32.toInt x2_5 := ti_sub rfl rfl (by omega) (by omega)
          try have z9 := NB_m ‹NB _ _ (Int32.toInt x1_4)› (Int32.toInt (r_41 - x2_5)) (by omega) (by omega)
          try have t_47 : Int32.toInt (r_41 - x2_5) = Int32.toInt r_41 - Int32.toInt x2_5 := ti_sub rfl rfl (by omega) (by omega)
          try have t_48 : Int32.toInt (x1_4 * (r_41 - x2_5)) = Int32.toInt x1_4 * Int32.toInt (r_41 - x2_5) := ti_mul rfl rfl (by omega) (by omega)
          try have t_49 : Int32.toInt (x1_4 * (r_41 - x2_5) + x3_24) = Int32.toInt (x1_4 * (r_41 - x2_5)) + Int32.toInt x3_24 := ti_add rfl rfl (by omega) (by omega)
          try have t_50 : Int32.toInt (x2_5 + 1) = Int32.toInt x2_5 + 1 := ti_add rfl (by decide) (by omega) (by omega)
          exact hk_1 (q, (x1_4 * (r_41 - x2_5) + x3_24), (x2_5 + 1)) (show (q = q) ∧ (0 ≤ Int32.toInt (x2_5 + 1)) ∧ (Int32.toInt (x2_5 + 1) ≤ 6) ∧ (NB (Int32.toInt (q.1 2 29)) (Int32.toInt (x2_5 + 1)) (Int32.toInt (x1_4 * (r_41 - x2_5) + x3_24))) from ⟨rfl, by omega, by omega, by exact NB_s2 (Int32.toInt x3_24) (Int32.toInt (r_41 - x2_5)) ‹NB _ _ _› (by omega) (by omega) (by omega) (by omega) (by omega) (by omega)⟩) (show (6 - Int32.toInt (x2_5 + 1)).toNat < (6 - Int32.toInt x2_5).toNat by omega)
        · refine dOk_G (dg_ok (show 0 ≤ Int32.toInt x4_25 by omega) (show Int32.toInt x4_25 < ((6 : Nat) : Int) by omega)) ?_
          have n_51 : ((Int32.toNatClampNeg x4_25 : Nat) : Int) = Int32.toInt x4_25 := cl_eq (by omega)
          refine dOk_L (fun v_52 ev_52 => ?_)
          refine dOk_G (dg_ok (show 0 ≤ Int32.toInt x2_5 by omega) (show Int32.toInt x2_5 < ((6 : Nat) : Int) by omega)) ?_
          have n_53 : ((Int32.toNatClampNeg x2_5 : Nat) : Int) = Int32.toInt x2_5 := cl_eq (by omega)
          refine dOk_L (fun v_54 ev_54 => ?_)
          refine dOk_le (A := Int32.toInt v_54) (B := Int32.toInt v_52) rfl rfl (fun c_55 => ?_) (fun c_56 => ?_)
          · unfold zX10_numberOf_50
            try have t_57 : Int32.toInt (x3_24 + 0) = Int32.toInt x3_24 + 0 := ti_add rfl (by decide) (by omega) (by omega)
            try have t_58 : Int32.toInt (x4_25 + 1) = Int32.toInt x4_25 + 1 := ti_add rfl (by decide) (by omega) (by omega)
            exact hk_19 (q, x1_4, x2_5, (x3_24 + 0), (x4_25 + 1)) (show (q = q) ∧ (x1_4 = x1_4) ∧ (x2_5 = x2_5) ∧ (Int32.toInt x2_5 + 1 ≤ Int32.toInt (x4_25 + 1)) ∧ (Int32.toInt (x4_25 + 1) ≤ Int32.toInt (q.1 2 29)) ∧ (0 ≤ Int32.toInt (x3_24 + 0)) ∧ (Int32.toInt (x3_24 + 0) ≤ Int32.toInt (x4_25 + 1) - Int32.toInt x2_5 - 1) from ⟨rfl, rfl, rfl, by omega, by omega, by omega, by omega⟩) (show (6 - Int32.toInt (x4_25 + 1)).toNat < (6 - Int32.toInt x4_25).toNat by omega)
          · unfold zX10_numberOf_50
            try have t_59 : Int32.toInt (x3_24 + 1) = Int32.toInt x3_24 + 1 := ti_add rfl (by decide) (by omega) (by omega)
            try have t_60 : Int32.toInt (x4_25 + 1) = Int32.toInt x4_25 + 1 := ti_add rfl (by decide) (by omega) (by omega)
            exact hk_19 (q, x1_4, x2_5, (x3_24 + 1), (x4_25 + 1)) (show (q = q) ∧ (x1_4 = x1_4) ∧ (x2_5 = x2_5) ∧ (Int32.toInt x2_5 + 1 ≤ Int32.toInt (x4_25 + 1)) ∧ (Int32.toInt (x4_25 + 1) ≤ Int32.toInt (q.1 2 29)) ∧ (0 ≤ Int32.toInt (x3_24 + 1)) ∧ (Int32.toInt (x3_24 + 1) ≤ Int32.toInt (x4_25 + 1) - Int32.toInt x2_5 - 1) from ⟨rfl, rfl, rfl, by omega, by omega, by omega, by omega⟩) (show (6 - Int32.toInt (x4_25 + 1)).toNat < (6 - Int32.toInt x4_25).toNat by omega)
      · try have t_61 : Int32.toInt (x2_5 + 1) = Int32.toInt x2_5 + 1 := ti_add rfl (by decide) (by omega) (by omega)
        exact (show (q = q) ∧ (x1_4 = x1_4) ∧ (x2_5 = x2_5) ∧ (Int32.toInt x2_5 + 1 ≤ Int32.toInt (x2_5 + 1)) ∧ (Int32.toInt (x2_5 + 1) ≤ Int32.toInt (q.1 2 29)) ∧ (0 ≤ (0 : Int)) ∧ ((0 : Int) ≤ Int32.toInt (x2_5 + 1) - Int32.toInt x2_5 - 1) from ⟨rfl, rfl, rfl, by omega, by omega, by omega, by omega⟩)
      · try have t_62 : Int32.toInt (x2_5 + 1) = Int32.toInt x2_5 + 1 := ti_add rfl (by decide) (by omega) (by omega)
        show (6 - Int32.toInt (x2_5 + 1)).toNat < 1000000000000
        omega
  · have f_63 : 0 ≤ Int32.toInt (q.1 2 29) ∧ Int32.toInt (q.1 2 29) ≤ 6 := hT.1 2 29
    exact (show (q = q) ∧ (0 ≤ (0 : Int)) ∧ ((0 : Int) ≤ 6) ∧ (NB (Int32.toInt (q.1 2 29)) ((0 : Int)) ((0 : Int))) from ⟨rfl, by omega, by omega, by exact NB_0 (by omega) (by omega)⟩)
  · show (6 - (0 : Int)).toNat < 1000000000000
    omega

set_option maxHeartbeats 4000000 in
set_option maxRecDepth 100000 in
theorem ok_rankOf (q : dS) (p1 : Int32) (hT : TS q) : dOk (zX10_rankOf q p1) (fun (o : Int32 × dS) => (o.2 = q)) := by
  unfold zX10_rankOf
  unfold zX10_rankOf_4
  refine dFix_ok (fun (a : dS × Int32 × Int32 × Int32) => (a.1 = q) ∧ (a.2.1 = p1) ∧ (0 ≤ Int32.toInt a.2.2.2) ∧ (Int32.toInt a.2.2.2 ≤ 6)) (fun (a : dS × Int32 × Int32 × Int32) => (6 - Int32.toInt a.2.2.2).toNat) ?_ _ ?_ _ (dF_gt ?_)
  · intro a ha k_2 hk_1
    obtain ⟨q_3, x1_4, x2_5, x3_6⟩ := a
    replace ha : (q_3 = q) ∧ (x1_4 = p1) ∧ (0 ≤ Int32.toInt x3_6) ∧ (Int32.toInt x3_6 ≤ 6) := ha
    obtain ⟨a_7, a_8, a_9, a_10⟩ := ha
    show dOk (zX10_rankOf_4b  (fun q x1 x2 x3 => k_2 (q, x1, x2, x3)) q_3 x1_4 x2_5 x3_6) _
    unfold zX10_rankOf_4b
    subst q_3
    subst x1_4
    refine dOk_B (ok_size q hT) (fun r_11 q_12 h_13 => ?_)
    replace h_13 : (q_12 = q) ∧ (Int32.toInt r_11 = Int32.toInt (q.1 2 29)) ∧ (0 ≤ Int32.toInt r_11 ∧ Int32.toInt r_11 ≤ 6) := h_13
    obtain ⟨i_14, i_15, i_16⟩ := h_13
    subst q_12
    have f_17 : 0 ≤ Int32.toInt (q.1 2 29) ∧ Int32.toInt (q.1 2 29) ≤ 6 := hT.1 2 29
    refine dOk_le (A := Int32.toInt r_11) (B := Int32.toInt x3_6) rfl rfl (fun c_18 => ?_) (fun c_19 => ?_)
    · exact dOk_some (show (q = q) from rfl)
    · try have t_20 : Int32.toInt (0 + x3_6) = 0 + Int32.toInt x3_6 := ti_add (by decide) rfl (by omega) (by omega)
      refine dOk_G (dg_ok (show 0 ≤ Int32.toInt (0 + x3_6) by omega) (show Int32.toInt (0 + x3_6) < ((5640 : Nat) : Int) by omega)) ?_
      have n_21 : ((Int32.toNatClampNeg (0 + x3_6) : Nat) : Int) = Int32.toInt (0 + x3_6) := cl_eq (by omega)
      refine dOk_L (fun v_22 ev_22 => ?_)
      try have g_23 : klo (Int32.toNatClampNeg (0 + x3_6)) ≤ Int32.toInt v_22 ∧ Int32.toInt v_22 ≤ khi (Int32.toNatClampNeg (0 + x3_6)) := by rw [ev_22]; exact te_k hT _
      try have f_24 : 0 ≤ Int32.toInt v_22 ∧ Int32.toInt v_22 ≤ 5 := by rw [ev_22]; exact te_2r hT (by omega) (by omega)
      try have f_25 : 0 ≤ Int32.toInt v_22 ∧ Int32.toInt v_22 ≤ 1 := by rw [ev_22]; exact te_2h hT (by omega) (by omega)
      try have f_26 : 0 ≤ Int32.toInt v_22 ∧ Int32.toInt v_22 ≤ 5 := by rw [ev_22]; exact te_2s hT (by omega) (by omega)
      try have f_27 : 0 ≤ Int32.toInt v_22 ∧ Int32.toInt v_22 ≤ 400 := by rw [ev_22]; exact te_2z hT (by omega) (by omega)
      refine dOk_B (ok_lessThan q v_22 hT) (fun r_28 q_29 h_30 => ?_)
      replace h_30 : (q_29 = q) ∧ (0 ≤ Int32.toInt r_28 ∧ Int32.toInt r_28 ≤ 6) := h_30
      obtain ⟨i_31, i_32⟩ := h_30
      subst q_29
      refine dOk_eq (A := Int32.toInt r_28) (B := Int32.toInt p1) rfl rfl (fun c_33z c_33 => ?_) (fun c_34z c_34 => ?_)
      · refine dOk_G (dg_ok (show 0 ≤ Int32.toInt (0 + x3_6) by omega) (show Int32.toInt (0 + x3_6) < ((5640 : Nat) : Int) by omega)) ?_
        refine dOk_L (fun v_36 ev_36 => ?_)
        have w_37 : Int32.toInt v_36 = Int32.toInt v_22 := by rw [ev_36, ev_22]
        try have g_38 : klo (Int32.toNatClampNeg (0 + x3_6)) ≤ Int32.toInt v_36 ∧ Int32.toInt v_36 ≤ khi (Int32.toNatClampNeg (0 + x3_6)) := by rw [ev_36]; exact te_k hT _
        try have f_39 : 0 ≤ Int32.toInt v_36 ∧ Int32.toInt v_36 ≤ 5 := by rw [ev_36]; exact te_2r hT (by omega) (by omega)
        try have f_40 : 0 ≤ Int32.toInt v_36 ∧ Int32.toInt v_36 ≤ 1 := by rw [ev_36]; exact te_2h hT (by omega) (by omega)
        try have f_41 : 0 ≤ Int32.toInt v_36 ∧ Int32.toInt v_36 ≤ 5 := by rw [ev_36]; exact te_2s hT (by omega) (by omega)
        try have f_42 : 0 ≤ Int32.toInt v_36 ∧ Int32.toInt v_36 ≤ 400 := by rw [ev_36]; exact te_2z hT (by omega) (by omega)
        unfold zX10_rankOf_40
        try have t_43 : Int32.toInt (x3_6 + 1) = Int32.toInt x3_6 + 1 := ti_add rfl (by decide) (by omega) (by omega)
        exact hk_1 (q, p1, v_36, (x3_6 + 1)) (show (q = q) ∧ (p1 = p1) ∧ (0 ≤ Int32.toInt (x3_6 + 1)) ∧ (Int32.toInt (x3_6 + 1) ≤ 6) from ⟨rfl, rfl, by omega, by omega⟩) (show (6 - Int32.toInt (x3_6 + 1)).toNat < (6 - Int32.toInt x3_6).toNat by omega)
      · unfold zX10_rankOf_40
        try have t_44 : Int32.toInt (x3_6 + 1) = Int32.toInt x3_6 + 1 := ti_add rfl (by decide) (by omega) (by omega)
        exact hk_1 (q, p1, x2_5, (x3_6 + 1)) (show (q = q) ∧ (p1 = p1) ∧ (0 ≤ Int32.toInt (x3_6 + 1)) ∧ (Int32.toInt (x3_6 + 1) ≤ 6) from ⟨rfl, rfl, by omega, by omega⟩) (show (6 - Int32.toInt (x3_6 + 1)).toNat < (6 - Int32.toInt x3_6).toNat by omega)
  · exact (show (q = q) ∧ (p1 = p1) ∧ (0 ≤ (0 : Int)) ∧ ((0 : Int) ≤ 6) from ⟨rfl, rfl, by omega, by omega⟩)
  · show (6 - (0 : Int)).toNat < 1000000000000
    omega

set_option maxHeartbeats 4000000 in
set_option maxRecDepth 100000 in
theorem ok_headsBehind (q : dS) (p1 : Int32) (p2 : Int32) (hT : TS q) (hp0 : 1 ≤ Int32.toInt p2) : dOk (zX10_headsBehind q p1 p2) (fun (o : Int32 × dS) => (o.2 = q) ∧ (0 ≤ Int32.toInt o.1 ∧ Int32.toInt o.1 ≤ 63)) := by
  unfold zX10_headsBehind
  unfold zX10_headsBehind_5
  refine dFix_ok (fun (a : dS × Int32 × Int32 × Int32 × Int32) => (a.1 = q) ∧ (a.2.1 = p1) ∧ (a.2.2.1 = p2) ∧ (0 ≤ Int32.toInt a.2.2.2.2) ∧ (Int32.toInt a.2.2.2.2 ≤ 6) ∧ (0 ≤ Int32.toInt a.2.2.2.1 ∧ Int32.toInt a.2.2.2.1 ≤ 63)) (fun (a : dS × Int32 × Int32 × Int32 × Int32) => (6 - Int32.toInt a.2.2.2.2).toNat) ?_ _ ?_ _ (dF_gt ?_)
  · intro a ha k_2 hk_1
    obtain ⟨q_3, x1_4, x2_5, x3_6, x4_7⟩ := a
    replace ha : (q_3 = q) ∧ (x1_4 = p1) ∧ (x2_5 = p2) ∧ (0 ≤ Int32.toInt x4_7) ∧ (Int32.toInt x4_7 ≤ 6) ∧ (0 ≤ Int32.toInt x3_6 ∧ Int32.toInt x3_6 ≤ 63) := ha
    obtain ⟨a_8, a_9, a_10, a_11, a_12, a_13⟩ := ha
    show dOk (zX10_headsBehind_5b  (fun q x1 x2 x3 x4 => k_2 (q, x1, x2, x3, x4)) q_3 x1_4 x2_5 x3_6 x4_7) _
    unfold zX10_headsBehind_5b
    subst q_3
    subst x1_4
    subst x2_5
    refine dOk_B (ok_size q hT) (fun r_14 q_15 h_16 => ?_)
    replace h_16 : (q_15 = q) ∧ (Int32.toInt r_14 = Int32.toInt (q.1 2 29)) ∧ (0 ≤ Int32.toInt r_14 ∧ Int32.toInt r_14 ≤ 6) := h_16
    obtain ⟨i_17, i_18, i_19⟩ := h_16
    subst q_15
    have f_20 : 0 ≤ Int32.toInt (q.1 2 29) ∧ Int32.toInt (q.1 2 29) ≤ 6 := hT.1 2 29
    refine dOk_le (A := Int32.toInt r_14) (B := Int32.toInt x4_7) rfl rfl (fun c_21 => ?_) (fun c_22 => ?_)
    · exact dOk_some (show (q = q) ∧ (0 ≤ Int32.toInt x3_6 ∧ Int32.toInt x3_6 ≤ 63) from ⟨rfl, by omega⟩)
    · refine dOk_le (A := Int32.toInt p2) (B := Int32.toInt x4_7) rfl rfl (fun c_23 => ?_) (fun c_24 => ?_)
      · unfold zX10_headsBehind_42
        have t_25 := ti_and1 (p1 >>> ((x4_7 : Int32) &&& 31))
        try have t_26 := ti_shl5 (x := p1 >>> ((x4_7 : Int32) &&& 31) &&& 1) (s := x4_7) (by omega) (by omega) (by omega) (by omega)
        try have t_27 := ti_shl6 (x := p1 >>> ((x4_7 : Int32) &&& 31) &&& 1) (s := x4_7) (by omega) (by omega) (by omega) (by omega)
        try have t_28 := ti_or (x := x3_6) (y := (p1 >>> ((x4_7 : Int32) &&& 31) &&& 1) <<< ((x4_7 : Int32) &&& 31)) 6 (by decide) (by omega) (by omega) (by omega) (by omega)
        try have t_29 : Int32.toInt (x4_7 + 1) = Int32.toInt x4_7 + 1 := ti_add rfl (by decide) (by omega) (by omega)
        exact hk_1 (q, p1, p2, (x3_6 ||| (p1 >>> ((x4_7 : Int32) &&& 31) &&& 1) <<< ((x4_7 : Int32) &&& 31)), (x4_7 + 1)) (show (q = q) ∧ (p1 = p1) ∧ (p2 = p2) ∧ (0 ≤ Int32.toInt (x4_7 + 1)) ∧ (Int32.toInt (x4_7 + 1) ≤ 6) ∧ (0 ≤ Int32.toInt (x3_6 ||| (p1 >>> ((x4_7 : Int32) &&& 31) &&& 1) <<< ((x4_7 : Int32) &&& 31)) ∧ Int32.toInt (x3_6 ||| (p1 >>> ((x4_7 : Int32) &&& 31) &&& 1) <<< ((x4_7 : Int32) &&& 31)) ≤ 63) from ⟨rfl, rfl, rfl, by omega, by omega, by omega⟩) (show (6 - Int32.toInt (x4_7 + 1)).toNat < (6 - Int32.toInt x4_7).toNat by omega)
      · try have t_31 : Int32.toInt (p2 - 1) = Int32.toInt p2 - 1 := ti_sub rfl (by decide) (by omega) (by omega)
        try have t_32 : Int32.toInt (p2 - 1 - x4_7) = Int32.toInt (p2 - 1) - Int32.toInt x4_7 := ti_sub rfl rfl (by omega) (by omega)
        have t_33 := ti_and1 (p1 >>> ((p2 - 1 - x4_7 : Int32) &&& 31))
        refine dOk_L (fun v_30 ev_30 => ?_)
        have w_34 : Int32.toInt v_30 = Int32.toInt (p1 >>> ((p2 - 1 - x4_7 : Int32) &&& 31) &&& 1) := by rw [ev_30]
        unfold zX10_headsBehind_42
        try have t_35 : Int32.toInt (1 - v_30) = 1 - Int32.toInt v_30 := ti_sub (by decide) rfl (by omega) (by omega)
        try have t_36 := ti_shl5 (x := 1 - v_30) (s := x4_7) (by omega) (by omega) (by omega) (by omega)
        try have t_37 := ti_shl6 (x := 1 - v_30) (s := x4_7) (by omega) (by omega) (by omega) (by omega)
        try have t_38 := ti_or (x := x3_6) (y := (1 - v_30) <<< ((x4_7 : Int32) &&& 31)) 6 (by decide) (by omega) (by omega) (by omega) (by omega)
        try have t_39 : Int32.toInt (x4_7 + 1) = Int32.toInt x4_7 + 1 := ti_add rfl (by decide) (by omega) (by omega)
        exact hk_1 (q, p1, p2, (x3_6 ||| (1 - v_30) <<< ((x4_7 : Int32) &&& 31)), (x4_7 + 1)) (show (q = q) ∧ (p1 = p1) ∧ (p2 = p2) ∧ (0 ≤ Int32.toInt (x4_7 + 1)) ∧ (Int32.toInt (x4_7 + 1) ≤ 6) ∧ (0 ≤ Int32.toInt (x3_6 ||| (1 - v_30) <<< ((x4_7 : Int32) &&& 31)) ∧ Int32.toInt (x3_6 ||| (1 - v_30) <<< ((x4_7 : Int32) &&& 31)) ≤ 63) from ⟨rfl, rfl, rfl, by omega, by omega, by omega⟩) (show (6 - Int32.toInt (x4_7 + 1)).toNat < (6 - Int32.toInt x4_7).toNat by omega)
  · exact (show (q = q) ∧ (p1 = p1) ∧ (p2 = p2) ∧ (0 ≤ (0 : Int)) ∧ ((0 : Int) ≤ 6) ∧ (0 ≤ (0 : Int) ∧ (0 : Int) ≤ 63) from ⟨rfl, rfl, rfl, by omega, by omega, by omega⟩)
  · show (6 - (0 : Int)).toNat < 1000000000000
    omega

set_option maxHeartbeats 4000000 in
set_option maxRecDepth 100000 in
theorem ok_behind (q : dS) (p1 : Int32) (p2 : Int32) (hT : TS q) (hp0 : 0 ≤ Int32.toInt p1 ∧ Int32.toInt p1 < 46080) (hp1 : 0 ≤ Int32.toInt p2 ∧ Int32.toInt p2 ≤ 6) : dOk (zX10_behind q p1 p2) (fun (o : Int32 × dS) => (o.2 = q) ∧ (0 ≤ Int32.toInt o.1 ∧ Int32.toInt o.1 ≤ 46079)) := by
  unfold zX10_behind
  try have t_1 : Int32.toInt (p1 / 64) = Int32.toInt p1 / 64 := ti_div rfl (by decide) (by omega) (by omega)
  try have t_2 : Int32.toInt (7 * (p1 / 64)) = 7 * Int32.toInt (p1 / 64) := ti_mul (by decide) rfl (by omega) (by omega)
  try have t_3 : Int32.toInt (7 * (p1 / 64) + p2) = Int32.toInt (7 * (p1 / 64)) + Int32.toInt p2 := ti_add rfl rfl (by omega) (by omega)
  refine dOk_G (dg_ok (show 0 ≤ Int32.toInt (7 * (p1 / 64) + p2) by omega) (show Int32.toInt (7 * (p1 / 64) + p2) < ((5040 : Nat) : Int) by omega)) ?_
  have n_4 : ((Int32.toNatClampNeg (7 * (p1 / 64) + p2) : Nat) : Int) = Int32.toInt (7 * (p1 / 64) + p2) := cl_eq (by omega)
  refine dOk_L (fun v_5 ev_5 => ?_)
  have f_6 : 0 ≤ Int32.toInt v_5 ∧ Int32.toInt v_5 ≤ 719 := by rw [ev_5]; exact hT.1 17 _
  try have t_7 : Int32.toInt (p1 - p1 / 64 * 64) = Int32.toInt p1 % 64 := ti_rem rfl (by decide) (by omega) (by omega)
  try have t_8 : Int32.toInt (7 * (p1 - p1 / 64 * 64)) = 7 * Int32.toInt (p1 - p1 / 64 * 64) := ti_mul (by decide) rfl (by omega) (by omega)
  try have t_9 : Int32.toInt (7 * (p1 - p1 / 64 * 64) + p2) = Int32.toInt (7 * (p1 - p1 / 64 * 64)) + Int32.toInt p2 := ti_add rfl rfl (by omega) (by omega)
  refine dOk_G (dg_ok (show 0 ≤ Int32.toInt (7 * (p1 - p1 / 64 * 64) + p2) by omega) (show Int32.toInt (7 * (p1 - p1 / 64 * 64) + p2) < ((448 : Nat) : Int) by omega)) ?_
  have n_10 : ((Int32.toNatClampNeg (7 * (p1 - p1 / 64 * 64) + p2) : Nat) : Int) = Int32.toInt (7 * (p1 - p1 / 64 * 64) + p2) := cl_eq (by omega)
  refine dOk_L (fun v_11 ev_11 => ?_)
  have f_12 : 0 ≤ Int32.toInt v_11 ∧ Int32.toInt v_11 ≤ 63 := by rw [ev_11]; exact hT.1 18 _
  try have t_13 : Int32.toInt (64 * v_5) = 64 * Int32.toInt v_5 := ti_mul (by decide) rfl (by omega) (by omega)
  try have t_14 : Int32.toInt (64 * v_5 + v_11) = Int32.toInt (64 * v_5) + Int32.toInt v_11 := ti_add rfl rfl (by omega) (by omega)
  exact dOk_some (show (q = q) ∧ (0 ≤ Int32.toInt (64 * v_5 + v_11) ∧ Int32.toInt (64 * v_5 + v_11) ≤ 46079) from ⟨rfl, by omega⟩)

set_option maxHeartbeats 4000000 in
set_option maxRecDepth 100000 in
theorem ok_askedAt (p1 : Int32) (p2 : Int32) (p3 : Int32) (p4 : Int32) (hp0 : 0 ≤ Int32.toInt p1 ∧ Int32.toInt p1 ≤ 6) (hp1 : 0 ≤ Int32.toInt p2 ∧ Int32.toInt p2 ≤ 5) (hp2 : 0 ≤ Int32.toInt p3 ∧ Int32.toInt p3 ≤ 6) (hp3 : 0 ≤ Int32.toInt p4 ∧ Int32.toInt p4 ≤ 1) : dOk (zX10_askedAt p1 p2 p3 p4) (fun (o : Int32) => (Int32.toInt o = ((Int32.toInt p1 * 6 + Int32.toInt p2) * 7 + Int32.toInt p3) * 2 + Int32.toInt p4)) := by
  unfold zX10_askedAt
  try have t_2 : Int32.toInt (p1 * 6) = Int32.toInt p1 * 6 := ti_mul rfl (by decide) (by omega) (by omega)
  try have t_3 : Int32.toInt (p1 * 6 + p2) = Int32.toInt (p1 * 6) + Int32.toInt p2 := ti_add rfl rfl (by omega) (by omega)
  try have t_4 : Int32.toInt ((p1 * 6 + p2) * 7) = Int32.toInt (p1 * 6 + p2) * 7 := ti_mul rfl (by decide) (by omega) (by omega)
  try have t_5 : Int32.toInt ((p1 * 6 + p2) * 7 + p3) = Int32.toInt ((p1 * 6 + p2) * 7) + Int32.toInt p3 := ti_add rfl rfl (by omega) (by omega)
  try have t_6 : Int32.toInt (((p1 * 6 + p2) * 7 + p3) * 2) = Int32.toInt ((p1 * 6 + p2) * 7 + p3) * 2 := ti_mul rfl (by decide) (by omega) (by omega)
  try have t_7 : Int32.toInt (((p1 * 6 + p2) * 7 + p3) * 2 + p4) = Int32.toInt (((p1 * 6 + p2) * 7 + p3) * 2) + Int32.toInt p4 := ti_add rfl rfl (by omega) (by omega)
  refine dOk_L (fun v_1 ev_1 => ?_)
  have w_8 : Int32.toInt v_1 = Int32.toInt (((p1 * 6 + p2) * 7 + p3) * 2 + p4) := by rw [ev_1]
  exact dOk_some (show (Int32.toInt v_1 = ((Int32.toInt p1 * 6 + Int32.toInt p2) * 7 + Int32.toInt p3) * 2 + Int32.toInt p4) from (by omega))

set_option maxHeartbeats 4000000 in
set_option maxRecDepth 100000 in
theorem ok_priceOf (q : dS) (p1 : Int32) (p2 : Int32) (hT : TS q) (hp0 : 0 ≤ Int32.toInt p1 ∧ Int32.toInt p1 < 46080) (hp1 : 1 ≤ Int32.toInt p2 ∧ Int32.toInt p2 ≤ 6) : dOk (zX10_priceOf q p1 p2) (fun (o : Int32 × dS) => (o.2 = q) ∧ (-1 ≤ Int32.toInt o.1 ∧ Int32.toInt o.1 ≤ 99)) := by
  unfold zX10_priceOf
  try have t_1 : Int32.toInt (p1 / 64) = Int32.toInt p1 / 64 := ti_div rfl (by decide) (by omega) (by omega)
  try have t_2 : Int32.toInt (6 * (p1 / 64)) = 6 * Int32.toInt (p1 / 64) := ti_mul (by decide) rfl (by omega) (by omega)
  refine dOk_G (dg_ok (show 0 ≤ Int32.toInt (6 * (p1 / 64)) by omega) (show Int32.toInt (6 * (p1 / 64)) < ((4320 : Nat) : Int) by omega)) ?_
  have n_3 : ((Int32.toNatClampNeg (6 * (p1 / 64)) : Nat) : Int) = Int32.toInt (6 * (p1 / 64)) := cl_eq (by omega)
  refine dOk_L (fun v_4 ev_4 => ?_)
  have f_5 : 0 ≤ Int32.toInt v_4 ∧ Int32.toInt v_4 ≤ 5 := by rw [ev_4]; exact hT.1 16 _
  refine dOk_B (ok_size q hT) (fun r_6 q_7 h_8 => ?_)
  replace h_8 : (q_7 = q) ∧ (Int32.toInt r_6 = Int32.toInt (q.1 2 29)) ∧ (0 ≤ Int32.toInt r_6 ∧ Int32.toInt r_6 ≤ 6) := h_8
  obtain ⟨i_9, i_10, i_11⟩ := h_8
  subst q_7
  have f_12 : 0 ≤ Int32.toInt (q.1 2 29) ∧ Int32.toInt (q.1 2 29) ≤ 6 := hT.1 2 29
  refine dOk_le (A := Int32.toInt r_6) (B := Int32.toInt p2) rfl rfl (fun c_13 => ?_) (fun c_14 => ?_)
  · unfold zX10_priceOf_41
    try have t_15 : Int32.toInt (p1 - p1 / 2 * 2) = Int32.toInt p1 % 2 := ti_rem rfl (by decide) (by omega) (by omega)
    refine dOk_V (ok_askedAt p2 v_4 0 (p1 - p1 / 2 * 2) (show 0 ≤ Int32.toInt p2 ∧ Int32.toInt p2 ≤ 6 by omega) (show 0 ≤ Int32.toInt v_4 ∧ Int32.toInt v_4 ≤ 5 by omega) (show 0 ≤ (0 : Int) ∧ (0 : Int) ≤ 6 by omega) (show 0 ≤ Int32.toInt (p1 - p1 / 2 * 2) ∧ Int32.toInt (p1 - p1 / 2 * 2) ≤ 1 by omega)) (fun r_16 h_17 => ?_)
    replace h_17 : (Int32.toInt r_16 = ((Int32.toInt p2 * 6 + Int32.toInt v_4) * 7 + (0 : Int)) * 2 + Int32.toInt (p1 - p1 / 2 * 2)) := h_17
    have i_18 := h_17
    refine dOk_G (dg_ok (show 0 ≤ Int32.toInt r_16 by omega) (show Int32.toInt r_16 < ((588 : Nat) : Int) by omega)) ?_
    have n_19 : ((Int32.toNatClampNeg r_16 : Nat) : Int) = Int32.toInt r_16 := cl_eq (by omega)
    refine dOk_L (fun v_20 ev_20 => ?_)
    have f_21 : -1 ≤ Int32.toInt v_20 ∧ Int32.toInt v_20 ≤ 99 := by rw [ev_20]; exact hT.1 20 _
    exact dOk_some (show (q = q) ∧ (-1 ≤ Int32.toInt v_20 ∧ Int32.toInt v_20 ≤ 99) from ⟨rfl, by omega⟩)
  · try have t_22 : Int32.toInt (6 * (p1 / 64) + p2) = Int32.toInt (6 * (p1 / 64)) + Int32.toInt p2 := ti_add rfl rfl (by omega) (by omega)
    refine dOk_G (dg_ok (show 0 ≤ Int32.toInt (6 * (p1 / 64) + p2) by omega) (show Int32.toInt (6 * (p1 / 64) + p2) < ((4320 : Nat) : Int) by omega)) ?_
    have n_23 : ((Int32.toNatClampNeg (6 * (p1 / 64) + p2) : Nat) : Int) = Int32.toInt (6 * (p1 / 64) + p2) := cl_eq (by omega)
    refine dOk_L (fun v_24 ev_24 => ?_)
    have f_25 : 0 ≤ Int32.toInt v_24 ∧ Int32.toInt v_24 ≤ 5 := by rw [ev_24]; exact hT.1 16 _
    unfold zX10_priceOf_41
    try have t_26 : Int32.toInt (1 + v_24) = 1 + Int32.toInt v_24 := ti_add (by decide) rfl (by omega) (by omega)
    try have t_27 : Int32.toInt (p1 - p1 / 2 * 2) = Int32.toInt p1 % 2 := ti_rem rfl (by decide) (by omega) (by omega)
    refine dOk_V (ok_askedAt p2 v_4 (1 + v_24) (p1 - p1 / 2 * 2) (show 0 ≤ Int32.toInt p2 ∧ Int32.toInt p2 ≤ 6 by omega) (show 0 ≤ Int32.toInt v_4 ∧ Int32.toInt v_4 ≤ 5 by omega) (show 0 ≤ Int32.toInt (1 + v_24) ∧ Int32.toInt (1 + v_24) ≤ 6 by omega) (show 0 ≤ Int32.toInt (p1 - p1 / 2 * 2) ∧ Int32.toInt (p1 - p1 / 2 * 2) ≤ 1 by omega)) (fun r_28 h_29 => ?_)
    replace h_29 : (Int32.toInt r_28 = ((Int32.toInt p2 * 6 + Int32.toInt v_4) * 7 + Int32.toInt (1 + v_24)) * 2 + Int32.toInt (p1 - p1 / 2 * 2)) := h_29
    have i_30 := h_29
    refine dOk_G (dg_ok (show 0 ≤ Int32.toInt r_28 by omega) (show Int32.toInt r_28 < ((588 : Nat) : Int) by omega)) ?_
    have n_31 : ((Int32.toNatClampNeg r_28 : Nat) : Int) = Int32.toInt r_28 := cl_eq (by omega)
    refine dOk_L (fun v_32 ev_32 => ?_)
    have f_33 : -1 ≤ Int32.toInt v_32 ∧ Int32.toInt v_32 ≤ 99 := by rw [ev_32]; exact hT.1 20 _
    exact dOk_some (show (q = q) ∧ (-1 ≤ Int32.toInt v_32 ∧ Int32.toInt v_32 ≤ 99) from ⟨rfl, by omega⟩)

set_option maxHeartbeats 4000000 in
set_option maxRecDepth 100000 in
theorem ok_isThere (q : dS) (p1 : Int32) (hT : TS q) (hp0 : 0 ≤ Int32.toInt p1) : dOk (zX10_isThere q p1) (fun (o : Int32 × dS) => (o.2 = q) ∧ ((Int32.toInt o.1 = 0 ∨ Int32.toInt o.1 = 1))) := by
  unfold zX10_isThere
  have f_1 : 0 ≤ Int32.toInt (q.1 0 38) ∧ Int32.toInt (q.1 0 38) ≤ 64 := hT.1 0 38
  try have t_2 : Int32.toInt (p1 - p1 / 64 * 64) = Int32.toInt p1 % 64 := ti_rem rfl (by decide) (by omega) (by omega)
  refine dOk_le (A := Int32.toInt (q.1 0 38)) (B := Int32.toInt (p1 - p1 / 64 * 64)) rfl rfl (fun c_3 => ?_) (fun c_4 => ?_)
  · unfold zX10_isThere_26
    unfold zX10_isThere_27
    refine dOk_G (dbl_ok (show (0 : Int) = 0 ∨ (0 : Int) = 1 by omega)) ?_
    exact dOk_some (show (q = q) ∧ (((0 : Int) = 0 ∨ (0 : Int) = 1)) from ⟨rfl, by omega⟩)
  · have f_5 : 0 ≤ Int32.toInt (q.1 0 37) ∧ Int32.toInt (q.1 0 37) ≤ 720 := hT.1 0 37
    try have t_6 : Int32.toInt (p1 / 64) = Int32.toInt p1 / 64 := ti_div rfl (by decide) (by omega) (by omega)
    refine dOk_le (A := Int32.toInt (q.1 0 37)) (B := Int32.toInt (p1 / 64)) rfl rfl (fun c_7 => ?_) (fun c_8 => ?_)
    · unfold zX10_isThere_26
      unfold zX10_isThere_27
      refine dOk_G (dbl_ok (show (0 : Int) = 0 ∨ (0 : Int) = 1 by omega)) ?_
      exact dOk_some (show (q = q) ∧ (((0 : Int) = 0 ∨ (0 : Int) = 1)) from ⟨rfl, by omega⟩)
    · unfold zX10_isThere_27
      refine dOk_G (dbl_ok (show (1 : Int) = 0 ∨ (1 : Int) = 1 by omega)) ?_
      exact dOk_some (show (q = q) ∧ (((1 : Int) = 0 ∨ (1 : Int) = 1)) from ⟨rfl, by omega⟩)

set_option maxHeartbeats 4000000 in
set_option maxRecDepth 100000 in
theorem ok_isOrdered (q : dS) (p1 : Int32) (hT : TS q) (hp0 : 0 ≤ Int32.toInt p1) : dOk (zX10_isOrdered q p1) (fun (o : Int32 × dS) => (o.2 = q) ∧ ((Int32.toInt o.1 = 0 ∨ Int32.toInt o.1 = 1))) := by
  unfold zX10_isOrdered
  try have t_1 : Int32.toInt (p1 / 64) = Int32.toInt p1 / 64 := ti_div rfl (by decide) (by omega) (by omega)
  refine dOk_eq (A := Int32.toInt (p1 / 64)) (B := 0) rfl (by decide) (fun c_2z c_2 => ?_) (fun c_3z c_3 => ?_)
  · have f_5 : 0 ≤ Int32.toInt (q.1 2 28) ∧ Int32.toInt (q.1 2 28) ≤ 1 := hT.1 2 28
    refine dOk_eq (A := Int32.toInt (q.1 2 28)) (B := 0) rfl (by decide) (fun c_6z c_6 => ?_) (fun c_7z c_7 => ?_)
    · unfold zX10_isOrdered_24
      unfold zX10_isOrdered_29
      refine dOk_G (dbl_ok (show (1 : Int) = 0 ∨ (1 : Int) = 1 by omega)) ?_
      exact dOk_some (show (q = q) ∧ (((1 : Int) = 0 ∨ (1 : Int) = 1)) from ⟨rfl, by omega⟩)
    · try have t_9 : Int32.toInt (p1 - p1 / 64 * 64) = Int32.toInt p1 % 64 := ti_rem rfl (by decide) (by omega) (by omega)
      refine dOk_eq (A := Int32.toInt (p1 - p1 / 64 * 64)) (B := 0) rfl (by decide) (fun c_10z c_10 => ?_) (fun c_11z c_11 => ?_)
      · unfold zX10_isOrdered_24
        unfold zX10_isOrdered_29
        refine dOk_G (dbl_ok (show (1 : Int) = 0 ∨ (1 : Int) = 1 by omega)) ?_
        exact dOk_some (show (q = q) ∧ (((1 : Int) = 0 ∨ (1 : Int) = 1)) from ⟨rfl, by omega⟩)
      · unfold zX10_isOrdered_28
        unfold zX10_isOrdered_29
        refine dOk_G (dbl_ok (show (0 : Int) = 0 ∨ (0 : Int) = 1 by omega)) ?_
        exact dOk_some (show (q = q) ∧ (((0 : Int) = 0 ∨ (0 : Int) = 1)) from ⟨rfl, by omega⟩)
  · unfold zX10_isOrdered_28
    unfold zX10_isOrdered_29
    refine dOk_G (dbl_ok (show (0 : Int) = 0 ∨ (0 : Int) = 1 by omega)) ?_
    exact dOk_some (show (q = q) ∧ (((0 : Int) = 0 ∨ (0 : Int) = 1)) from ⟨rfl, by omega⟩)
end
section
theorem ok_isOrder_L (q0 q : dS) (hT : TS q) (hF : dFr [19] [] q0 q) (x2 x3 x4 x5 : Int32) (h4 : x4.toInt = 0 ∨ x4.toInt = 1) (h5 : -1 ≤ x5.toInt) (h6 : x5.toInt ≤ 5) : dOk (zX10_isOrder_23 dF q x2 x3 x4 x5) (fun (o : Int32 × dS) => (TS o.2) ∧ (dFr [19] [] q0 o.2) ∧ ((Int32.toInt o.1 = 0 ∨ Int32.toInt o.1 = 1))) := by
  unfold zX10_isOrder_23
  refine dFix_ok (fun (a : dS × Int32 × Int32 × Int32 × Int32) => TS a.1 ∧ dFr [19] [] q0 a.1 ∧ (a.2.2.2.1.toInt = 0 ∨ a.2.2.2.1.toInt = 1) ∧ -1 ≤ a.2.2.2.2.toInt ∧ a.2.2.2.2.toInt ≤ 5) (fun (a : dS × Int32 × Int32 × Int32 × Int32) => (a.2.2.2.2.toInt + 1).toNat) ?_ _ ⟨hT, hF, h4, h5, h6⟩ _ (dF_gt ?_)
  · intro a ha k hk
    obtain ⟨q, x2, x3, x4, x5⟩ := a
    obtain ⟨hT, hF, h4, h5, h6⟩ := ha
    replace hT : TS q := hT
    replace hF : dFr [19] [] q0 q := hF
    replace h4 : x4.toInt = 0 ∨ x4.toInt = 1 := h4
    replace h5 : -1 ≤ x5.toInt := h5
    replace h6 : x5.toInt ≤ 5 := h6
    show dOk (zX10_isOrder_23b (fun q x2 x3 x4 x5 => k (q, x2, x3, x4, x5)) q x2 x3 x4 x5) _
    have h95 : 0 ≤ x5.toInt → ∀ (x3' y0 y1 : Int32), (y0.toInt = 0 ∨ y0.toInt = 1) → dOk (zX10_isOrder_95 (fun q x2 x3 x4 x5 => k (q, x2, x3, x4, x5)) q x2 x3' y0 x5 y1 x5) (fun (o : Int32 × dS) => (TS o.2) ∧ (dFr [19] [] q0 o.2) ∧ ((Int32.toInt o.1 = 0 ∨ Int32.toInt o.1 = 1))) := by
      intro h0 x3' y0 y1 hy
      unfold zX10_isOrder_95
      have t : Int32.toInt (x5 + (-1)) = x5.toInt + (-1) := ti_add rfl (by decide) (by omega) (by omega)
      refine dOk_G (dg_ok h0 (by omega)) (dOk_L (fun q2 e2 => ?_))
      refine hk (q2, x2 / 10, x3', y0, x5 + (-1)) ⟨?_, ?_, hy, ?_, ?_⟩ ?_
      · show TS q2
        rw [e2]; exact ts_any hT rfl
      · show dFr [19] [] q0 q2
        rw [e2]; exact hF.i (by decide) (by decide)
      · show -1 ≤ Int32.toInt (x5 + (-1))
        omega
      · show Int32.toInt (x5 + (-1)) ≤ 5
        omega
      · show (Int32.toInt (x5 + (-1)) + 1).toNat < (x5.toInt + 1).toNat
        omega
    have h61 : 0 ≤ x5.toInt → ∀ y0 : Int32, (y0.toInt = 0 ∨ y0.toInt = 1) → dOk (zX10_isOrder_61 (fun q x2 x3 x4 x5 => k (q, x2, x3, x4, x5)) q x2 x3 x5 y0) (fun (o : Int32 × dS) => (TS o.2) ∧ (dFr [19] [] q0 o.2) ∧ ((Int32.toInt o.1 = 0 ∨ Int32.toInt o.1 = 1))) := by
      intro h0 y0 hy
      unfold zX10_isOrder_61
      refine dOk_L (fun v1 _ => ?_)
      refine dOk_eq rfl rfl (fun _ _ => h95 h0 _ y0 0 hy) (fun _ _ => ?_)
      refine dOk_B (ok_lessThan q _ hT) (fun r2 q4 hr => ?_)
      have e4 : q4 = q := hr.1
      subst e4
      exact h95 h0 _ y0 r2 hy
    have h0d : (0 : Int32).toInt = 0 := by decide
    have h1d : (1 : Int32).toInt = 1 := by decide
    unfold zX10_isOrder_23b zX10_isOrder_60 zX10_isOrder_120 zX10_isOrder_121
    refine dOk_lt (A := x5.toInt) (B := 0) rfl h0d (fun c => ?_) (fun c => ?_)
    · refine dOk_eq rfl rfl (fun _ _ => dOk_G (by decide) (dOk_some ⟨hT, hF, Or.inl h0d⟩)) (fun _ _ => ?_)
      exact dOk_eq rfl rfl (fun _ _ => dOk_G (by decide) (dOk_some ⟨hT, hF, Or.inr h1d⟩)) (fun _ _ => dOk_G (by decide) (dOk_some ⟨hT, hF, Or.inl h0d⟩))
    · refine dOk_eq rfl rfl (fun _ _ => h61 c 0 (Or.inl h0d)) (fun _ _ => ?_)
      refine dOk_B (ok_placeOf q _ hT) (fun r1 q3 hr => ?_)
      have e3 : q3 = q := hr.1
      subst e3
      refine dOk_eq rfl rfl (fun _ _ => h61 c 0 (Or.inl h0d)) (fun _ _ => ?_)
      refine dOk_V (ok_isIn x3 _) (fun r4 _ => ?_)
      exact dOk_eq rfl rfl (fun _ _ => h61 c 1 (Or.inr h1d)) (fun _ _ => h61 c 0 (Or.inl h0d))
  · show (x5.toInt + 1).toNat < 1000000000000
    omega
theorem ok_isOrder (q : dS) (p1 : Int32) (hT : TS q) : dOk (zX10_isOrder q p1) (fun (o : Int32 × dS) => (TS o.2) ∧ (dFr [19] [] q o.2) ∧ ((Int32.toInt o.1 = 0 ∨ Int32.toInt o.1 = 1))) := by
  have h : ∀ y : Int32, (y.toInt = 0 ∨ y.toInt = 1) → dOk (zX10_isOrder_13 q p1 0 y) (fun (o : Int32 × dS) => (TS o.2) ∧ (dFr [19] [] q o.2) ∧ ((Int32.toInt o.1 = 0 ∨ Int32.toInt o.1 = 1))) := by
    intro y hy
    unfold zX10_isOrder_13
    refine dOk_B (ok_size q hT) (fun r q2 hr => ?_)
    have e2 : q2 = q := hr.1
    have h2 : 0 ≤ Int32.toInt r ∧ Int32.toInt r ≤ 6 := hr.2.2
    subst e2
    have t : Int32.toInt (r - 1) = r.toInt - 1 := ti_sub rfl (by decide) (by omega) (by omega)
    exact ok_isOrder_L q2 q2 hT dFr.rf _ _ _ _ hy (by omega) (by omega)
  unfold zX10_isOrder
  exact dOk_lt rfl rfl (fun _ => h 0 (by decide)) (fun _ => h 1 (by decide))

set_option maxHeartbeats 4000000 in
set_option maxRecDepth 100000 in
theorem ok_canStay (q : dS) (p1 : Int32) (hT : TS q) : dOk (zX10_canStay q p1) (fun (o : Int32 × dS) => (o.2 = q) ∧ ((Int32.toInt o.1 = 0 ∨ Int32.toInt o.1 = 1))) := by
  unfold zX10_canStay
  unfold zX10_canStay_7
  refine dFix_ok (fun (a : dS × Int32 × Int32 × Int32 × Int32) => (a.1 = q) ∧ (a.2.1 = p1) ∧ (0 ≤ Int32.toInt a.2.2.2.2) ∧ (Int32.toInt a.2.2.2.2 ≤ 6) ∧ (Int32.toInt a.2.2.2.1 = 0 ∨ Int32.toInt a.2.2.2.1 = 1)) (fun (a : dS × Int32 × Int32 × Int32 × Int32) => (6 - Int32.toInt a.2.2.2.2).toNat) ?_ _ ?_ _ (dF_gt ?_)
  · intro a ha k_2 hk_1
    obtain ⟨q_3, x1_4, x2_5, x3_6, x4_7⟩ := a
    replace ha : (q_3 = q) ∧ (x1_4 = p1) ∧ (0 ≤ Int32.toInt x4_7) ∧ (Int32.toInt x4_7 ≤ 6) ∧ (Int32.toInt x3_6 = 0 ∨ Int32.toInt x3_6 = 1) := ha
    obtain ⟨a_8, a_9, a_10, a_11, a_12⟩ := ha
    show dOk (zX10_canStay_7b  (fun q x1 x2 x3 x4 => k_2 (q, x1, x2, x3, x4)) q_3 x1_4 x2_5 x3_6 x4_7) _
    unfold zX10_canStay_7b
    subst q_3
    subst x1_4
    refine dOk_B (ok_size q hT) (fun r_13 q_14 h_15 => ?_)
    replace h_15 : (q_14 = q) ∧ (Int32.toInt r_13 = Int32.toInt (q.1 2 29)) ∧ (0 ≤ Int32.toInt r_13 ∧ Int32.toInt r_13 ≤ 6) := h_15
    obtain ⟨i_16, i_17, i_18⟩ := h_15
    subst q_14
    have f_19 : 0 ≤ Int32.toInt (q.1 2 29) ∧ Int32.toInt (q.1 2 29) ≤ 6 := hT.1 2 29
    refine dOk_le (A := Int32.toInt r_13) (B := Int32.toInt x4_7) rfl rfl (fun c_20 => ?_) (fun c_21 => ?_)
    · refine dOk_G (dbl_ok (show Int32.toInt x3_6 = 0 ∨ Int32.toInt x3_6 = 1 by omega)) ?_
      exact dOk_some (show (q = q) ∧ ((Int32.toInt x3_6 = 0 ∨ Int32.toInt x3_6 = 1)) from ⟨rfl, by omega⟩)
    · refine dOk_V (ok_isIn p1 x4_7) (fun r_22 h_23 => ?_)
      replace h_23 : ((Int32.toInt r_22 = 0 ∨ Int32.toInt r_22 = 1)) := h_23
      have i_24 := h_23
      refine dOk_eq (A := Int32.toInt r_22) (B := 0) rfl (by decide) (fun c_25z c_25 => ?_) (fun c_26z c_26 => ?_)
      · unfold zX10_canStay_84
        try have t_28 : Int32.toInt (x4_7 + 1) = Int32.toInt x4_7 + 1 := ti_add rfl (by decide) (by omega) (by omega)
        exact hk_1 (q, p1, x2_5, x3_6, (x4_7 + 1)) (show (q = q) ∧ (p1 = p1) ∧ (0 ≤ Int32.toInt (x4_7 + 1)) ∧ (Int32.toInt (x4_7 + 1) ≤ 6) ∧ (Int32.toInt x3_6 = 0 ∨ Int32.toInt x3_6 = 1) from ⟨rfl, rfl, by omega, by omega, by omega⟩) (show (6 - Int32.toInt (x4_7 + 1)).toNat < (6 - Int32.toInt x4_7).toNat by omega)
      · refine dOk_eq (A := Int32.toInt x3_6) (B := 0) rfl (by decide) (fun c_29z c_29 => ?_) (fun c_30z c_30 => ?_)
        · unfold zX10_canStay_72
          unfold zX10_canStay_73
          try have t_32 : Int32.toInt (0 + x4_7) = 0 + Int32.toInt x4_7 := ti_add (by decide) rfl (by omega) (by omega)
          refine dOk_G (dg_ok (show 0 ≤ Int32.toInt (0 + x4_7) by omega) (show Int32.toInt (0 + x4_7) < ((5640 : Nat) : Int) by omega)) ?_
          have n_33 : ((Int32.toNatClampNeg (0 + x4_7) : Nat) : Int) = Int32.toInt (0 + x4_7) := cl_eq (by omega)
          refine dOk_L (fun v_34 ev_34 => ?_)
          try have g_35 : klo (Int32.toNatClampNeg (0 + x4_7)) ≤ Int32.toInt v_34 ∧ Int32.toInt v_34 ≤ khi (Int32.toNatClampNeg (0 + x4_7)) := by rw [ev_34]; exact te_k hT _
          try have f_36 : 0 ≤ Int32.toInt v_34 ∧ Int32.toInt v_34 ≤ 5 := by rw [ev_34]; exact te_2r hT (by omega) (by omega)
          try have f_37 : 0 ≤ Int32.toInt v_34 ∧ Int32.toInt v_34 ≤ 1 := by rw [ev_34]; exact te_2h hT (by omega) (by omega)
          try have f_38 : 0 ≤ Int32.toInt v_34 ∧ Int32.toInt v_34 ≤ 5 := by rw [ev_34]; exact te_2s hT (by omega) (by omega)
          try have f_39 : 0 ≤ Int32.toInt v_34 ∧ Int32.toInt v_34 ≤ 400 := by rw [ev_34]; exact te_2z hT (by omega) (by omega)
          unfold zX10_canStay_84
          try have t_40 : Int32.toInt (x4_7 + 1) = Int32.toInt x4_7 + 1 := ti_add rfl (by decide) (by omega) (by omega)
          exact hk_1 (q, p1, v_34, 0, (x4_7 + 1)) (show (q = q) ∧ (p1 = p1) ∧ (0 ≤ Int32.toInt (x4_7 + 1)) ∧ (Int32.toInt (x4_7 + 1) ≤ 6) ∧ ((0 : Int) = 0 ∨ (0 : Int) = 1) from ⟨rfl, rfl, by omega, by omega, by omega⟩) (show (6 - Int32.toInt (x4_7 + 1)).toNat < (6 - Int32.toInt x4_7).toNat by omega)
        · try have t_41 : Int32.toInt (0 + x4_7) = 0 + Int32.toInt x4_7 := ti_add (by decide) rfl (by omega) (by omega)
          refine dOk_G (dg_ok (show 0 ≤ Int32.toInt (0 + x4_7) by omega) (show Int32.toInt (0 + x4_7) < ((5640 : Nat) : Int) by omega)) ?_
          have n_42 : ((Int32.toNatClampNeg (0 + x4_7) : Nat) : Int) = Int32.toInt (0 + x4_7) := cl_eq (by omega)
          refine dOk_L (fun v_43 ev_43 => ?_)
          try have g_44 : klo (Int32.toNatClampNeg (0 + x4_7)) ≤ Int32.toInt v_43 ∧ Int32.toInt v_43 ≤ khi (Int32.toNatClampNeg (0 + x4_7)) := by rw [ev_43]; exact te_k hT _
          try have f_45 : 0 ≤ Int32.toInt v_43 ∧ Int32.toInt v_43 ≤ 5 := by rw [ev_43]; exact te_2r hT (by omega) (by omega)
          try have f_46 : 0 ≤ Int32.toInt v_43 ∧ Int32.toInt v_43 ≤ 1 := by rw [ev_43]; exact te_2h hT (by omega) (by omega)
          try have f_47 : 0 ≤ Int32.toInt v_43 ∧ Int32.toInt v_43 ≤ 5 := by rw [ev_43]; exact te_2s hT (by omega) (by omega)
          try have f_48 : 0 ≤ Int32.toInt v_43 ∧ Int32.toInt v_43 ≤ 400 := by rw [ev_43]; exact te_2z hT (by omega) (by omega)
          refine dOk_le (A := Int32.toInt v_43) (B := Int32.toInt x2_5) rfl rfl (fun c_49 => ?_) (fun c_50 => ?_)
          · unfold zX10_canStay_72
            unfold zX10_canStay_73
            refine dOk_G (dg_ok (show 0 ≤ Int32.toInt (0 + x4_7) by omega) (show Int32.toInt (0 + x4_7) < ((5640 : Nat) : Int) by omega)) ?_
            refine dOk_L (fun v_51 ev_51 => ?_)
            have w_52 : Int32.toInt v_51 = Int32.toInt v_43 := by rw [ev_51, ev_43]
            try have g_53 : klo (Int32.toNatClampNeg (0 + x4_7)) ≤ Int32.toInt v_51 ∧ Int32.toInt v_51 ≤ khi (Int32.toNatClampNeg (0 + x4_7)) := by rw [ev_51]; exact te_k hT _
            try have f_54 : 0 ≤ Int32.toInt v_51 ∧ Int32.toInt v_51 ≤ 5 := by rw [ev_51]; exact te_2r hT (by omega) (by omega)
            try have f_55 : 0 ≤ Int32.toInt v_51 ∧ Int32.toInt v_51 ≤ 1 := by rw [ev_51]; exact te_2h hT (by omega) (by omega)
            try have f_56 : 0 ≤ Int32.toInt v_51 ∧ Int32.toInt v_51 ≤ 5 := by rw [ev_51]; exact te_2s hT (by omega) (by omega)
            try have f_57 : 0 ≤ Int32.toInt v_51 ∧ Int32.toInt v_51 ≤ 400 := by rw [ev_51]; exact te_2z hT (by omega) (by omega)
            unfold zX10_canStay_84
            try have t_58 : Int32.toInt (x4_7 + 1) = Int32.toInt x4_7 + 1 := ti_add rfl (by decide) (by omega) (by omega)
            exact hk_1 (q, p1, v_51, 0, (x4_7 + 1)) (show (q = q) ∧ (p1 = p1) ∧ (0 ≤ Int32.toInt (x4_7 + 1)) ∧ (Int32.toInt (x4_7 + 1) ≤ 6) ∧ ((0 : Int) = 0 ∨ (0 : Int) = 1) from ⟨rfl, rfl, by omega, by omega, by omega⟩) (show (6 - Int32.toInt (x4_7 + 1)).toNat < (6 - Int32.toInt x4_7).toNat by omega)
          · have f_59 : 0 ≤ Int32.toInt (q.1 2 28) ∧ Int32.toInt (q.1 2 28) ≤ 1 := hT.1 2 28
            refine dOk_eq (A := Int32.toInt (q.1 2 28)) (B := 0) rfl (by decide) (fun c_60z c_60 => ?_) (fun c_61z c_61 => ?_)
            · unfold zX10_canStay_68
              unfold zX10_canStay_73
              refine dOk_G (dg_ok (show 0 ≤ Int32.toInt (0 + x4_7) by omega) (show Int32.toInt (0 + x4_7) < ((5640 : Nat) : Int) by omega)) ?_
              refine dOk_L (fun v_63 ev_63 => ?_)
              have w_64 : Int32.toInt v_63 = Int32.toInt v_43 := by rw [ev_63, ev_43]
              try have g_65 : klo (Int32.toNatClampNeg (0 + x4_7)) ≤ Int32.toInt v_63 ∧ Int32.toInt v_63 ≤ khi (Int32.toNatClampNeg (0 + x4_7)) := by rw [ev_63]; exact te_k hT _
              try have f_66 : 0 ≤ Int32.toInt v_63 ∧ Int32.toInt v_63 ≤ 5 := by rw [ev_63]; exact te_2r hT (by omega) (by omega)
              try have f_67 : 0 ≤ Int32.toInt v_63 ∧ Int32.toInt v_63 ≤ 1 := by rw [ev_63]; exact te_2h hT (by omega) (by omega)
              try have f_68 : 0 ≤ Int32.toInt v_63 ∧ Int32.toInt v_63 ≤ 5 := by rw [ev_63]; exact te_2s hT (by omega) (by omega)
              try have f_69 : 0 ≤ Int32.toInt v_63 ∧ Int32.toInt v_63 ≤ 400 := by rw [ev_63]; exact te_2z hT (by omega) (by omega)
              unfold zX10_canStay_84
              try have t_70 : Int32.toInt (x4_7 + 1) = Int32.toInt x4_7 + 1 := ti_add rfl (by decide) (by omega) (by omega)
              exact hk_1 (q, p1, v_63, 1, (x4_7 + 1)) (show (q = q) ∧ (p1 = p1) ∧ (0 ≤ Int32.toInt (x4_7 + 1)) ∧ (Int32.toInt (x4_7 + 1) ≤ 6) ∧ ((1 : Int) = 0 ∨ (1 : Int) = 1) from ⟨rfl, rfl, by omega, by omega, by omega⟩) (show (6 - Int32.toInt (x4_7 + 1)).toNat < (6 - Int32.toInt x4_7).toNat by omega)
            · try have t_71 : Int32.toInt (6 + x4_7) = 6 + Int32.toInt x4_7 := ti_add (by decide) rfl (by omega) (by omega)
              refine dOk_G (dg_ok (show 0 ≤ Int32.toInt (6 + x4_7) by omega) (show Int32.toInt (6 + x4_7) < ((5640 : Nat) : Int) by omega)) ?_
              have n_72 : ((Int32.toNatClampNeg (6 + x4_7) : Nat) : Int) = Int32.toInt (6 + x4_7) := cl_eq (by omega)
              refine dOk_L (fun v_73 ev_73 => ?_)
              try have g_74 : klo (Int32.toNatClampNeg (6 + x4_7)) ≤ Int32.toInt v_73 ∧ Int32.toInt v_73 ≤ khi (Int32.toNatClampNeg (6 + x4_7)) := by rw [ev_73]; exact te_k hT _
              try have f_75 : 0 ≤ Int32.toInt v_73 ∧ Int32.toInt v_73 ≤ 5 := by rw [ev_73]; exact te_2r hT (by omega) (by omega)
              try have f_76 : 0 ≤ Int32.toInt v_73 ∧ Int32.toInt v_73 ≤ 1 := by rw [ev_73]; exact te_2h hT (by omega) (by omega)
              try have f_77 : 0 ≤ Int32.toInt v_73 ∧ Int32.toInt v_73 ≤ 5 := by rw [ev_73]; exact te_2s hT (by omega) (by omega)
              try have f_78 : 0 ≤ Int32.toInt v_73 ∧ Int32.toInt v_73 ≤ 400 := by rw [ev_73]; exact te_2z hT (by omega) (by omega)
              refine dOk_eq (A := Int32.toInt v_73) (B := 0) rfl (by decide) (fun c_79z c_79 => ?_) (fun c_80z c_80 => ?_)
              · unfold zX10_canStay_68
                unfold zX10_canStay_73
                refine dOk_G (dg_ok (show 0 ≤ Int32.toInt (0 + x4_7) by omega) (show Int32.toInt (0 + x4_7) < ((5640 : Nat) : Int) by omega)) ?_
                refine dOk_L (fun v_82 ev_82 => ?_)
                have w_83 : Int32.toInt v_82 = Int32.toInt v_43 := by rw [ev_82, ev_43]
                try have g_84 : klo (Int32.toNatClampNeg (0 + x4_7)) ≤ Int32.toInt v_82 ∧ Int32.toInt v_82 ≤ khi (Int32.toNatClampNeg (0 + x4_7)) := by rw [ev_82]; exact te_k hT _
                try have f_85 : 0 ≤ Int32.toInt v_82 ∧ Int32.toInt v_82 ≤ 5 := by rw [ev_82]; exact te_2r hT (by omega) (by omega)
                try have f_86 : 0 ≤ Int32.toInt v_82 ∧ Int32.toInt v_82 ≤ 1 := by rw [ev_82]; exact te_2h hT (by omega) (by omega)
                try have f_87 : 0 ≤ Int32.toInt v_82 ∧ Int32.toInt v_82 ≤ 5 := by rw [ev_82]; exact te_2s hT (by omega) (by omega)
                try have f_88 : 0 ≤ Int32.toInt v_82 ∧ Int32.toInt v_82 ≤ 400 := by rw [ev_82]; exact te_2z hT (by omega) (by omega)
                unfold zX10_canStay_84
                try have t_89 : Int32.toInt (x4_7 + 1) = Int32.toInt x4_7 + 1 := ti_add rfl (by decide) (by omega) (by omega)
                exact hk_1 (q, p1, v_82, 1, (x4_7 + 1)) (show (q = q) ∧ (p1 = p1) ∧ (0 ≤ Int32.toInt (x4_7 + 1)) ∧ (Int32.toInt (x4_7 + 1) ≤ 6) ∧ ((1 : Int) = 0 ∨ (1 : Int) = 1) from ⟨rfl, rfl, by omega, by omega, by omega⟩) (show (6 - Int32.toInt (x4_7 + 1)).toNat < (6 - Int32.toInt x4_7).toNat by omega)
              · unfold zX10_canStay_72
                unfold zX10_canStay_73
                refine dOk_G (dg_ok (show 0 ≤ Int32.toInt (0 + x4_7) by omega) (show Int32.toInt (0 + x4_7) < ((5640 : Nat) : Int) by omega)) ?_
                refine dOk_L (fun v_90 ev_90 => ?_)
                have w_91 : Int32.toInt v_90 = Int32.toInt v_43 := by rw [ev_90, ev_43]
                try have g_92 : klo (Int32.toNatClampNeg (0 + x4_7)) ≤ Int32.toInt v_90 ∧ Int32.toInt v_90 ≤ khi (Int32.toNatClampNeg (0 + x4_7)) := by rw [ev_90]; exact te_k hT _
                try have f_93 : 0 ≤ Int32.toInt v_90 ∧ Int32.toInt v_90 ≤ 5 := by rw [ev_90]; exact te_2r hT (by omega) (by omega)
                try have f_94 : 0 ≤ Int32.toInt v_90 ∧ Int32.toInt v_90 ≤ 1 := by rw [ev_90]; exact te_2h hT (by omega) (by omega)
                try have f_95 : 0 ≤ Int32.toInt v_90 ∧ Int32.toInt v_90 ≤ 5 := by rw [ev_90]; exact te_2s hT (by omega) (by omega)
                try have f_96 : 0 ≤ Int32.toInt v_90 ∧ Int32.toInt v_90 ≤ 400 := by rw [ev_90]; exact te_2z hT (by omega) (by omega)
                unfold zX10_canStay_84
                try have t_97 : Int32.toInt (x4_7 + 1) = Int32.toInt x4_7 + 1 := ti_add rfl (by decide) (by omega) (by omega)
                exact hk_1 (q, p1, v_90, 0, (x4_7 + 1)) (show (q = q) ∧ (p1 = p1) ∧ (0 ≤ Int32.toInt (x4_7 + 1)) ∧ (Int32.toInt (x4_7 + 1) ≤ 6) ∧ ((0 : Int) = 0 ∨ (0 : Int) = 1) from ⟨rfl, rfl, by omega, by omega, by omega⟩) (show (6 - Int32.toInt (x4_7 + 1)).toNat < (6 - Int32.toInt x4_7).toNat by omega)
  · exact (show (q = q) ∧ (p1 = p1) ∧ (0 ≤ (0 : Int)) ∧ ((0 : Int) ≤ 6) ∧ ((1 : Int) = 0 ∨ (1 : Int) = 1) from ⟨rfl, rfl, by omega, by omega, by omega⟩)
  · show (6 - (0 : Int)).toNat < 1000000000000
    omega

set_option maxHeartbeats 4000000 in
set_option maxRecDepth 100000 in
theorem ok_stays (q : dS) (p1 : Int32) (hT : TS q) : dOk (zX10_stays q p1) (fun (o : Int32 × dS) => (o.2 = q)) := by
  unfold zX10_stays
  refine dOk_V (ok_lies p1 0 1) (fun r_1 h_2 => ?_)
  replace h_2 : ((Int32.toInt r_1 = 1 ∧ (0 : Int) ≤ Int32.toInt p1 ∧ Int32.toInt p1 ≤ (1 : Int)) ∨ (Int32.toInt r_1 = 0 ∧ (Int32.toInt p1 < (0 : Int) ∨ (1 : Int) < Int32.toInt p1))) := h_2
  have i_3 := h_2
  refine dOk_eq (A := Int32.toInt r_1) (B := 0) rfl (by decide) (fun c_4z c_4 => ?_) (fun c_5z c_5 => ?_)
  · exact dOk_some (show (q = q) from rfl)
  · unfold zX10_stays_15
    refine dFix_ok (fun (a : dS × Int32 × Int32 × Int32) => (a.1 = q) ∧ (a.2.1 = p1) ∧ (0 ≤ Int32.toInt a.2.2.2) ∧ (Int32.toInt a.2.2.2 ≤ 64)) (fun (a : dS × Int32 × Int32 × Int32) => (64 - Int32.toInt a.2.2.2).toNat) ?_ _ ?_ _ (dF_gt ?_)
    · intro a ha k_8 hk_7
      obtain ⟨q_9, x1_10, x2_11, x3_12⟩ := a
      replace ha : (q_9 = q) ∧ (x1_10 = p1) ∧ (0 ≤ Int32.toInt x3_12) ∧ (Int32.toInt x3_12 ≤ 64) := ha
      obtain ⟨a_13, a_14, a_15, a_16⟩ := ha
      show dOk (zX10_stays_15b  (fun q x1 x2 x3 => k_8 (q, x1, x2, x3)) q_9 x1_10 x2_11 x3_12) _
      unfold zX10_stays_15b
      subst q_9
      subst x1_10
      refine dOk_B (ok_size q hT) (fun r_17 q_18 h_19 => ?_)
      replace h_19 : (q_18 = q) ∧ (Int32.toInt r_17 = Int32.toInt (q.1 2 29)) ∧ (0 ≤ Int32.toInt r_17 ∧ Int32.toInt r_17 ≤ 6) := h_19
      obtain ⟨i_20, i_21, i_22⟩ := h_19
      subst q_18
      have f_23 : 0 ≤ Int32.toInt (q.1 2 29) ∧ Int32.toInt (q.1 2 29) ≤ 6 := hT.1 2 29
      try have t_24 := ti_shlP (s := r_17) (by omega) (by omega)
      try have t_25 := ti_shl5 (x := 1) (s := r_17) (by decide) (by decide) (by omega) (by omega)
      try have t_26 := ti_shl6 (x := 1) (s := r_17) (by decide) (by decide) (by omega) (by omega)
      refine dOk_le (A := Int32.toInt (1 <<< ((r_17 : Int32) &&& 31))) (B := Int32.toInt x3_12) rfl rfl (fun c_27 => ?_) (fun c_28 => ?_)
      · refine dOk_eq (A := Int32.toInt p1) (B := 0) rfl (by decide) (fun c_29z c_29 => ?_) (fun c_30z c_30 => ?_)
        · refine dOk_V (ok_ones x2_11) (fun r_32 h_33 => ?_)
          replace h_33 : (0 ≤ Int32.toInt r_32 ∧ Int32.toInt r_32 ≤ 7) := h_33
          have i_34 := h_33
          unfold zX10_stays_64
          exact dOk_some (show (q = q) from rfl)
        · unfold zX10_stays_64
          exact dOk_some (show (q = q) from rfl)
      · refine dOk_V (ok_ones x3_12) (fun r_35 h_36 => ?_)
        replace h_36 : (0 ≤ Int32.toInt r_35 ∧ Int32.toInt r_35 ≤ 7) := h_36
        have i_37 := h_36
        refine dOk_V (ok_ones x2_11) (fun r_38 h_39 => ?_)
        replace h_39 : (0 ≤ Int32.toInt r_38 ∧ Int32.toInt r_38 ≤ 7) := h_39
        have i_40 := h_39
        refine dOk_le (A := Int32.toInt r_35) (B := Int32.toInt r_38) rfl rfl (fun c_41 => ?_) (fun c_42 => ?_)
        · unfold zX10_stays_46
          try have t_43 : Int32.toInt (x3_12 + 1) = Int32.toInt x3_12 + 1 := ti_add rfl (by decide) (by omega) (by omega)
          exact hk_7 (q, p1, x2_11, (x3_12 + 1)) (show (q = q) ∧ (p1 = p1) ∧ (0 ≤ Int32.toInt (x3_12 + 1)) ∧ (Int32.toInt (x3_12 + 1) ≤ 64) from ⟨rfl, rfl, by omega, by omega⟩) (show (64 - Int32.toInt (x3_12 + 1)).toNat < (64 - Int32.toInt x3_12).toNat by omega)
        · refine dOk_B (ok_canStay q x3_12 hT) (fun r_44 q_45 h_46 => ?_)
          replace h_46 : (q_45 = q) ∧ ((Int32.toInt r_44 = 0 ∨ Int32.toInt r_44 = 1)) := h_46
          obtain ⟨i_47, i_48⟩ := h_46
          subst q_45
          refine dOk_eq (A := Int32.toInt r_44) (B := 0) rfl (by decide) (fun c_49z c_49 => ?_) (fun c_50z c_50 => ?_)
          · unfold zX10_stays_46
            try have t_52 : Int32.toInt (x3_12 + 1) = Int32.toInt x3_12 + 1 := ti_add rfl (by decide) (by omega) (by omega)
            exact hk_7 (q, p1, x2_11, (x3_12 + 1)) (show (q = q) ∧ (p1 = p1) ∧ (0 ≤ Int32.toInt (x3_12 + 1)) ∧ (Int32.toInt (x3_12 + 1) ≤ 64) from ⟨rfl, rfl, by omega, by omega⟩) (show (64 - Int32.toInt (x3_12 + 1)).toNat < (64 - Int32.toInt x3_12).toNat by omega)
          · unfold zX10_stays_46
            try have t_53 : Int32.toInt (x3_12 + 1) = Int32.toInt x3_12 + 1 := ti_add rfl (by decide) (by omega) (by omega)
            exact hk_7 (q, p1, x3_12, (x3_12 + 1)) (show (q = q) ∧ (p1 = p1) ∧ (0 ≤ Int32.toInt (x3_12 + 1)) ∧ (Int32.toInt (x3_12 + 1) ≤ 64) from ⟨rfl, rfl, by omega, by omega⟩) (show (64 - Int32.toInt (x3_12 + 1)).toNat < (64 - Int32.toInt x3_12).toNat by omega)
    · exact (show (q = q) ∧ (p1 = p1) ∧ (0 ≤ (0 : Int)) ∧ ((0 : Int) ≤ 64) from ⟨rfl, rfl, by omega, by omega⟩)
    · show (64 - (0 : Int)).toNat < 1000000000000
      omega

set_option maxHeartbeats 4000000 in
set_option maxRecDepth 100000 in
theorem ok_seen (q : dS) (p1 : Int32) (p2 : Int32) (hT : TS q) : dOk (zX10_seen q p1 p2) (fun (o : Int32 × dS) => (TS o.2) ∧ (dFr [1, 2] [0] q o.2) ∧ (Int32.toInt (o.2.1 2 31) = Int32.toInt (q.1 2 31)) ∧ (Int32.toInt (o.2.1 2 32) = Int32.toInt (q.1 2 32))) := by
  unfold zX10_seen
  refine dOk_V (ok_isRank p1) (fun r_1 h_2 => ?_)
  replace h_2 : ((Int32.toInt r_1 = 1 ∧ 0 ≤ Int32.toInt p1 ∧ Int32.toInt p1 ≤ 5) ∨ (Int32.toInt r_1 = 0 ∧ (Int32.toInt p1 < 0 ∨ 5 < Int32.toInt p1))) := h_2
  have i_3 := h_2
  refine dOk_eq (A := Int32.toInt r_1) (B := 0) rfl (by decide) (fun c_4z c_4 => ?_) (fun c_5z c_5 => ?_)
  · unfold zX10_seen_14
    refine dOk_B (ok_refuses q (-1) hT (show (-6) ≤ (-1 : Int) by omega) (show (-1 : Int) ≤ 0 by omega)) (fun r_7 q_8 h_9 => ?_)
    replace h_9 : (TS q_8) ∧ (dFr [1] [0] q q_8) ∧ (Int32.toInt r_7 = (-1 : Int)) := h_9
    obtain ⟨i_10, i_11, i_12⟩ := h_9
    have hFq_8 : dFr [1, 2] [0] q q_8 := (dFr.rf (q := q)).t i_11 (by decide) (by decide)
    have f_13 : 0 ≤ Int32.toInt (q_8.1 2 31) ∧ Int32.toInt (q_8.1 2 31) ≤ 6 := i_10.1 2 31
    have f_14 : 0 ≤ Int32.toInt (q.1 2 31) ∧ Int32.toInt (q.1 2 31) ≤ 6 := hT.1 2 31
    have w_15 : Int32.toInt (q_8.1 2 31) = Int32.toInt (q.1 2 31) := by rw [i_11.1 2 (by decide) (by decide)]
    have f_16 : -1 ≤ Int32.toInt (q_8.1 2 32) ∧ Int32.toInt (q_8.1 2 32) ≤ 5 := i_10.1 2 32
    have k_17 : Int32.toInt (q_8.1 2 32) < Int32.toInt (q_8.1 2 31) := i_10.2.1.1
    have f_18 : -1 ≤ Int32.toInt (q.1 2 32) ∧ Int32.toInt (q.1 2 32) ≤ 5 := hT.1 2 32
    have k_19 : Int32.toInt (q.1 2 32) < Int32.toInt (q.1 2 31) := hT.2.1.1
    have w_20 : Int32.toInt (q_8.1 2 32) = Int32.toInt (q.1 2 32) := by rw [i_11.1 2 (by decide) (by decide)]
    exact dOk_some (show (TS q_8) ∧ (dFr [1, 2] [0] q q_8) ∧ (Int32.toInt (q_8.1 2 31) = Int32.toInt (q.1 2 31)) ∧ (Int32.toInt (q_8.1 2 32) = Int32.toInt (q.1 2 32)) from ⟨i_10, hFq_8, by omega, by omega⟩)
  · refine dOk_V (ok_isRank p2) (fun r_21 h_22 => ?_)
    replace h_22 : ((Int32.toInt r_21 = 1 ∧ 0 ≤ Int32.toInt p2 ∧ Int32.toInt p2 ≤ 5) ∨ (Int32.toInt r_21 = 0 ∧ (Int32.toInt p2 < 0 ∨ 5 < Int32.toInt p2))) := h_22
    have i_23 := h_22
    refine dOk_eq (A := Int32.toInt r_21) (B := 0) rfl (by decide) (fun c_24z c_24 => ?_) (fun c_25z c_25 => ?_)
    · unfold zX10_seen_14
      refine dOk_B (ok_refuses q (-1) hT (show (-6) ≤ (-1 : Int) by omega) (show (-1 : Int) ≤ 0 by omega)) (fun r_27 q_28 h_29 => ?_)
      replace h_29 : (TS q_28) ∧ (dFr [1] [0] q q_28) ∧ (Int32.toInt r_27 = (-1 : Int)) := h_29
      obtain ⟨i_30, i_31, i_32⟩ := h_29
      have hFq_28 : dFr [1, 2] [0] q q_28 := (dFr.rf (q := q)).t i_31 (by decide) (by decide)
      have f_33 : 0 ≤ Int32.toInt (q_28.1 2 31) ∧ Int32.toInt (q_28.1 2 31) ≤ 6 := i_30.1 2 31
      have f_34 : 0 ≤ Int32.toInt (q.1 2 31) ∧ Int32.toInt (q.1 2 31) ≤ 6 := hT.1 2 31
      have w_35 : Int32.toInt (q_28.1 2 31) = Int32.toInt (q.1 2 31) := by rw [i_31.1 2 (by decide) (by decide)]
      have f_36 : -1 ≤ Int32.toInt (q_28.1 2 32) ∧ Int32.toInt (q_28.1 2 32) ≤ 5 := i_30.1 2 32
      have k_37 : Int32.toInt (q_28.1 2 32) < Int32.toInt (q_28.1 2 31) := i_30.2.1.1
      have f_38 : -1 ≤ Int32.toInt (q.1 2 32) ∧ Int32.toInt (q.1 2 32) ≤ 5 := hT.1 2 32
      have k_39 : Int32.toInt (q.1 2 32) < Int32.toInt (q.1 2 31) := hT.2.1.1
      have w_40 : Int32.toInt (q_28.1 2 32) = Int32.toInt (q.1 2 32) := by rw [i_31.1 2 (by decide) (by decide)]
      exact dOk_some (show (TS q_28) ∧ (dFr [1, 2] [0] q q_28) ∧ (Int32.toInt (q_28.1 2 31) = Int32.toInt (q.1 2 31)) ∧ (Int32.toInt (q_28.1 2 32) = Int32.toInt (q.1 2 32)) from ⟨i_30, hFq_28, by omega, by omega⟩)
    · have f_41 : 0 ≤ Int32.toInt (q.1 2 30) ∧ Int32.toInt (q.1 2 30) ≤ 6 := hT.1 2 30
      refine dOk_eq (A := Int32.toInt (q.1 2 30)) (B := 6) rfl (by decide) (fun c_42z c_42 => ?_) (fun c_43z c_43 => ?_)
      · refine dOk_B (ok_refuses q (-5) hT (show (-6) ≤ (-5 : Int) by omega) (show (-5 : Int) ≤ 0 by omega)) (fun r_45 q_46 h_47 => ?_)
        replace h_47 : (TS q_46) ∧ (dFr [1] [0] q q_46) ∧ (Int32.toInt r_45 = (-5 : Int)) := h_47
        obtain ⟨i_48, i_49, i_50⟩ := h_47
        have hFq_46 : dFr [1, 2] [0] q q_46 := (dFr.rf (q := q)).t i_49 (by decide) (by decide)
        have f_51 : 0 ≤ Int32.toInt (q_46.1 2 31) ∧ Int32.toInt (q_46.1 2 31) ≤ 6 := i_48.1 2 31
        have f_52 : 0 ≤ Int32.toInt (q.1 2 31) ∧ Int32.toInt (q.1 2 31) ≤ 6 := hT.1 2 31
        have w_53 : Int32.toInt (q_46.1 2 31) = Int32.toInt (q.1 2 31) := by rw [i_49.1 2 (by decide) (by decide)]
        have f_54 : -1 ≤ Int32.toInt (q_46.1 2 32) ∧ Int32.toInt (q_46.1 2 32) ≤ 5 := i_48.1 2 32
        have k_55 : Int32.toInt (q_46.1 2 32) < Int32.toInt (q_46.1 2 31) := i_48.2.1.1
        have f_56 : -1 ≤ Int32.toInt (q.1 2 32) ∧ Int32.toInt (q.1 2 32) ≤ 5 := hT.1 2 32
        have k_57 : Int32.toInt (q.1 2 32) < Int32.toInt (q.1 2 31) := hT.2.1.1
        have w_58 : Int32.toInt (q_46.1 2 32) = Int32.toInt (q.1 2 32) := by rw [i_49.1 2 (by decide) (by decide)]
        exact dOk_some (show (TS q_46) ∧ (dFr [1, 2] [0] q q_46) ∧ (Int32.toInt (q_46.1 2 31) = Int32.toInt (q.1 2 31)) ∧ (Int32.toInt (q_46.1 2 32) = Int32.toInt (q.1 2 32)) from ⟨i_48, hFq_46, by omega, by omega⟩)
      · try have t_59 : Int32.toInt (2 * q.1 2 30) = 2 * Int32.toInt (q.1 2 30) := ti_mul (by decide) rfl (by omega) (by omega)
        try have t_60 : Int32.toInt (14 + 2 * q.1 2 30) = 14 + Int32.toInt (2 * q.1 2 30) := ti_add (by decide) rfl (by omega) (by omega)
        refine dOk_G (dg_ok (show 0 ≤ Int32.toInt (14 + 2 * q.1 2 30) by omega) (show Int32.toInt (14 + 2 * q.1 2 30) < ((5640 : Nat) : Int) by omega)) ?_
        have n_61 : ((Int32.toNatClampNeg (14 + 2 * q.1 2 30) : Nat) : Int) = Int32.toInt (14 + 2 * q.1 2 30) := cl_eq (by omega)
        refine dOk_L (fun q_62 eq_62 => ?_)
        have hTq_62 : TS q_62 := by rw [eq_62]; exact ts_set2 hT (by omega) (show klo (Int32.toNatClampNeg (14 + 2 * q.1 2 30)) ≤ Int32.toInt p1 by unfold klo; omega) (show Int32.toInt p1 ≤ khi (Int32.toNatClampNeg (14 + 2 * q.1 2 30)) by unfold khi; omega)
        have hFq_62 : dFr [1, 2] [0] q q_62 := by rw [eq_62]; exact (dFr.rf (q := q)).i (by decide) (by decide)
        try have t_63 : Int32.toInt (14 + 2 * q.1 2 30 + 1) = Int32.toInt (14 + 2 * q.1 2 30) + 1 := ti_add rfl (by decide) (by omega) (by omega)
        refine dOk_G (dg_ok (show 0 ≤ Int32.toInt (14 + 2 * q.1 2 30 + 1) by omega) (show Int32.toInt (14 + 2 * q.1 2 30 + 1) < ((5640 : Nat) : Int) by omega)) ?_
        have n_64 : ((Int32.toNatClampNeg (14 + 2 * q.1 2 30 + 1) : Nat) : Int) = Int32.toInt (14 + 2 * q.1 2 30 + 1) := cl_eq (by omega)
        refine dOk_L (fun q_65 eq_65 => ?_)
        have hTq_65 : TS q_65 := by rw [eq_65]; exact ts_set2 hTq_62 (by omega) (show klo (Int32.toNatClampNeg (14 + 2 * q.1 2 30 + 1)) ≤ Int32.toInt p2 by unfold klo; omega) (show Int32.toInt p2 ≤ khi (Int32.toNatClampNeg (14 + 2 * q.1 2 30 + 1)) by unfold khi; omega)
        have hFq_65 : dFr [1, 2] [0] q q_65 := by rw [eq_65]; exact hFq_62.i (by decide) (by decide)
        refine dOk_L (fun q_66 eq_66 => ?_)
        have f_67 : 0 ≤ Int32.toInt (q_65.1 2 30) ∧ Int32.toInt (q_65.1 2 30) ≤ 6 := hTq_65.1 2 30
        have f_68 : 0 ≤ Int32.toInt (q_62.1 2 30) ∧ Int32.toInt (q_62.1 2 30) ≤ 6 := hTq_62.1 2 30
        try have w_69 : Int32.toInt (q_62.1 2 30) = Int32.toInt (q.1 2 30) := by rw [eq_62, dui_n (by omega)]
        try have w_70 : Int32.toInt (q_65.1 2 30) = Int32.toInt (q_62.1 2 30) := by rw [eq_65, dui_n (by omega)]
        try have t_71 : Int32.toInt (q_65.1 2 30 + 1) = Int32.toInt (q_65.1 2 30) + 1 := ti_add rfl (by decide) (by omega) (by omega)
        have hTq_66 : TS q_66 := by rw [eq_66]; exact ts_set2 hTq_65 (by omega) (show klo (30) ≤ Int32.toInt (q_65.1 2 30 + 1) by unfold klo; omega) (show Int32.toInt (q_65.1 2 30 + 1) ≤ khi (30) by unfold khi; omega)
        have hFq_66 : dFr [1, 2] [0] q q_66 := by rw [eq_66]; exact hFq_65.i (by decide) (by decide)
        have f_72 : 0 ≤ Int32.toInt (q_66.1 2 30) ∧ Int32.toInt (q_66.1 2 30) ≤ 6 := hTq_66.1 2 30
        have w_73 : Int32.toInt (q_66.1 2 30) = Int32.toInt (q_65.1 2 30 + 1) := by rw [eq_66, dui_e]
        refine dOk_B (ok_good q_66 (q_66.1 2 30) hTq_66) (fun r_74 q_75 h_76 => ?_)
        replace h_76 : (TS q_75) ∧ (dFr [] [0] q_66 q_75) ∧ (Int32.toInt r_74 = Int32.toInt (q_66.1 2 30)) := h_76
        obtain ⟨i_77, i_78, i_79⟩ := h_76
        have hFq_75 : dFr [1, 2] [0] q q_75 := hFq_66.t i_78 (by decide) (by decide)
        have f_80 : 0 ≤ Int32.toInt (q_75.1 2 31) ∧ Int32.toInt (q_75.1 2 31) ≤ 6 := i_77.1 2 31
        have f_81 : 0 ≤ Int32.toInt (q_66.1 2 31) ∧ Int32.toInt (q_66.1 2 31) ≤ 6 := hTq_66.1 2 31
        have f_82 : 0 ≤ Int32.toInt (q_65.1 2 31) ∧ Int32.toInt (q_65.1 2 31) ≤ 6 := hTq_65.1 2 31
        have f_83 : 0 ≤ Int32.toInt (q_62.1 2 31) ∧ Int32.toInt (q_62.1 2 31) ≤ 6 := hTq_62.1 2 31
        have f_84 : 0 ≤ Int32.toInt (q.1 2 31) ∧ Int32.toInt (q.1 2 31) ≤ 6 := hT.1 2 31
        try have w_85 : Int32.toInt (q_62.1 2 31) = Int32.toInt (q.1 2 31) := by rw [eq_62, dui_n (by omega)]
        try have w_86 : Int32.toInt (q_65.1 2 31) = Int32.toInt (q_62.1 2 31) := by rw [eq_65, dui_n (by omega)]
        have w_87 : Int32.toInt (q_66.1 2 31) = Int32.toInt (q_65.1 2 31) := by rw [eq_66, dui_n (by decide)]
        have w_88 : Int32.toInt (q_75.1 2 31) = Int32.toInt (q_66.1 2 31) := by rw [i_78.1 2 (by decide) (by decide)]
        have f_89 : -1 ≤ Int32.toInt (q_75.1 2 32) ∧ Int32.toInt (q_75.1 2 32) ≤ 5 := i_77.1 2 32
        have k_90 : Int32.toInt (q_75.1 2 32) < Int32.toInt (q_75.1 2 31) := i_77.2.1.1
        have f_91 : -1 ≤ Int32.toInt (q_66.1 2 32) ∧ Int32.toInt (q_66.1 2 32) ≤ 5 := hTq_66.1 2 32
        have k_92 : Int32.toInt (q_66.1 2 32) < Int32.toInt (q_66.1 2 31) := hTq_66.2.1.1
        have f_93 : -1 ≤ Int32.toInt (q_65.1 2 32) ∧ Int32.toInt (q_65.1 2 32) ≤ 5 := hTq_65.1 2 32
        have k_94 : Int32.toInt (q_65.1 2 32) < Int32.toInt (q_65.1 2 31) := hTq_65.2.1.1
        have f_95 : -1 ≤ Int32.toInt (q_62.1 2 32) ∧ Int32.toInt (q_62.1 2 32) ≤ 5 := hTq_62.1 2 32
        have k_96 : Int32.toInt (q_62.1 2 32) < Int32.toInt (q_62.1 2 31) := hTq_62.2.1.1
        have f_97 : -1 ≤ Int32.toInt (q.1 2 32) ∧ Int32.toInt (q.1 2 32) ≤ 5 := hT.1 2 32
        have k_98 : Int32.toInt (q.1 2 32) < Int32.toInt (q.1 2 31) := hT.2.1.1
        try have w_99 : Int32.toInt (q_62.1 2 32) = Int32.toInt (q.1 2 32) := by rw [eq_62, dui_n (by omega)]
        try have w_100 : Int32.toInt (q_65.1 2 32) = Int32.toInt (q_62.1 2 32) := by rw [eq_65, dui_n (by omega)]
        have w_101 : Int32.toInt (q_66.1 2 32) = Int32.toInt (q_65.1 2 32) := by rw [eq_66, dui_n (by decide)]
        have w_102 : Int32.toInt (q_75.1 2 32) = Int32.toInt (q_66.1 2 32) := by rw [i_78.1 2 (by decide) (by decide)]
        exact dOk_some (show (TS q_75) ∧ (dFr [1, 2] [0] q q_75) ∧ (Int32.toInt (q_75.1 2 31) = Int32.toInt (q.1 2 31)) ∧ (Int32.toInt (q_75.1 2 32) = Int32.toInt (q.1 2 32)) from ⟨i_77, hFq_75, by omega, by omega⟩)

set_option maxHeartbeats 4000000 in
set_option maxRecDepth 100000 in
theorem ok_forget (q : dS) (hT : TS q) : dOk (zX10_forget q) (fun (o : Int32 × dS) => (TS o.2) ∧ (dFr [2] [] q o.2) ∧ (Int32.toInt (o.2.1 2 31) = Int32.toInt (q.1 2 31)) ∧ (Int32.toInt (o.2.1 2 32) = Int32.toInt (q.1 2 32))) := by
  unfold zX10_forget
  refine dOk_L (fun q_1 eq_1 => ?_)
  have hTq_1 : TS q_1 := by rw [eq_1]; exact ts_set2 hT (by omega) (show klo (30) ≤ (0 : Int) by unfold klo; omega) (show (0 : Int) ≤ khi (30) by unfold khi; omega)
  have hFq_1 : dFr [2] [] q q_1 := by rw [eq_1]; exact (dFr.rf (q := q)).i (by decide) (by decide)
  have f_2 : 0 ≤ Int32.toInt (q.1 2 30) ∧ Int32.toInt (q.1 2 30) ≤ 6 := hT.1 2 30
  have f_3 : 0 ≤ Int32.toInt (q_1.1 2 31) ∧ Int32.toInt (q_1.1 2 31) ≤ 6 := hTq_1.1 2 31
  have f_4 : 0 ≤ Int32.toInt (q.1 2 31) ∧ Int32.toInt (q.1 2 31) ≤ 6 := hT.1 2 31
  have w_5 : Int32.toInt (q_1.1 2 31) = Int32.toInt (q.1 2 31) := by rw [eq_1, dui_n (by decide)]
  have f_6 : -1 ≤ Int32.toInt (q_1.1 2 32) ∧ Int32.toInt (q_1.1 2 32) ≤ 5 := hTq_1.1 2 32
  have k_7 : Int32.toInt (q_1.1 2 32) < Int32.toInt (q_1.1 2 31) := hTq_1.2.1.1
  have f_8 : -1 ≤ Int32.toInt (q.1 2 32) ∧ Int32.toInt (q.1 2 32) ≤ 5 := hT.1 2 32
  have k_9 : Int32.toInt (q.1 2 32) < Int32.toInt (q.1 2 31) := hT.2.1.1
  have w_10 : Int32.toInt (q_1.1 2 32) = Int32.toInt (q.1 2 32) := by rw [eq_1, dui_n (by decide)]
  exact dOk_some (show (TS q_1) ∧ (dFr [2] [] q q_1) ∧ (Int32.toInt (q_1.1 2 31) = Int32.toInt (q.1 2 31)) ∧ (Int32.toInt (q_1.1 2 32) = Int32.toInt (q.1 2 32)) from ⟨hTq_1, hFq_1, by omega, by omega⟩)

set_option maxHeartbeats 4000000 in
set_option maxRecDepth 100000 in
theorem ok_rankBehind (q : dS) (p1 : Int32) (p2 : Int32) (hT : TS q) (hp0 : 1 ≤ Int32.toInt p1 ∧ Int32.toInt p1 ≤ Int32.toInt (q.1 2 29)) : dOk (zX10_rankBehind q p1 p2) (fun (o : Int32 × dS) => (o.2 = q) ∧ ((0 ≤ Int32.toInt p2 ∧ Int32.toInt p2 < Int32.toInt (q.1 2 29) ∧ 0 ≤ Int32.toInt o.1 ∧ Int32.toInt o.1 ≤ 5) ∨ ((Int32.toInt p2 < 0 ∨ Int32.toInt (q.1 2 29) ≤ Int32.toInt p2) ∧ Int32.toInt o.1 = -1))) := by
  unfold zX10_rankBehind
  refine dOk_B (ok_isPlace q p2 hT) (fun r_1 q_2 h_3 => ?_)
  replace h_3 : (q_2 = q) ∧ ((Int32.toInt r_1 = 1 ∧ 0 ≤ Int32.toInt p2 ∧ Int32.toInt p2 < Int32.toInt (q.1 2 29)) ∨ (Int32.toInt r_1 = 0 ∧ (Int32.toInt p2 < 0 ∨ Int32.toInt (q.1 2 29) ≤ Int32.toInt p2))) := h_3
  obtain ⟨i_4, i_5⟩ := h_3
  subst q_2
  have f_6 : 0 ≤ Int32.toInt (q.1 2 29) ∧ Int32.toInt (q.1 2 29) ≤ 6 := hT.1 2 29
  refine dOk_eq (A := Int32.toInt r_1) (B := 0) rfl (by decide) (fun c_7z c_7 => ?_) (fun c_8z c_8 => ?_)
  · unfold zX10_rankBehind_33
    exact dOk_some (show (q = q) ∧ ((0 ≤ Int32.toInt p2 ∧ Int32.toInt p2 < Int32.toInt (q.1 2 29) ∧ 0 ≤ (-1 : Int) ∧ (-1 : Int) ≤ 5) ∨ ((Int32.toInt p2 < 0 ∨ Int32.toInt (q.1 2 29) ≤ Int32.toInt p2) ∧ (-1 : Int) = -1)) from ⟨rfl, by omega⟩)
  · refine dOk_le (A := Int32.toInt p1) (B := Int32.toInt p2) rfl rfl (fun c_10 => ?_) (fun c_11 => ?_)
    · unfold zX10_rankBehind_31
      try have t_12 : Int32.toInt (0 + p2) = 0 + Int32.toInt p2 := ti_add (by decide) rfl (by omega) (by omega)
      refine dOk_G (dg_ok (show 0 ≤ Int32.toInt (0 + p2) by omega) (show Int32.toInt (0 + p2) < ((5640 : Nat) : Int) by omega)) ?_
      have n_13 : ((Int32.toNatClampNeg (0 + p2) : Nat) : Int) = Int32.toInt (0 + p2) := cl_eq (by omega)
      refine dOk_L (fun v_14 ev_14 => ?_)
      try have g_15 : klo (Int32.toNatClampNeg (0 + p2)) ≤ Int32.toInt v_14 ∧ Int32.toInt v_14 ≤ khi (Int32.toNatClampNeg (0 + p2)) := by rw [ev_14]; exact te_k hT _
      try have f_16 : 0 ≤ Int32.toInt v_14 ∧ Int32.toInt v_14 ≤ 5 := by rw [ev_14]; exact te_2r hT (by omega) (by omega)
      try have f_17 : 0 ≤ Int32.toInt v_14 ∧ Int32.toInt v_14 ≤ 1 := by rw [ev_14]; exact te_2h hT (by omega) (by omega)
      try have f_18 : 0 ≤ Int32.toInt v_14 ∧ Int32.toInt v_14 ≤ 5 := by rw [ev_14]; exact te_2s hT (by omega) (by omega)
      try have f_19 : 0 ≤ Int32.toInt v_14 ∧ Int32.toInt v_14 ≤ 400 := by rw [ev_14]; exact te_2z hT (by omega) (by omega)
      unfold zX10_rankBehind_33
      exact dOk_some (show (q = q) ∧ ((0 ≤ Int32.toInt p2 ∧ Int32.toInt p2 < Int32.toInt (q.1 2 29) ∧ 0 ≤ Int32.toInt v_14 ∧ Int32.toInt v_14 ≤ 5) ∨ ((Int32.toInt p2 < 0 ∨ Int32.toInt (q.1 2 29) ≤ Int32.toInt p2) ∧ Int32.toInt v_14 = -1)) from ⟨rfl, by omega⟩)
    · unfold zX10_rankBehind_31
      try have t_20 : Int32.toInt (p1 - 1) = Int32.toInt p1 - 1 := ti_sub rfl (by decide) (by omega) (by omega)
      try have t_21 : Int32.toInt (p1 - 1 - p2) = Int32.toInt (p1 - 1) - Int32.toInt p2 := ti_sub rfl rfl (by omega) (by omega)
      try have t_22 : Int32.toInt (0 + (p1 - 1 - p2)) = 0 + Int32.toInt (p1 - 1 - p2) := ti_add (by decide) rfl (by omega) (by omega)
      refine dOk_G (dg_ok (show 0 ≤ Int32.toInt (0 + (p1 - 1 - p2)) by omega) (show Int32.toInt (0 + (p1 - 1 - p2)) < ((5640 : Nat) : Int) by omega)) ?_
      have n_23 : ((Int32.toNatClampNeg (0 + (p1 - 1 - p2)) : Nat) : Int) = Int32.toInt (0 + (p1 - 1 - p2)) := cl_eq (by omega)
      refine dOk_L (fun v_24 ev_24 => ?_)
      try have g_25 : klo (Int32.toNatClampNeg (0 + (p1 - 1 - p2))) ≤ Int32.toInt v_24 ∧ Int32.toInt v_24 ≤ khi (Int32.toNatClampNeg (0 + (p1 - 1 - p2))) := by rw [ev_24]; exact te_k hT _
      try have f_26 : 0 ≤ Int32.toInt v_24 ∧ Int32.toInt v_24 ≤ 5 := by rw [ev_24]; exact te_2r hT (by omega) (by omega)
      try have f_27 : 0 ≤ Int32.toInt v_24 ∧ Int32.toInt v_24 ≤ 1 := by rw [ev_24]; exact te_2h hT (by omega) (by omega)
      try have f_28 : 0 ≤ Int32.toInt v_24 ∧ Int32.toInt v_24 ≤ 5 := by rw [ev_24]; exact te_2s hT (by omega) (by omega)
      try have f_29 : 0 ≤ Int32.toInt v_24 ∧ Int32.toInt v_24 ≤ 400 := by rw [ev_24]; exact te_2z hT (by omega) (by omega)
      unfold zX10_rankBehind_33
      exact dOk_some (show (q = q) ∧ ((0 ≤ Int32.toInt p2 ∧ Int32.toInt p2 < Int32.toInt (q.1 2 29) ∧ 0 ≤ Int32.toInt v_24 ∧ Int32.toInt v_24 ≤ 5) ∨ ((Int32.toInt p2 < 0 ∨ Int32.toInt (q.1 2 29) ≤ Int32.toInt p2) ∧ Int32.toInt v_24 = -1)) from ⟨rfl, by omega⟩)
end
section
set_option maxHeartbeats 4000000 in
set_option maxRecDepth 100000 in
theorem ok_mostAlike (q : dS) (p1 : Int32) (p2 : Int32) (hT : TS q) (hp0 : 0 ≤ Int32.toInt p2 ∧ Int32.toInt p2 < Int32.toInt (q.1 2 29)) : dOk (zX10_mostAlike q p1 p2) (fun (o : Int32 × dS) => (TS o.2) ∧ (dFr [25] [] q o.2)) := by
  unfold zX10_mostAlike
  unfold zX10_mostAlike_2
  refine dFix_ok (fun (a : dS × Int32 × Int32 × Int32) => (TS a.1) ∧ (dFr [25] [] q a.1) ∧ (a.2.1 = p1) ∧ (a.2.2.1 = p2) ∧ (0 ≤ Int32.toInt a.2.2.2) ∧ (Int32.toInt a.2.2.2 ≤ 6)) (fun (a : dS × Int32 × Int32 × Int32) => (6 - Int32.toInt a.2.2.2).toNat) ?_ _ ?_ _ (dF_gt ?_)
  · intro a ha k_2 hk_1
    obtain ⟨q_3, x1_4, x2_5, x3_6⟩ := a
    replace ha : (TS q_3) ∧ (dFr [25] [] q q_3) ∧ (x1_4 = p1) ∧ (x2_5 = p2) ∧ (0 ≤ Int32.toInt x3_6) ∧ (Int32.toInt x3_6 ≤ 6) := ha
    obtain ⟨a_7, a_8, a_9, a_10, a_11, a_12⟩ := ha
    show dOk (zX10_mostAlike_2b  (fun q x1 x2 x3 => k_2 (q, x1, x2, x3)) q_3 x1_4 x2_5 x3_6) _
    unfold zX10_mostAlike_2b
    have hFq_3 : dFr [25] [] q q_3 := (dFr.rf (q := q)).t a_8 (by decide) (by decide)
    subst x1_4
    subst x2_5
    refine dOk_le (A := 6) (B := Int32.toInt x3_6) (by decide) rfl (fun c_13 => ?_) (fun c_14 => ?_)
    · unfold zX10_mostAlike_26
      refine dFix_ok (fun (a : dS × Int32 × Int32 × Int32 × Int32) => (TS a.1) ∧ (dFr [25] [] q_3 a.1) ∧ (a.2.1 = p1) ∧ (a.2.2.1 = p2) ∧ (1 ≤ Int32.toInt a.2.2.2.2) ∧ (Int32.toInt a.2.2.2.2 ≤ 7)) (fun (a : dS × Int32 × Int32 × Int32 × Int32) => (7 - Int32.toInt a.2.2.2.2).toNat) ?_ _ ?_ _ (dF_gt ?_)
      · intro a ha k_16 hk_15
        obtain ⟨q_17, x1_18, x2_19, x3_20, x4_21⟩ := a
        replace ha : (TS q_17) ∧ (dFr [25] [] q_3 q_17) ∧ (x1_18 = p1) ∧ (x2_19 = p2) ∧ (1 ≤ Int32.toInt x4_21) ∧ (Int32.toInt x4_21 ≤ 7) := ha
        obtain ⟨a_22, a_23, a_24, a_25, a_26, a_27⟩ := ha
        show dOk (zX10_mostAlike_26b  (fun q x1 x2 x3 x4 => k_16 (q, x1, x2, x3, x4)) q_17 x1_18 x2_19 x3_20 x4_21) _
        unfold zX10_mostAlike_26b
        have hFq_17 : dFr [25] [] q q_17 := hFq_3.t a_23 (by decide) (by decide)
        subst x1_18
        subst x2_19
        refine dOk_B (ok_size q_17 a_22) (fun r_28 q_29 h_30 => ?_)
        replace h_30 : (q_29 = q_17) ∧ (Int32.toInt r_28 = Int32.toInt (q_17.1 2 29)) ∧ (0 ≤ Int32.toInt r_28 ∧ Int32.toInt r_28 ≤ 6) := h_30
        obtain ⟨i_31, i_32, i_33⟩ := h_30
        subst q_29
        have f_34 : 0 ≤ Int32.toInt (q_17.1 2 29) ∧ Int32.toInt (q_17.1 2 29) ≤ 6 := a_22.1 2 29
        have f_35 : 0 ≤ Int32.toInt (q_3.1 2 29) ∧ Int32.toInt (q_3.1 2 29) ≤ 6 := a_7.1 2 29
        have f_36 : 0 ≤ Int32.toInt (q.1 2 29) ∧ Int32.toInt (q.1 2 29) ≤ 6 := hT.1 2 29
        have w_37 : Int32.toInt (q_3.1 2 29) = Int32.toInt (q.1 2 29) := by rw [a_8.1 2 (by decide) (by decide)]
        have w_38 : Int32.toInt (q_17.1 2 29) = Int32.toInt (q_3.1 2 29) := by rw [a_23.1 2 (by decide) (by decide)]
        refine dOk_lt (A := Int32.toInt r_28) (B := Int32.toInt x4_21) rfl rfl (fun c_39 => ?_) (fun c_40 => ?_)
        · exact dOk_some (show (TS q_17) ∧ (dFr [25] [] q q_17) from ⟨a_22, hFq_17⟩)
        · refine dOk_V (ok_isIn p1 x4_21) (fun r_41 h_42 => ?_)
          replace h_42 : ((Int32.toInt r_41 = 0 ∨ Int32.toInt r_41 = 1)) := h_42
          have i_43 := h_42
          refine dOk_eq (A := Int32.toInt r_41) (B := 0) rfl (by decide) (fun c_44z c_44 => ?_) (fun c_45z c_45 => ?_)
          · unfold zX10_mostAlike_79
            try have t_47 : Int32.toInt (x4_21 + 1) = Int32.toInt x4_21 + 1 := ti_add rfl (by decide) (by omega) (by omega)
            exact hk_15 (q_17, p1, p2, x3_20, (x4_21 + 1)) (show (TS q_17) ∧ (dFr [25] [] q_3 q_17) ∧ (p1 = p1) ∧ (p2 = p2) ∧ (1 ≤ Int32.toInt (x4_21 + 1)) ∧ (Int32.toInt (x4_21 + 1) ≤ 7) from ⟨a_22, ((dFr.rf : dFr [25] [] q_3 q_3).t a_23 (by decide) (by decide)), rfl, rfl, by omega, by omega⟩) (show (7 - Int32.toInt (x4_21 + 1)).toNat < (7 - Int32.toInt x4_21).toNat by omega)
          · refine dOk_B (ok_rankBehind q_17 x4_21 p2 a_22 (show 1 ≤ Int32.toInt x4_21 ∧ Int32.toInt x4_21 ≤ Int32.toInt (q_17.1 2 29) by omega)) (fun r_48 q_49 h_50 => ?_)
            replace h_50 : (q_49 = q_17) ∧ ((0 ≤ Int32.toInt p2 ∧ Int32.toInt p2 < Int32.toInt (q_17.1 2 29) ∧ 0 ≤ Int32.toInt r_48 ∧ Int32.toInt r_48 ≤ 5) ∨ ((Int32.toInt p2 < 0 ∨ Int32.toInt (q_17.1 2 29) ≤ Int32.toInt p2) ∧ Int32.toInt r_48 = -1)) := h_50
            obtain ⟨i_51, i_52⟩ := h_50
            subst q_49
            refine dOk_G (dg_ok (show 0 ≤ Int32.toInt r_48 by omega) (show Int32.toInt r_48 < ((6 : Nat) : Int) by omega)) ?_
            have n_53 : ((Int32.toNatClampNeg r_48 : Nat) : Int) = Int32.toInt r_48 := cl_eq (by omega)
            refine dOk_L (fun v_54 ev_54 => ?_)
            refine dOk_G (dg_ok (show 0 ≤ Int32.toInt r_48 by omega) (show Int32.toInt r_48 < ((6 : Nat) : Int) by omega)) ?_
            refine dOk_L (fun q_55 eq_55 => ?_)
            have hTq_55 : TS q_55 := by rw [eq_55]; exact ts_any a_22 rfl
            have hFq_55 : dFr [25] [] q q_55 := by rw [eq_55]; exact hFq_17.i (by decide) (by decide)
            refine dOk_G (dg_ok (show 0 ≤ Int32.toInt r_48 by omega) (show Int32.toInt r_48 < ((6 : Nat) : Int) by omega)) ?_
            refine dOk_L (fun v_56 ev_56 => ?_)
            refine dOk_V (ok_greater x3_20 v_56) (fun r_57 h_58 => ?_)
            replace h_58 : (Int32.toInt x3_20 ≤ Int32.toInt r_57 ∧ Int32.toInt v_56 ≤ Int32.toInt r_57 ∧ (Int32.toInt r_57 = Int32.toInt x3_20 ∨ Int32.toInt r_57 = Int32.toInt v_56)) := h_58
            have i_59 := h_58
            unfold zX10_mostAlike_79
            try have t_60 : Int32.toInt (x4_21 + 1) = Int32.toInt x4_21 + 1 := ti_add rfl (by decide) (by omega) (by omega)
            exact hk_15 (q_55, p1, p2, r_57, (x4_21 + 1)) (show (TS q_55) ∧ (dFr [25] [] q_3 q_55) ∧ (p1 = p1) ∧ (p2 = p2) ∧ (1 ≤ Int32.toInt (x4_21 + 1)) ∧ (Int32.toInt (x4_21 + 1) ≤ 7) from ⟨hTq_55, (by rw [eq_55]; exact (((dFr.rf : dFr [25] [] q_3 q_3).t a_23 (by decide) (by decide)) : dFr [25] [] q_3 q_17).i (by decide) (by decide)), rfl, rfl, by omega, by omega⟩) (show (7 - Int32.toInt (x4_21 + 1)).toNat < (7 - Int32.toInt x4_21).toNat by omega)
      · exact (show (TS q_3) ∧ (dFr [25] [] q_3 q_3) ∧ (p1 = p1) ∧ (p2 = p2) ∧ (1 ≤ (1 : Int)) ∧ ((1 : Int) ≤ 7) from ⟨a_7, dFr.rf, rfl, rfl, by omega, by omega⟩)
      · show (7 - (1 : Int)).toNat < 1000000000000
        omega
    · refine dOk_G (dg_ok (show 0 ≤ Int32.toInt x3_6 by omega) (show Int32.toInt x3_6 < ((6 : Nat) : Int) by omega)) ?_
      have n_61 : ((Int32.toNatClampNeg x3_6 : Nat) : Int) = Int32.toInt x3_6 := cl_eq (by omega)
      refine dOk_L (fun q_62 eq_62 => ?_)
      have hTq_62 : TS q_62 := by rw [eq_62]; exact ts_any a_7 rfl
      have hFq_62 : dFr [25] [] q q_62 := by rw [eq_62]; exact hFq_3.i (by decide) (by decide)
      try have t_63 : Int32.toInt (x3_6 + 1) = Int32.toInt x3_6 + 1 := ti_add rfl (by decide) (by omega) (by omega)
      exact hk_1 (q_62, p1, p2, (x3_6 + 1)) (show (TS q_62) ∧ (dFr [25] [] q q_62) ∧ (p1 = p1) ∧ (p2 = p2) ∧ (0 ≤ Int32.toInt (x3_6 + 1)) ∧ (Int32.toInt (x3_6 + 1) ≤ 6) from ⟨hTq_62, (by rw [eq_62]; exact (((dFr.rf : dFr [25] [] q q).t a_8 (by decide) (by decide)) : dFr [25] [] q q_3).i (by decide) (by decide)), rfl, rfl, by omega, by omega⟩) (show (6 - Int32.toInt (x3_6 + 1)).toNat < (6 - Int32.toInt x3_6).toNat by omega)
  · exact (show (TS q) ∧ (dFr [25] [] q q) ∧ (p1 = p1) ∧ (p2 = p2) ∧ (0 ≤ (0 : Int)) ∧ ((0 : Int) ≤ 6) from ⟨hT, dFr.rf, rfl, rfl, by omega, by omega⟩)
  · show (6 - (0 : Int)).toNat < 1000000000000
    omega

set_option maxHeartbeats 4000000 in
set_option maxRecDepth 100000 in
theorem ok_few (q : dS) (p1 : Int32) (p2 : Int32) (hT : TS q) : dOk (zX10_few q p1 p2) (fun (o : Int64 × dS) => (TS o.2) ∧ (dFr [] [] q o.2)) := by
  unfold zX10_few
  refine dOk_V (ok_lies p1 1 20) (fun r_1 h_2 => ?_)
  replace h_2 : ((Int32.toInt r_1 = 1 ∧ (1 : Int) ≤ Int32.toInt p1 ∧ Int32.toInt p1 ≤ (20 : Int)) ∨ (Int32.toInt r_1 = 0 ∧ (Int32.toInt p1 < (1 : Int) ∨ (20 : Int) < Int32.toInt p1))) := h_2
  have i_3 := h_2
  refine dOk_eq (A := Int32.toInt r_1) (B := 0) rfl (by decide) (fun c_4z c_4 => ?_) (fun c_5z c_5 => ?_)
  · unfold zX10_few_20
    exact dOk_some (show (TS q) ∧ (dFr [] [] q q) from ⟨hT, (dFr.rf (q := q))⟩)
  · refine dOk_V (ok_lies p2 0 99) (fun r_7 h_8 => ?_)
    replace h_8 : ((Int32.toInt r_7 = 1 ∧ (0 : Int) ≤ Int32.toInt p2 ∧ Int32.toInt p2 ≤ (99 : Int)) ∨ (Int32.toInt r_7 = 0 ∧ (Int32.toInt p2 < (0 : Int) ∨ (99 : Int) < Int32.toInt p2))) := h_8
    have i_9 := h_8
    refine dOk_eq (A := Int32.toInt r_7) (B := 0) rfl (by decide) (fun c_10z c_10 => ?_) (fun c_11z c_11 => ?_)
    · unfold zX10_few_20
      exact dOk_some (show (TS q) ∧ (dFr [] [] q q) from ⟨hT, (dFr.rf (q := q))⟩)
    · unfold zX10_few_26
      refine dFix_ok (fun (a : dS × Int32 × Int32 × Int32) => (TS a.1) ∧ (dFr [] [] q a.1) ∧ (a.2.1 = p1) ∧ (a.2.2.1 = p2) ∧ (0 ≤ Int32.toInt a.2.2.2) ∧ (Int32.toInt a.2.2.2 ≤ 21)) (fun (a : dS × Int32 × Int32 × Int32) => (21 - Int32.toInt a.2.2.2).toNat) ?_ _ ?_ _ (dF_gt ?_)
      · intro a ha k_14 hk_13
        obtain ⟨q_15, x1_16, x2_17, x3_18⟩ := a
        replace ha : (TS q_15) ∧ (dFr [] [] q q_15) ∧ (x1_16 = p1) ∧ (x2_17 = p2) ∧ (0 ≤ Int32.toInt x3_18) ∧ (Int32.toInt x3_18 ≤ 21) := ha
        obtain ⟨a_19, a_20, a_21, a_22, a_23, a_24⟩ := ha
        show dOk (zX10_few_26b  (fun q x1 x2 x3 => k_14 (q, x1, x2, x3)) q_15 x1_16 x2_17 x3_18) _
        unfold zX10_few_26b
        have hFq_15 : dFr [] [] q q_15 := (dFr.rf (q := q)).t a_20 (by decide) (by decide)
        subst x1_16
        subst x2_17
        refine dOk_lt (A := 20) (B := Int32.toInt x3_18) (by decide) rfl (fun c_25 => ?_) (fun c_26 => ?_)
        · unfold zX10_few_57
          refine dFix_ok (fun (a : dS × Int32 × Int32 × Int32) => (TS a.1) ∧ (dFr [] [] q_15 a.1) ∧ (a.2.1 = p1) ∧ (a.2.2.1 = p2) ∧ (0 ≤ Int32.toInt a.2.2.2) ∧ (Int32.toInt a.2.2.2 ≤ 99)) (fun (a : dS × Int32 × Int32 × Int32) => (99 - Int32.toInt a.2.2.2).toNat) ?_ _ ?_ _ (dF_gt ?_)
          · intro a ha k_28 hk_27
            obtain ⟨q_29, x1_30, x2_31, x3_32⟩ := a
            replace ha : (TS q_29) ∧ (dFr [] [] q_15 q_29) ∧ (x1_30 = p1) ∧ (x2_31 = p2) ∧ (0 ≤ Int32.toInt x3_32) ∧ (Int32.toInt x3_32 ≤ 99) := ha
            obtain ⟨a_33, a_34, a_35, a_36, a_37, a_38⟩ := ha
            show dOk (zX10_few_57b  (fun q x1 x2 x3 => k_28 (q, x1, x2, x3)) q_29 x1_30 x2_31 x3_32) _
            unfold zX10_few_57b
            have hFq_29 : dFr [] [] q q_29 := hFq_15.t a_34 (by decide) (by decide)
            subst x1_30
            subst x2_31
            refine dOk_le (A := Int32.toInt p2) (B := Int32.toInt x3_32) rfl rfl (fun c_39 => ?_) (fun c_40 => ?_)
            · unfold zX10_few_151
              refine dFix_ok (fun (a : dS × Int32 × Int64 × Int32) => (a.1 = q_29) ∧ (a.2.1 = p1) ∧ (0 ≤ Int32.toInt a.2.2.2) ∧ (Int32.toInt a.2.2.2 ≤ 20)) (fun (a : dS × Int32 × Int64 × Int32) => (20 - Int32.toInt a.2.2.2).toNat) ?_ _ ?_ _ (dF_gt ?_)
              · intro a ha k_42 hk_41
                obtain ⟨q_43, x1_44, x3_45, x5_46⟩ := a
                replace ha : (q_43 = q_29) ∧ (x1_44 = p1) ∧ (0 ≤ Int32.toInt x5_46) ∧ (Int32.toInt x5_46 ≤ 20) := ha
                obtain ⟨a_47, a_48, a_49, a_50⟩ := ha
                show dOk (zX10_few_151b  (fun q x1 x3 x5 => k_42 (q, x1, x3, x5)) q_43 x1_44 x3_45 x5_46) _
                unfold zX10_few_151b
                subst q_43
                subst x1_44
                refine dOk_le (A := Int32.toInt p1) (B := Int32.toInt x5_46) rfl rfl (fun c_51 => ?_) (fun c_52 => ?_)
                · exact dOk_some (show (TS q_29) ∧ (dFr [] [] q q_29) from ⟨a_33, hFq_29⟩)
                · refine dOk_G (dg_ok (show 0 ≤ Int32.toInt x5_46 by omega) (show Int32.toInt x5_46 < ((21 : Nat) : Int) by omega)) ?_
                  have n_53 : ((Int32.toNatClampNeg x5_46 : Nat) : Int) = Int32.toInt x5_46 := cl_eq (by omega)
                  refine dOk_L (fun v_54 ev_54 => ?_)
                  try have t_55 : Int32.toInt (x5_46 + 1) = Int32.toInt x5_46 + 1 := ti_add rfl (by decide) (by omega) (by omega)
                  exact hk_41 (q_29, p1, (x3_45 + v_54 : Int64), (x5_46 + 1)) (show (q_29 = q_29) ∧ (p1 = p1) ∧ (0 ≤ Int32.toInt (x5_46 + 1)) ∧ (Int32.toInt (x5_46 + 1) ≤ 20) from ⟨rfl, rfl, by omega, by omega⟩) (show (20 - Int32.toInt (x5_46 + 1)).toNat < (20 - Int32.toInt x5_46).toNat by omega)
              · exact (show (q_29 = q_29) ∧ (p1 = p1) ∧ (0 ≤ (0 : Int)) ∧ ((0 : Int) ≤ 20) from ⟨rfl, rfl, by omega, by omega⟩)
              · show (20 - (0 : Int)).toNat < 1000000000000
                omega
            · unfold zX10_few_67
              refine dFix_ok (fun (a : dS × Int32 × Int32 × Int32 × Int32) => (TS a.1) ∧ (dFr [] [] q_29 a.1) ∧ (a.2.1 = p1) ∧ (a.2.2.1 = p2) ∧ (a.2.2.2.1 = x3_32) ∧ (-1 ≤ Int32.toInt a.2.2.2.2) ∧ (Int32.toInt a.2.2.2.2 ≤ 19)) (fun (a : dS × Int32 × Int32 × Int32 × Int32) => (Int32.toInt a.2.2.2.2 + 1).toNat) ?_ _ ?_ _ (dF_gt ?_)
              · intro a ha k_57 hk_56
                obtain ⟨q_58, x1_59, x2_60, x3_61, x4_62⟩ := a
                replace ha : (TS q_58) ∧ (dFr [] [] q_29 q_58) ∧ (x1_59 = p1) ∧ (x2_60 = p2) ∧ (x3_61 = x3_32) ∧ (-1 ≤ Int32.toInt x4_62) ∧ (Int32.toInt x4_62 ≤ 19) := ha
                obtain ⟨a_63, a_64, a_65, a_66, a_67, a_68, a_69⟩ := ha
                show dOk (zX10_few_67b _ (fun q x1 x2 x3 x4 => k_57 (q, x1, x2, x3, x4)) q_58 x1_59 x2_60 x3_61 x4_62) _
                unfold zX10_few_67b
                have hFq_58 : dFr [] [] q q_58 := hFq_29.t a_64 (by decide) (by decide)
                subst x1_59
                subst x2_60
                subst x3_61
                refine dOk_lt (A := Int32.toInt x4_62) (B := 0) rfl (by decide) (fun c_70 => ?_) (fun c_71 => ?_)
                · try have t_72 : Int32.toInt (x3_32 + 1) = Int32.toInt x3_32 + 1 := ti_add rfl (by decide) (by omega) (by omega)
                  exact hk_27 (q_58, p1, p2, (x3_32 + 1)) (show (TS q_58) ∧ (dFr [] [] q_15 q_58) ∧ (p1 = p1) ∧ (p2 = p2) ∧ (0 ≤ Int32.toInt (x3_32 + 1)) ∧ (Int32.toInt (x3_32 + 1) ≤ 99) from ⟨a_63, ((((dFr.rf : dFr [] [] q_15 q_15).t a_34 (by decide) (by decide)) : dFr [] [] q_15 q_29).t a_64 (by decide) (by decide)), rfl, rfl, by omega, by omega⟩) (show (99 - Int32.toInt (x3_32 + 1)).toNat < (99 - Int32.toInt x3_32).toNat by omega)
                · try have t_73 : Int32.toInt (x4_62 + 1) = Int32.toInt x4_62 + 1 := ti_add rfl (by decide) (by omega) (by omega)
                  refine dOk_G (dg_ok (show 0 ≤ Int32.toInt (x4_62 + 1) by omega) (show Int32.toInt (x4_62 + 1) < ((21 : Nat) : Int) by omega)) ?_
                  have n_74 : ((Int32.toNatClampNeg (x4_62 + 1) : Nat) : Int) = Int32.toInt (x4_62 + 1) := cl_eq (by omega)
                  refine dOk_L (fun v_75 ev_75 => ?_)
                  refine dOk_G (dg_ok (show 0 ≤ Int32.toInt x4_62 by omega) (show Int32.toInt x4_62 < ((21 : Nat) : Int) by omega)) ?_
                  have n_76 : ((Int32.toNatClampNeg x4_62 : Nat) : Int) = Int32.toInt x4_62 := cl_eq (by omega)
                  refine dOk_L (fun v_77 ev_77 => ?_)
                  refine dOk_L (fun v_78 ev_78 => ?_)
                  refine dOk_G (dg_ok (show 0 ≤ Int32.toInt (x4_62 + 1) by omega) (show Int32.toInt (x4_62 + 1) < ((21 : Nat) : Int) by omega)) ?_
                  refine dOk_L (fun q_79 eq_79 => ?_)
                  have hTq_79 : TS q_79 := by rw [eq_79]; exact ts_l a_63
                  have hFq_79 : dFr [] [] q q_79 := by rw [eq_79]; exact hFq_58.l
                  refine dOk_G (dg_ok (show 0 ≤ Int32.toInt x4_62 by omega) (show Int32.toInt x4_62 < ((21 : Nat) : Int) by omega)) ?_
                  refine dOk_L (fun v_80 ev_80 => ?_)
                  refine dOk_L (fun v_81 ev_81 => ?_)
                  refine dOk_G (dg_ok (show 0 ≤ Int32.toInt x4_62 by omega) (show Int32.toInt x4_62 < ((21 : Nat) : Int) by omega)) ?_
                  refine dOk_L (fun q_82 eq_82 => ?_)
                  have hTq_82 : TS q_82 := by rw [eq_82]; exact ts_l hTq_79
                  have hFq_82 : dFr [] [] q q_82 := by rw [eq_82]; exact hFq_79.l
                  try have t_83 : Int32.toInt (x4_62 + (-1)) = Int32.toInt x4_62 + (-1) := ti_add rfl (by decide) (by omega) (by omega)
                  exact hk_56 (q_82, p1, p2, x3_32, (x4_62 + (-1))) (show (TS q_82) ∧ (dFr [] [] q_29 q_82) ∧ (p1 = p1) ∧ (p2 = p2) ∧ (x3_32 = x3_32) ∧ (-1 ≤ Int32.toInt (x4_62 + (-1))) ∧ (Int32.toInt (x4_62 + (-1)) ≤ 19) from ⟨hTq_82, (by rw [eq_82]; exact ((by rw [eq_79]; exact (((dFr.rf : dFr [] [] q_29 q_29).t a_64 (by decide) (by decide)) : dFr [] [] q_29 q_58).l) : dFr [] [] q_29 q_79).l), rfl, rfl, rfl, by omega, by omega⟩) (show (Int32.toInt (x4_62 + (-1)) + 1).toNat < (Int32.toInt x4_62 + 1).toNat by omega)
              · try have t_84 : Int32.toInt (p1 - 1) = Int32.toInt p1 - 1 := ti_sub rfl (by decide) (by omega) (by omega)
                exact (show (TS q_29) ∧ (dFr [] [] q_29 q_29) ∧ (p1 = p1) ∧ (p2 = p2) ∧ (x3_32 = x3_32) ∧ (-1 ≤ Int32.toInt (p1 - 1)) ∧ (Int32.toInt (p1 - 1) ≤ 19) from ⟨a_33, dFr.rf, rfl, rfl, rfl, by omega, by omega⟩)
              · try have t_85 : Int32.toInt (p1 - 1) = Int32.toInt p1 - 1 := ti_sub rfl (by decide) (by omega) (by omega)
                show (Int32.toInt (p1 - 1) + 1).toNat < 1000000000000
                omega
          · exact (show (TS q_15) ∧ (dFr [] [] q_15 q_15) ∧ (p1 = p1) ∧ (p2 = p2) ∧ (0 ≤ (0 : Int)) ∧ ((0 : Int) ≤ 99) from ⟨a_19, dFr.rf, rfl, rfl, by omega, by omega⟩)
          · show (99 - (0 : Int)).toNat < 1000000000000
            omega
        · refine dOk_eq (A := Int32.toInt x3_18) (B := 0) rfl (by decide) (fun c_86z c_86 => ?_) (fun c_87z c_87 => ?_)
          · unfold zX10_few_48
            refine dOk_G (dg_ok (show 0 ≤ Int32.toInt x3_18 by omega) (show Int32.toInt x3_18 < ((21 : Nat) : Int) by omega)) ?_
            have n_89 : ((Int32.toNatClampNeg x3_18 : Nat) : Int) = Int32.toInt x3_18 := cl_eq (by omega)
            refine dOk_L (fun q_90 eq_90 => ?_)
            have hTq_90 : TS q_90 := by rw [eq_90]; exact ts_l a_19
            have hFq_90 : dFr [] [] q q_90 := by rw [eq_90]; exact hFq_15.l
            try have t_91 : Int32.toInt (x3_18 + 1) = Int32.toInt x3_18 + 1 := ti_add rfl (by decide) (by omega) (by omega)
            exact hk_13 (q_90, p1, p2, (x3_18 + 1)) (show (TS q_90) ∧ (dFr [] [] q q_90) ∧ (p1 = p1) ∧ (p2 = p2) ∧ (0 ≤ Int32.toInt (x3_18 + 1)) ∧ (Int32.toInt (x3_18 + 1) ≤ 21) from ⟨hTq_90, (by rw [eq_90]; exact (((dFr.rf : dFr [] [] q q).t a_20 (by decide) (by decide)) : dFr [] [] q q_15).l), rfl, rfl, by omega, by omega⟩) (show (21 - Int32.toInt (x3_18 + 1)).toNat < (21 - Int32.toInt x3_18).toNat by omega)
          · unfold zX10_few_48
            refine dOk_G (dg_ok (show 0 ≤ Int32.toInt x3_18 by omega) (show Int32.toInt x3_18 < ((21 : Nat) : Int) by omega)) ?_
            have n_92 : ((Int32.toNatClampNeg x3_18 : Nat) : Int) = Int32.toInt x3_18 := cl_eq (by omega)
            refine dOk_L (fun q_93 eq_93 => ?_)
            have hTq_93 : TS q_93 := by rw [eq_93]; exact ts_l a_19
            have hFq_93 : dFr [] [] q q_93 := by rw [eq_93]; exact hFq_15.l
            try have t_94 : Int32.toInt (x3_18 + 1) = Int32.toInt x3_18 + 1 := ti_add rfl (by decide) (by omega) (by omega)
            exact hk_13 (q_93, p1, p2, (x3_18 + 1)) (show (TS q_93) ∧ (dFr [] [] q q_93) ∧ (p1 = p1) ∧ (p2 = p2) ∧ (0 ≤ Int32.toInt (x3_18 + 1)) ∧ (Int32.toInt (x3_18 + 1) ≤ 21) from ⟨hTq_93, (by rw [eq_93]; exact (((dFr.rf : dFr [] [] q q).t a_20 (by decide) (by decide)) : dFr [] [] q q_15).l), rfl, rfl, by omega, by omega⟩) (show (21 - Int32.toInt (x3_18 + 1)).toNat < (21 - Int32.toInt x3_18).toNat by omega)
      · exact (show (TS q) ∧ (dFr [] [] q q) ∧ (p1 = p1) ∧ (p2 = p2) ∧ (0 ≤ (0 : Int)) ∧ ((0 : Int) ≤ 21) from ⟨hT, dFr.rf, rfl, rfl, by omega, by omega⟩)
      · show (21 - (0 : Int)).toNat < 1000000000000
        omega

set_option maxHeartbeats 4000000 in
set_option maxRecDepth 100000 in
theorem ok_drawn (q : dS) (p1 : Int32) (p2 : Int32) (hT : TS q) : dOk (zX10_drawn q p1 p2) (fun (o : Int32 × dS) => (o.2 = q)) := by
  unfold zX10_drawn
  have f_1 : -1 ≤ Int32.toInt (q.1 0 54) ∧ Int32.toInt (q.1 0 54) ≤ 6 := hT.1 0 54
  try have t_2 : Int32.toInt (q.1 0 54 - 1) = Int32.toInt (q.1 0 54) - 1 := ti_sub rfl (by decide) (by omega) (by omega)
  refine dOk_V (ok_lies p1 0 (q.1 0 54 - 1)) (fun r_3 h_4 => ?_)
  replace h_4 : ((Int32.toInt r_3 = 1 ∧ (0 : Int) ≤ Int32.toInt p1 ∧ Int32.toInt p1 ≤ Int32.toInt (q.1 0 54 - 1)) ∨ (Int32.toInt r_3 = 0 ∧ (Int32.toInt p1 < (0 : Int) ∨ Int32.toInt (q.1 0 54 - 1) < Int32.toInt p1))) := h_4
  have i_5 := h_4
  refine dOk_eq (A := Int32.toInt r_3) (B := 0) rfl (by decide) (fun c_6z c_6 => ?_) (fun c_7z c_7 => ?_)
  · unfold zX10_drawn_21
    exact dOk_some (show (q = q) from rfl)
  · refine dOk_V (ok_isBit p2) (fun r_9 h_10 => ?_)
    replace h_10 : ((Int32.toInt r_9 = 1 ∧ 0 ≤ Int32.toInt p2 ∧ Int32.toInt p2 ≤ 1) ∨ (Int32.toInt r_9 = 0 ∧ (Int32.toInt p2 < 0 ∨ 1 < Int32.toInt p2))) := h_10
    have i_11 := h_10
    refine dOk_eq (A := Int32.toInt r_9) (B := 0) rfl (by decide) (fun c_12z c_12 => ?_) (fun c_13z c_13 => ?_)
    · unfold zX10_drawn_21
      exact dOk_some (show (q = q) from rfl)
    · refine dOk_eq (A := Int32.toInt p2) (B := 0) rfl (by decide) (fun c_15z c_15 => ?_) (fun c_16z c_16 => ?_)
      · unfold zX10_drawn_37
        try have t_18 : Int32.toInt (0 + p1) = 0 + Int32.toInt p1 := ti_add (by decide) rfl (by omega) (by omega)
        refine dOk_G (dg_ok (show 0 ≤ Int32.toInt (0 + p1) by omega) (show Int32.toInt (0 + p1) < ((14 : Nat) : Int) by omega)) ?_
        have n_19 : ((Int32.toNatClampNeg (0 + p1) : Nat) : Int) = Int32.toInt (0 + p1) := cl_eq (by omega)
        refine dOk_L (fun v_20 ev_20 => ?_)
        try have g_21 : klo ((Int32.toNatClampNeg (0 + p1)) % 14) ≤ Int32.toInt v_20 ∧ Int32.toInt v_20 ≤ khi ((Int32.toNatClampNeg (0 + p1)) % 14) := by rw [ev_20]; exact te_27 hT _
        exact dOk_some (show (q = q) from rfl)
      · unfold zX10_drawn_37
        try have t_22 : Int32.toInt (6 + p1) = 6 + Int32.toInt p1 := ti_add (by decide) rfl (by omega) (by omega)
        refine dOk_G (dg_ok (show 0 ≤ Int32.toInt (6 + p1) by omega) (show Int32.toInt (6 + p1) < ((14 : Nat) : Int) by omega)) ?_
        have n_23 : ((Int32.toNatClampNeg (6 + p1) : Nat) : Int) = Int32.toInt (6 + p1) := cl_eq (by omega)
        refine dOk_L (fun v_24 ev_24 => ?_)
        try have g_25 : klo ((Int32.toNatClampNeg (6 + p1)) % 14) ≤ Int32.toInt v_24 ∧ Int32.toInt v_24 ≤ khi ((Int32.toNatClampNeg (6 + p1)) % 14) := by rw [ev_24]; exact te_27 hT _
        exact dOk_some (show (q = q) from rfl)

set_option maxHeartbeats 4000000 in
set_option maxRecDepth 100000 in
theorem ok_onHeads (q : dS) (hT : TS q) : dOk (zX10_onHeads q) (fun (o : Int32 × dS) => (o.2 = q)) := by
  unfold zX10_onHeads
  unfold zX10_onHeads_4
  refine dFix_ok (fun (a : dS × Int32 × Int32) => (a.1 = q) ∧ (0 ≤ Int32.toInt a.2.2) ∧ (Int32.toInt a.2.2 ≤ 6)) (fun (a : dS × Int32 × Int32) => (6 - Int32.toInt a.2.2).toNat) ?_ _ ?_ _ (dF_gt ?_)
  · intro a ha k_2 hk_1
    obtain ⟨q_3, x1_4, x2_5⟩ := a
    replace ha : (q_3 = q) ∧ (0 ≤ Int32.toInt x2_5) ∧ (Int32.toInt x2_5 ≤ 6) := ha
    obtain ⟨a_6, a_7, a_8⟩ := ha
    show dOk (zX10_onHeads_4b  (fun q x1 x2 => k_2 (q, x1, x2)) q_3 x1_4 x2_5) _
    unfold zX10_onHeads_4b
    subst q_3
    refine dOk_B (ok_size q hT) (fun r_9 q_10 h_11 => ?_)
    replace h_11 : (q_10 = q) ∧ (Int32.toInt r_9 = Int32.toInt (q.1 2 29)) ∧ (0 ≤ Int32.toInt r_9 ∧ Int32.toInt r_9 ≤ 6) := h_11
    obtain ⟨i_12, i_13, i_14⟩ := h_11
    subst q_10
    have f_15 : 0 ≤ Int32.toInt (q.1 2 29) ∧ Int32.toInt (q.1 2 29) ≤ 6 := hT.1 2 29
    refine dOk_le (A := Int32.toInt r_9) (B := Int32.toInt x2_5) rfl rfl (fun c_16 => ?_) (fun c_17 => ?_)
    · exact dOk_some (show (q = q) from rfl)
    · try have t_18 : Int32.toInt (6 + x2_5) = 6 + Int32.toInt x2_5 := ti_add (by decide) rfl (by omega) (by omega)
      refine dOk_G (dg_ok (show 0 ≤ Int32.toInt (6 + x2_5) by omega) (show Int32.toInt (6 + x2_5) < ((5640 : Nat) : Int) by omega)) ?_
      have n_19 : ((Int32.toNatClampNeg (6 + x2_5) : Nat) : Int) = Int32.toInt (6 + x2_5) := cl_eq (by omega)
      refine dOk_L (fun v_20 ev_20 => ?_)
      try have g_21 : klo (Int32.toNatClampNeg (6 + x2_5)) ≤ Int32.toInt v_20 ∧ Int32.toInt v_20 ≤ khi (Int32.toNatClampNeg (6 + x2_5)) := by rw [ev_20]; exact te_k hT _
      try have f_22 : 0 ≤ Int32.toInt v_20 ∧ Int32.toInt v_20 ≤ 5 := by rw [ev_20]; exact te_2r hT (by omega) (by omega)
      try have f_23 : 0 ≤ Int32.toInt v_20 ∧ Int32.toInt v_20 ≤ 1 := by rw [ev_20]; exact te_2h hT (by omega) (by omega)
      try have f_24 : 0 ≤ Int32.toInt v_20 ∧ Int32.toInt v_20 ≤ 5 := by rw [ev_20]; exact te_2s hT (by omega) (by omega)
      try have f_25 : 0 ≤ Int32.toInt v_20 ∧ Int32.toInt v_20 ≤ 400 := by rw [ev_20]; exact te_2z hT (by omega) (by omega)
      try have t_26 : Int32.toInt (x1_4 + v_20) = Int32.toInt x1_4 + Int32.toInt v_20 := ti_add rfl rfl (by omega) (by omega)
      try have t_27 : Int32.toInt (x2_5 + 1) = Int32.toInt x2_5 + 1 := ti_add rfl (by decide) (by omega) (by omega)
      exact hk_1 (q, (x1_4 + v_20), (x2_5 + 1)) (show (q = q) ∧ (0 ≤ Int32.toInt (x2_5 + 1)) ∧ (Int32.toInt (x2_5 + 1) ≤ 6) from ⟨rfl, by omega, by omega⟩) (show (6 - Int32.toInt (x2_5 + 1)).toNat < (6 - Int32.toInt x2_5).toNat by omega)
  · exact (show (q = q) ∧ (0 ≤ (0 : Int)) ∧ ((0 : Int) ≤ 6) from ⟨rfl, by omega, by omega⟩)
  · show (6 - (0 : Int)).toNat < 1000000000000
    omega

set_option maxHeartbeats 4000000 in
set_option maxRecDepth 100000 in
theorem ok_isOrderedNow (q : dS) (hT : TS q) : dOk (zX10_isOrderedNow q) (fun (o : Int32 × dS) => (o.2 = q) ∧ ((Int32.toInt o.1 = 0 ∨ Int32.toInt o.1 = 1))) := by
  unfold zX10_isOrderedNow
  refine dOk_B (ok_size q hT) (fun r_1 q_2 h_3 => ?_)
  replace h_3 : (q_2 = q) ∧ (Int32.toInt r_1 = Int32.toInt (q.1 2 29)) ∧ (0 ≤ Int32.toInt r_1 ∧ Int32.toInt r_1 ≤ 6) := h_3
  obtain ⟨i_4, i_5, i_6⟩ := h_3
  subst q_2
  have f_7 : 0 ≤ Int32.toInt (q.1 2 29) ∧ Int32.toInt (q.1 2 29) ≤ 6 := hT.1 2 29
  try have t_8 := ti_shlP (s := r_1) (by omega) (by omega)
  try have t_9 := ti_shl5 (x := 1) (s := r_1) (by decide) (by decide) (by omega) (by omega)
  try have t_10 := ti_shl6 (x := 1) (s := r_1) (by decide) (by decide) (by omega) (by omega)
  try have t_11 : Int32.toInt (1 <<< ((r_1 : Int32) &&& 31) - 1) = Int32.toInt (1 <<< ((r_1 : Int32) &&& 31)) - 1 := ti_sub rfl (by decide) (by omega) (by omega)
  refine dOk_B (ok_canStay q (1 <<< ((r_1 : Int32) &&& 31) - 1) hT) (fun r_12 q_13 h_14 => ?_)
  replace h_14 : (q_13 = q) ∧ ((Int32.toInt r_12 = 0 ∨ Int32.toInt r_12 = 1)) := h_14
  obtain ⟨i_15, i_16⟩ := h_14
  subst q_13
  refine dOk_G (dbl_ok (show Int32.toInt r_12 = 0 ∨ Int32.toInt r_12 = 1 by omega)) ?_
  exact dOk_some (show (q = q) ∧ ((Int32.toInt r_12 = 0 ∨ Int32.toInt r_12 = 1)) from ⟨rfl, by omega⟩)
end
section
set_option maxHeartbeats 4000000 in
set_option maxRecDepth 100000 in
theorem ok_count (q : dS) (p1 : Int32) (hT : TS q) : dOk (zX10_count q p1) (fun (o : Int32 × dS) => (o.2 = q)) := by
  unfold zX10_count
  refine dOk_eq (A := Int32.toInt p1) (B := 0) rfl (by decide) (fun c_1z c_1 => ?_) (fun c_2z c_2 => ?_)
  · refine dOk_B (ok_size q hT) (fun r_4 q_5 h_6 => ?_)
    replace h_6 : (q_5 = q) ∧ (Int32.toInt r_4 = Int32.toInt (q.1 2 29)) ∧ (0 ≤ Int32.toInt r_4 ∧ Int32.toInt r_4 ≤ 6) := h_6
    obtain ⟨i_7, i_8, i_9⟩ := h_6
    subst q_5
    have f_10 : 0 ≤ Int32.toInt (q.1 2 29) ∧ Int32.toInt (q.1 2 29) ≤ 6 := hT.1 2 29
    exact dOk_some (show (q = q) from rfl)
  · refine dOk_eq (A := Int32.toInt p1) (B := 1) rfl (by decide) (fun c_11z c_11 => ?_) (fun c_12z c_12 => ?_)
    · refine dOk_B (ok_onHeads q hT) (fun r_14 q_15 h_16 => ?_)
      replace h_16 : (q_15 = q) := h_16
      have i_17 := h_16
      subst q_15
      exact dOk_some (show (q = q) from rfl)
    · refine dOk_eq (A := Int32.toInt p1) (B := 2) rfl (by decide) (fun c_18z c_18 => ?_) (fun c_19z c_19 => ?_)
      · have f_21 : 0 ≤ Int32.toInt (q.1 2 12) ∧ Int32.toInt (q.1 2 12) ≤ 9999 := hT.1 2 12
        exact dOk_some (show (q = q) from rfl)
      · refine dOk_eq (A := Int32.toInt p1) (B := 3) rfl (by decide) (fun c_22z c_22 => ?_) (fun c_23z c_23 => ?_)
        · have f_25 : 0 ≤ Int32.toInt (q.1 2 30) ∧ Int32.toInt (q.1 2 30) ≤ 6 := hT.1 2 30
          exact dOk_some (show (q = q) from rfl)
        · refine dOk_eq (A := Int32.toInt p1) (B := 4) rfl (by decide) (fun c_26z c_26 => ?_) (fun c_27z c_27 => ?_)
          · have f_29 : 0 ≤ Int32.toInt (q.1 2 31) ∧ Int32.toInt (q.1 2 31) ≤ 6 := hT.1 2 31
            exact dOk_some (show (q = q) from rfl)
          · refine dOk_eq (A := Int32.toInt p1) (B := 5) rfl (by decide) (fun c_30z c_30 => ?_) (fun c_31z c_31 => ?_)
            · have f_33 : 0 ≤ Int32.toInt (q.1 0 32) ∧ Int32.toInt (q.1 0 32) ≤ 16 := hT.1 0 32
              exact dOk_some (show (q = q) from rfl)
            · refine dOk_eq (A := Int32.toInt p1) (B := 6) rfl (by decide) (fun c_34z c_34 => ?_) (fun c_35z c_35 => ?_)
              · have f_37 : 0 ≤ Int32.toInt (q.1 0 13) ∧ Int32.toInt (q.1 0 13) ≤ 400 := hT.1 0 13
                exact dOk_some (show (q = q) from rfl)
              · refine dOk_eq (A := Int32.toInt p1) (B := 7) rfl (by decide) (fun c_38z c_38 => ?_) (fun c_39z c_39 => ?_)
                · try have t_41 : Int32.toInt (p1 - 6) = Int32.toInt p1 - 6 := ti_sub rfl (by decide) (by omega) (by omega)
                  refine dOk_G (dg_ok (show 0 ≤ Int32.toInt (p1 - 6) by omega) (show Int32.toInt (p1 - 6) < ((7 : Nat) : Int) by omega)) ?_
                  have n_42 : ((Int32.toNatClampNeg (p1 - 6) : Nat) : Int) = Int32.toInt (p1 - 6) := cl_eq (by omega)
                  refine dOk_L (fun v_43 ev_43 => ?_)
                  exact dOk_some (show (q = q) from rfl)
                · refine dOk_eq (A := Int32.toInt p1) (B := 8) rfl (by decide) (fun c_44z c_44 => ?_) (fun c_45z c_45 => ?_)
                  · try have t_47 : Int32.toInt (p1 - 6) = Int32.toInt p1 - 6 := ti_sub rfl (by decide) (by omega) (by omega)
                    refine dOk_G (dg_ok (show 0 ≤ Int32.toInt (p1 - 6) by omega) (show Int32.toInt (p1 - 6) < ((7 : Nat) : Int) by omega)) ?_
                    have n_48 : ((Int32.toNatClampNeg (p1 - 6) : Nat) : Int) = Int32.toInt (p1 - 6) := cl_eq (by omega)
                    refine dOk_L (fun v_49 ev_49 => ?_)
                    exact dOk_some (show (q = q) from rfl)
                  · refine dOk_eq (A := Int32.toInt p1) (B := 9) rfl (by decide) (fun c_50z c_50 => ?_) (fun c_51z c_51 => ?_)
                    · try have t_53 : Int32.toInt (p1 - 6) = Int32.toInt p1 - 6 := ti_sub rfl (by decide) (by omega) (by omega)
                      refine dOk_G (dg_ok (show 0 ≤ Int32.toInt (p1 - 6) by omega) (show Int32.toInt (p1 - 6) < ((7 : Nat) : Int) by omega)) ?_
                      have n_54 : ((Int32.toNatClampNeg (p1 - 6) : Nat) : Int) = Int32.toInt (p1 - 6) := cl_eq (by omega)
                      refine dOk_L (fun v_55 ev_55 => ?_)
                      exact dOk_some (show (q = q) from rfl)
                    · refine dOk_eq (A := Int32.toInt p1) (B := 10) rfl (by decide) (fun c_56z c_56 => ?_) (fun c_57z c_57 => ?_)
                      · exact dOk_some (show (q = q) from rfl)
                      · refine dOk_eq (A := Int32.toInt p1) (B := 11) rfl (by decide) (fun c_59z c_59 => ?_) (fun c_60z c_60 => ?_)
                        · exact dOk_some (show (q = q) from rfl)
                        · refine dOk_eq (A := Int32.toInt p1) (B := 12) rfl (by decide) (fun c_62z c_62 => ?_) (fun c_63z c_63 => ?_)
                          · have f_65 : -1 ≤ Int32.toInt (q.1 2 32) ∧ Int32.toInt (q.1 2 32) ≤ 5 := hT.1 2 32
                            have f_66 : 0 ≤ Int32.toInt (q.1 2 31) ∧ Int32.toInt (q.1 2 31) ≤ 6 := hT.1 2 31
                            have k_67 : Int32.toInt (q.1 2 32) < Int32.toInt (q.1 2 31) := hT.2.1.1
                            exact dOk_some (show (q = q) from rfl)
                          · refine dOk_eq (A := Int32.toInt p1) (B := 13) rfl (by decide) (fun c_68z c_68 => ?_) (fun c_69z c_69 => ?_)
                            · try have t_71 : Int32.toInt (p1 - 13) = Int32.toInt p1 - 13 := ti_sub rfl (by decide) (by omega) (by omega)
                              refine dOk_V (ok_termAt (p1 - 13)) (fun r_72 h_73 => ?_)
                              replace h_73 : ((Int32.toInt (p1 - 13) = 0 ∧ Int32.toInt r_72 = 13) ∨ (Int32.toInt (p1 - 13) = 1 ∧ Int32.toInt r_72 = 26) ∨ (Int32.toInt (p1 - 13) = 2 ∧ Int32.toInt r_72 = 27) ∨ (¬ Int32.toInt (p1 - 13) = 0 ∧ ¬ Int32.toInt (p1 - 13) = 1 ∧ ¬ Int32.toInt (p1 - 13) = 2 ∧ Int32.toInt r_72 = 28)) := h_73
                              have i_74 := h_73
                              refine dOk_G (dg_ok (show 0 ≤ Int32.toInt r_72 by omega) (show Int32.toInt r_72 < ((5640 : Nat) : Int) by omega)) ?_
                              have n_75 : ((Int32.toNatClampNeg r_72 : Nat) : Int) = Int32.toInt r_72 := cl_eq (by omega)
                              refine dOk_L (fun v_76 ev_76 => ?_)
                              try have g_77 : klo (Int32.toNatClampNeg r_72) ≤ Int32.toInt v_76 ∧ Int32.toInt v_76 ≤ khi (Int32.toNatClampNeg r_72) := by rw [ev_76]; exact te_k hT _
                              try have f_78 : 0 ≤ Int32.toInt v_76 ∧ Int32.toInt v_76 ≤ 5 := by rw [ev_76]; exact te_2r hT (by omega) (by omega)
                              try have f_79 : 0 ≤ Int32.toInt v_76 ∧ Int32.toInt v_76 ≤ 1 := by rw [ev_76]; exact te_2h hT (by omega) (by omega)
                              try have f_80 : 0 ≤ Int32.toInt v_76 ∧ Int32.toInt v_76 ≤ 5 := by rw [ev_76]; exact te_2s hT (by omega) (by omega)
                              try have f_81 : 0 ≤ Int32.toInt v_76 ∧ Int32.toInt v_76 ≤ 400 := by rw [ev_76]; exact te_2z hT (by omega) (by omega)
                              exact dOk_some (show (q = q) from rfl)
                            · refine dOk_eq (A := Int32.toInt p1) (B := 14) rfl (by decide) (fun c_82z c_82 => ?_) (fun c_83z c_83 => ?_)
                              · try have t_85 : Int32.toInt (p1 - 13) = Int32.toInt p1 - 13 := ti_sub rfl (by decide) (by omega) (by omega)
                                refine dOk_V (ok_termAt (p1 - 13)) (fun r_86 h_87 => ?_)
                                replace h_87 : ((Int32.toInt (p1 - 13) = 0 ∧ Int32.toInt r_86 = 13) ∨ (Int32.toInt (p1 - 13) = 1 ∧ Int32.toInt r_86 = 26) ∨ (Int32.toInt (p1 - 13) = 2 ∧ Int32.toInt r_86 = 27) ∨ (¬ Int32.toInt (p1 - 13) = 0 ∧ ¬ Int32.toInt (p1 - 13) = 1 ∧ ¬ Int32.toInt (p1 - 13) = 2 ∧ Int32.toInt r_86 = 28)) := h_87
                                have i_88 := h_87
                                refine dOk_G (dg_ok (show 0 ≤ Int32.toInt r_86 by omega) (show Int32.toInt r_86 < ((5640 : Nat) : Int) by omega)) ?_
                                have n_89 : ((Int32.toNatClampNeg r_86 : Nat) : Int) = Int32.toInt r_86 := cl_eq (by omega)
                                refine dOk_L (fun v_90 ev_90 => ?_)
                                try have g_91 : klo (Int32.toNatClampNeg r_86) ≤ Int32.toInt v_90 ∧ Int32.toInt v_90 ≤ khi (Int32.toNatClampNeg r_86) := by rw [ev_90]; exact te_k hT _
                                try have f_92 : 0 ≤ Int32.toInt v_90 ∧ Int32.toInt v_90 ≤ 5 := by rw [ev_90]; exact te_2r hT (by omega) (by omega)
                                try have f_93 : 0 ≤ Int32.toInt v_90 ∧ Int32.toInt v_90 ≤ 1 := by rw [ev_90]; exact te_2h hT (by omega) (by omega)
                                try have f_94 : 0 ≤ Int32.toInt v_90 ∧ Int32.toInt v_90 ≤ 5 := by rw [ev_90]; exact te_2s hT (by omega) (by omega)
                                try have f_95 : 0 ≤ Int32.toInt v_90 ∧ Int32.toInt v_90 ≤ 400 := by rw [ev_90]; exact te_2z hT (by omega) (by omega)
                                exact dOk_some (show (q = q) from rfl)
                              · refine dOk_eq (A := Int32.toInt p1) (B := 15) rfl (by decide) (fun c_96z c_96 => ?_) (fun c_97z c_97 => ?_)
                                · try have t_99 : Int32.toInt (p1 - 13) = Int32.toInt p1 - 13 := ti_sub rfl (by decide) (by omega) (by omega)
                                  refine dOk_V (ok_termAt (p1 - 13)) (fun r_100 h_101 => ?_)
                                  replace h_101 : ((Int32.toInt (p1 - 13) = 0 ∧ Int32.toInt r_100 = 13) ∨ (Int32.toInt (p1 - 13) = 1 ∧ Int32.toInt r_100 = 26) ∨ (Int32.toInt (p1 - 13) = 2 ∧ Int32.toInt r_100 = 27) ∨ (¬ Int32.toInt (p1 - 13) = 0 ∧ ¬ Int32.toInt (p1 - 13) = 1 ∧ ¬ Int32.toInt (p1 - 13) = 2 ∧ Int32.toInt r_100 = 28)) := h_101
                                  have i_102 := h_101
                                  refine dOk_G (dg_ok (show 0 ≤ Int32.toInt r_100 by omega) (show Int32.toInt r_100 < ((5640 : Nat) : Int) by omega)) ?_
                                  have n_103 : ((Int32.toNatClampNeg r_100 : Nat) : Int) = Int32.toInt r_100 := cl_eq (by omega)
                                  refine dOk_L (fun v_104 ev_104 => ?_)
                                  try have g_105 : klo (Int32.toNatClampNeg r_100) ≤ Int32.toInt v_104 ∧ Int32.toInt v_104 ≤ khi (Int32.toNatClampNeg r_100) := by rw [ev_104]; exact te_k hT _
                                  try have f_106 : 0 ≤ Int32.toInt v_104 ∧ Int32.toInt v_104 ≤ 5 := by rw [ev_104]; exact te_2r hT (by omega) (by omega)
                                  try have f_107 : 0 ≤ Int32.toInt v_104 ∧ Int32.toInt v_104 ≤ 1 := by rw [ev_104]; exact te_2h hT (by omega) (by omega)
                                  try have f_108 : 0 ≤ Int32.toInt v_104 ∧ Int32.toInt v_104 ≤ 5 := by rw [ev_104]; exact te_2s hT (by omega) (by omega)
                                  try have f_109 : 0 ≤ Int32.toInt v_104 ∧ Int32.toInt v_104 ≤ 400 := by rw [ev_104]; exact te_2z hT (by omega) (by omega)
                                  exact dOk_some (show (q = q) from rfl)
                                · refine dOk_eq (A := Int32.toInt p1) (B := 16) rfl (by decide) (fun c_110z c_110 => ?_) (fun c_111z c_111 => ?_)
                                  · try have t_113 : Int32.toInt (p1 - 13) = Int32.toInt p1 - 13 := ti_sub rfl (by decide) (by omega) (by omega)
                                    refine dOk_V (ok_termAt (p1 - 13)) (fun r_114 h_115 => ?_)
                                    replace h_115 : ((Int32.toInt (p1 - 13) = 0 ∧ Int32.toInt r_114 = 13) ∨ (Int32.toInt (p1 - 13) = 1 ∧ Int32.toInt r_114 = 26) ∨ (Int32.toInt (p1 - 13) = 2 ∧ Int32.toInt r_114 = 27) ∨ (¬ Int32.toInt (p1 - 13) = 0 ∧ ¬ Int32.toInt (p1 - 13) = 1 ∧ ¬ Int32.toInt (p1 - 13) = 2 ∧ Int32.toInt r_114 = 28)) := h_115
                                    have i_116 := h_115
                                    refine dOk_G (dg_ok (show 0 ≤ Int32.toInt r_114 by omega) (show Int32.toInt r_114 < ((5640 : Nat) : Int) by omega)) ?_
                                    have n_117 : ((Int32.toNatClampNeg r_114 : Nat) : Int) = Int32.toInt r_114 := cl_eq (by omega)
                                    refine dOk_L (fun v_118 ev_118 => ?_)
                                    try have g_119 : klo (Int32.toNatClampNeg r_114) ≤ Int32.toInt v_118 ∧ Int32.toInt v_118 ≤ khi (Int32.toNatClampNeg r_114) := by rw [ev_118]; exact te_k hT _
                                    try have f_120 : 0 ≤ Int32.toInt v_118 ∧ Int32.toInt v_118 ≤ 5 := by rw [ev_118]; exact te_2r hT (by omega) (by omega)
                                    try have f_121 : 0 ≤ Int32.toInt v_118 ∧ Int32.toInt v_118 ≤ 1 := by rw [ev_118]; exact te_2h hT (by omega) (by omega)
                                    try have f_122 : 0 ≤ Int32.toInt v_118 ∧ Int32.toInt v_118 ≤ 5 := by rw [ev_118]; exact te_2s hT (by omega) (by omega)
                                    try have f_123 : 0 ≤ Int32.toInt v_118 ∧ Int32.toInt v_118 ≤ 400 := by rw [ev_118]; exact te_2z hT (by omega) (by omega)
                                    exact dOk_some (show (q = q) from rfl)
                                  · refine dOk_eq (A := Int32.toInt p1) (B := 17) rfl (by decide) (fun c_124z c_124 => ?_) (fun c_125z c_125 => ?_)
                                    · refine dOk_B (ok_isOrderedNow q hT) (fun r_127 q_128 h_129 => ?_)
                                      replace h_129 : (q_128 = q) ∧ ((Int32.toInt r_127 = 0 ∨ Int32.toInt r_127 = 1)) := h_129
                                      obtain ⟨i_130, i_131⟩ := h_129
                                      subst q_128
                                      refine dOk_eq (A := Int32.toInt r_127) (B := 0) rfl (by decide) (fun c_132z c_132 => ?_) (fun c_133z c_133 => ?_)
                                      · unfold zX10_count_190
                                        exact dOk_some (show (q = q) from rfl)
                                      · unfold zX10_count_190
                                        exact dOk_some (show (q = q) from rfl)
                                    · exact dOk_some (show (q = q) from rfl)
end
section
/-! the evaluator follows the grammar -/
def bI (o : Bool) : Int := match o with
  | true => 1
  | false => 0
def EvQ (o : Bool) (f : Nat → Int32) (e i : Nat) (q : dS) : Prop := TS q ∧ q.1 2 = f ∧ (q.1 0 22).toInt = (i : Int) ∧ (q.1 0 23).toInt = (e : Int) ∧ e ≤ 2800 ∧ (q.1 0 25).toInt = bI o ∧ i ≤ e + 1
def EvL (o : Bool) (f : Nat → Int32) (e : Nat) (X : Nat → Nat → Prop) (z : dS → Int32 → Option (Int64 × dS)) : Prop := ∀ (q : dS) (p1 : Int32) (i j : Nat), EvQ o f e i q → X i j → dOk (z q p1) (fun r => EvQ o f e j r.2 ∧ dFr [] [22, 24] q r.2)
def EvB (o : Bool) (f : Nat → Int32) (e : Nat) (X : Nat → Nat → Prop) (z : dS → Int32 → Option (Int32 × dS)) : Prop := ∀ (q : dS) (p1 : Int32) (i j : Nat), EvQ o f e i q → X i j → dOk (z q p1) (fun r => EvQ o f e j r.2 ∧ dFr [] [22, 24] q r.2 ∧ (r.1.toInt = 0 ∨ r.1.toInt = 1))
theorem lawC_in {f : Nat → Int32} {e i : Nat} (h : ¬ lawC f e i = 0) : i < e := by
  unfold lawC at h
  by_cases c : i < e
  · exact c
  · rw [if_neg c] at h; exact absurd rfl h
theorem evq_go {o : Bool} {f : Nat → Int32} {e i : Nat} {q : dS} (h : EvQ o f e i q) (hi : i ≤ e) : EvQ o f e (i + 1) (dui q 0 22 ((q.1 0 22) + 1)) := by
  obtain ⟨hT, hf, h1, h2, h3, h4, h5⟩ := h
  have t : Int32.toInt (q.1 0 22 + 1) = (i : Int) + 1 := ti_add h1 (by decide) (by omega) (by omega)
  refine ⟨ts_f hT (ti_rg _).1 (ti_rg _).2, ?_, ?_, ?_, h3, ?_, by omega⟩
  · rw [dui_o (by decide)]; exact hf
  · rw [dui_e, t]; omega
  · rw [dui_n (by decide)]; exact h2
  · rw [dui_n (by decide)]; exact h4
theorem evq_br {o : Bool} {f : Nat → Int32} {e i : Nat} {q : dS} {v : Int32} (h : EvQ o f e i q) (hv : v.toInt = 0 ∨ v.toInt = 1) : EvQ o f e i (dui q 0 24 v) := by
  obtain ⟨hT, hf, h1, h2, h3, h4, h5⟩ := h
  refine ⟨ts_f hT (show 0 ≤ _ by omega) (show _ ≤ 1 by omega), ?_, ?_, ?_, h3, ?_, h5⟩
  · rw [dui_o (by decide)]; exact hf
  · rw [dui_n (by decide)]; exact h1
  · rw [dui_n (by decide)]; exact h2
  · rw [dui_n (by decide)]; exact h4
theorem fr_go {q : dS} {v : Int32} : dFr [] [22, 24] q (dui q 0 22 v) := dFr.rf.f (by decide)
theorem fr_br {q : dS} {v : Int32} : dFr [] [22, 24] q (dui q 0 24 v) := dFr.rf.f (by decide)
theorem fr_t {q q1 q2 : dS} (h : dFr [] [22, 24] q q1) (h2 : dFr [] [22, 24] q1 q2) : dFr [] [22, 24] q q2 := h.t h2 (by decide) (by decide)
theorem ev_at {o : Bool} {f : Nat → Int32} {e i : Nat} {q : dS} (h : EvQ o f e i q) : dOk (zX10_codeAt q (q.1 0 22)) (fun r => r.2 = q ∧ r.1.toInt = lawC f e i) := by
  obtain ⟨hT, hf, h1, h2, h3, h4, h5⟩ := h
  unfold zX10_codeAt zX10_codeAt_21
  refine dOk_le h2 h1 (fun c => ?_) (fun c => ?_)
  · refine dOk_some ⟨rfl, ?_⟩
    show Int32.toInt 0 = _
    unfold lawC
    rw [if_neg (by omega)]
    decide
  · have t : Int32.toInt (40 + q.1 0 22) = 40 + (i : Int) := ti_add (by decide) h1 (by omega) (by omega)
    refine dOk_G (dg_ok (by omega) (by omega)) ?_
    have n : (Int32.toNatClampNeg (40 + q.1 0 22)) = 40 + i := by
      have := cl_eq (i := 40 + q.1 0 22) (by omega)
      omega
    refine dOk_L (fun v ev => ?_)
    refine dOk_some ⟨rfl, ?_⟩
    show v.toInt = _
    unfold lawC
    rw [if_pos (by omega), ev, n, hf]
theorem ev_pass {o : Bool} {f : Nat → Int32} {e i : Nat} {q : dS} (c : Int32) (hc : ¬ c.toInt = 0) (h : EvQ o f e i q) : dOk (zX10_passes0 q c) (fun r => (r.1 = 1 ∧ lawC f e i = c.toInt ∧ EvQ o f e (i + 1) r.2 ∧ dFr [] [22, 24] q r.2) ∨ (r.1 = 0 ∧ ¬ lawC f e i = c.toInt ∧ r.2 = q)) := by
  unfold zX10_passes0 zX10_passes0_17 zX10_passes0_32
  refine dOk_B (ev_at h) (fun r q3 hr => ?_)
  obtain ⟨e3, e4⟩ := hr
  have e3 : q3 = q := e3
  have e4 : r.toInt = lawC f e i := e4
  subst e3
  refine dOk_eq rfl rfl (fun z z1 => ?_) (fun z z1 => ?_)
  · have hi : i < e := lawC_in (f := f) (e := e) (i := i) (by omega)
    rw [if_neg (by decide)]
    refine dOk_L (fun q4 e5 => ?_)
    refine dOk_G (by decide) (dOk_some (Or.inl ⟨rfl, by omega, ?_, ?_⟩))
    · show EvQ o f e (i + 1) q4
      rw [e5]; exact evq_go h (by omega)
    · show dFr [] [22, 24] q3 q4
      rw [e5]; exact fr_go
  · rw [if_pos rfl]
    exact dOk_G (by decide) (dOk_some (Or.inr ⟨rfl, by omega, rfl⟩))
theorem sg (c : Int32) (h0 : 0 ≤ c.toInt) (h1 : c.toInt ≤ 255) : dOk (zX10_sign c) (fun r => r.toInt = c.toInt + 100) :=
  dOk_mono (ok_sign c ⟨h0, h1⟩) (fun r hr => by first | exact hr | exact hr.1)
theorem ev_bounded {o : Bool} {f : Nat → Int32} {e i : Nat} {q : dS} (x : Int64) (l : Int32) (h : EvQ o f e i q) : dOk (zX10_bounded q x l) (fun r => EvQ o f e i r.2 ∧ dFr [] [22, 24] q r.2) := by
  have h2 : ∀ (q1 : dS), EvQ o f e i q1 → dFr [] [22, 24] q q1 → dOk (zX10_bounded_25 q1 x) (fun r => EvQ o f e i r.2 ∧ dFr [] [22, 24] q r.2) := by
    intro q1 h1 hF
    unfold zX10_bounded_25 zX10_bounded_37
    exact dOk_eq rfl rfl (fun _ _ => dOk_some ⟨h1, hF⟩) (fun _ _ => dOk_some ⟨h1, hF⟩)
  have h3 : dOk (zX10_bounded_20 q x) (fun r => EvQ o f e i r.2 ∧ dFr [] [22, 24] q r.2) := by
    unfold zX10_bounded_20
    refine dOk_L (fun q1 e1 => ?_)
    subst e1
    exact h2 _ (evq_br h (Or.inr (by decide))) fr_br
  unfold zX10_bounded
  refine dOk_eq rfl rfl (fun _ _ => h2 q h dFr.rf) (fun _ _ => ?_)
  refine dOk_lt rfl rfl (fun _ => h3) (fun _ => ?_)
  exact dOk_le rfl rfl (fun _ => h2 q h dFr.rf) (fun _ => h3)
theorem lawC_set {q : dS} {j k : Nat} {v : Int32} (h : ¬ 2 = j) : (dui q j k v).1 2 = q.1 2 := dui_o h
/-- a leaf: behind the bracket's test -/
theorem ev_leaf {kU : dS → Int32 → Option (Int64 × dS)} {o : Bool} {f : Nat → Int32} {e j : Nat} {q : dS} (x1 x2 x3 : Int32) (h : EvQ o f e j q) (h0 : 1 ≤ j) (hje : j ≤ e) (hx : x2.toInt = 50 ∨ (o = false ∧ 8 ≤ x2.toInt ∧ x2.toInt ≤ 16) ∨ o = true) : dOk (zX10_partOf_94 kU q x1 x2 x3) (fun r => EvQ o f e j r.2 ∧ dFr [] [22, 24] q r.2) := by
  have hT := h.1
  have h1 := h.2.2.1
  have h3 := h.2.2.2.2.1
  have h4 := h.2.2.2.2.2.1
  have h5 := h.2.2.2.2.2.2
  unfold zX10_partOf_94 zX10_partOf_105 zX10_partOf_157
  refine dOk_eq rfl rfl (fun _ _ => dOk_some ⟨h, dFr.rf⟩) (fun _ _ => ?_)
  refine dOk_eq rfl rfl (fun _ _ => ?_) (fun _ _ => dOk_some ⟨h, dFr.rf⟩)
  refine dOk_eq (A := x2.toInt) (B := 50) rfl (by decide) (fun _ _ => ?_) (fun _ c50 => ?_)
  · have t1 : Int32.toInt (2840 + q.1 0 22) = 2840 + (j : Int) := ti_add (by decide) h1 (by omega) (by omega)
    have t2 : Int32.toInt (2840 + q.1 0 22 - 1) = 2840 + (j : Int) - 1 := ti_sub t1 (by decide) (by omega) (by omega)
    refine dOk_G (dg_ok (by omega) (by omega)) (dOk_L (fun v ev => dOk_some ⟨h, dFr.rf⟩))
  · refine dOk_eq (A := Int32.toInt (q.1 0 25)) (B := 0) rfl (by decide) (fun _ c => ?_) (fun _ c => ?_)
    · have ho : o = false := by
        cases o with
        | false => rfl
        | true => unfold bI at h4; dsimp only at h4; omega
      have hr : 8 ≤ x2.toInt ∧ x2.toInt ≤ 16 := by
        rcases hx with hx | hx | hx
        · omega
        · exact hx.2
        · rw [ho] at hx; cases hx
      have t1 : Int32.toInt (x2 - 8) = x2.toInt - 8 := ti_sub rfl (by decide) (by omega) (by omega)
      exact dOk_G (dg_ok (by omega) (by omega)) (dOk_L (fun v ev => dOk_some ⟨h, dFr.rf⟩))
    · refine dOk_B (ok_orderValue q x2 x3 hT) (fun r q5 hr => ?_)
      have e5 : q5 = q := by first | exact hr | exact hr.1
      subst e5
      exact dOk_some ⟨h, dFr.rf⟩
theorem ev_part {kU : dS → Int32 → Option (Int64 × dS)} {o : Bool} {f : Nat → Int32} {e : Nat} (d : Nat) (hk : ∀ d', d = d' + 1 → EvL o f e (gSum o (lawC f e) (lawV f) d') kU) : EvL o f e (gPart o (lawC f e) (lawV f) d) (zX10_partOf kU) := by
  intro q p1 i j h hX
  have hX : gLeaf o (lawC f e) (lawV f) i j ∨ ∃ d', d = d' + 1 ∧ lawC f e i = 191 ∧ ∃ m : Nat, gSum o (lawC f e) (lawV f) d' (i + 1) m ∧ lawC f e m = 193 ∧ j = m + 1 := by
    cases d with
    | zero => exact Or.inl hX
    | succ d =>
      rcases hX with hX | hX
      · exact Or.inl hX
      · exact Or.inr ⟨d, rfl, hX⟩
  unfold zX10_partOf
  refine dOk_V (sg 91 (by decide) (by decide)) (fun r1 hr1 => ?_)
  have hr1 : r1.toInt = 191 := hr1
  refine dOk_B (ev_pass r1 (by omega) h) (fun r3 q5 h3 => ?_)
  rcases hX with hX | ⟨d', rfl, hb, m, hm, hm2, rfl⟩
  · -- a leaf
    have hc : ¬ lawC f e i = 0 ∧ ¬ lawC f e i = 191 := by
      cases o with
      | false => have hX : gLeafL (lawC f e) i j := hX; unfold gLeafL at hX; omega
      | true => have hX : gLeafO (lawC f e) (lawV f) i j := hX; unfold gLeafO at hX; omega
    have hi := lawC_in hc.1
    rcases h3 with ⟨_, z, _⟩ | ⟨z0, _, z2⟩
    · exact absurd z (by omega)
    · have z0 : r3 = 0 := z0
      have z2 : q5 = q := z2
      subst z0 z2
      rw [if_pos rfl]
      refine dOk_B (ev_at h) (fun r6 q8 hr => ?_)
      obtain ⟨e3, e4⟩ := hr
      have e3 : q8 = q5 := e3
      have e4 : r6.toInt = lawC f e i := e4
      subst e3
      refine dOk_L (fun q9 e9 => ?_)
      have h9 : EvQ o f e (i + 1) q9 := by rw [e9]; exact evq_go h (by omega)
      have hF9 : dFr [] [22, 24] q8 q9 := by rw [e9]; exact fr_go
      have h25 := h9.2.2.2.2.2.1
      cases o with
      | false =>
        have hX : gLeafL (lawC f e) i j := hX
        unfold gLeafL at hX
        obtain ⟨hx, rfl⟩ := hX
        rw [if_pos (Int32.toInt_inj.mp h25)]
        exact dOk_mono (ev_leaf p1 r6 0 h9 (by omega) (by omega) (by rcases hx with z | z; exact Or.inl (by omega); exact Or.inr (Or.inl ⟨rfl, by omega, by omega⟩))) (fun r hr => ⟨hr.1, fr_t hF9 hr.2⟩)
      | true =>
        have hX : gLeafO (lawC f e) (lawV f) i j := hX
        unfold gLeafO at hX
        rw [if_neg (fun z => by rw [z] at h25; exact absurd h25 (by decide))]
        rcases hX with ⟨hx, rfl⟩ | ⟨hx, hx2, hx3, hx4, rfl⟩
        · refine dOk_eq (A := r6.toInt) (B := 21) rfl (by decide) (fun _ c => by omega) (fun _ _ => ?_)
          refine dOk_eq (A := r6.toInt) (B := 15) rfl (by decide) (fun _ c => by omega) (fun _ _ => ?_)
          exact dOk_mono (ev_leaf p1 r6 0 h9 (by omega) (by omega) (Or.inr (Or.inr rfl))) (fun r hr => ⟨hr.1, fr_t hF9 hr.2⟩)
        · have hi2 : i + 1 < e := lawC_in (f := f) (e := e) (i := i + 1) (by omega)
          have hb : dOk (zX10_partOf_70 kU q9 p1 r6) (fun r => EvQ true f e (i + 2) r.2 ∧ dFr [] [22, 24] q8 r.2) := by
            unfold zX10_partOf_70
            have t1 : Int32.toInt (2840 + q9.1 0 22) = 2840 + ((i + 1 : Nat) : Int) := ti_add (by decide) h9.2.2.1 (by omega) (by have := h9.2.2.2.2.1; omega)
            refine dOk_G (dg_ok (by omega) (by have := h9.2.2.2.2.1; omega)) (dOk_L (fun v ev => dOk_L (fun q3 e3 => ?_)))
            have h10 : EvQ true f e (i + 1 + 1) q3 := by rw [e3]; exact evq_go h9 (by omega)
            have hF10 : dFr [] [22, 24] q9 q3 := by rw [e3]; exact fr_go
            exact dOk_mono (ev_leaf p1 r6 v h10 (by omega) (by omega) (Or.inr (Or.inr rfl))) (fun r hr => ⟨hr.1, fr_t hF9 (fr_t hF10 hr.2)⟩)
          refine dOk_eq (A := r6.toInt) (B := 21) rfl (by decide) (fun _ _ => hb) (fun _ _ => ?_)
          exact dOk_eq (A := r6.toInt) (B := 15) rfl (by decide) (fun _ _ => hb) (fun _ _ => by omega)
  · -- a bracket
    have hme := lawC_in (f := f) (e := e) (i := m) (by omega)
    rcases h3 with ⟨z0, _, z2, z3⟩ | ⟨_, z1, _⟩
    · have z0 : r3 = 1 := z0
      have z2 : EvQ o f e (i + 1) q5 := z2
      subst z0
      rw [if_neg (by decide)]
      refine dOk_B (hk d' rfl q5 p1 (i + 1) m z2 hm) (fun r10 q12 hr => ?_)
      obtain ⟨h12, hF12⟩ := hr
      refine dOk_L (fun q13 e13 => dOk_some ?_)
      show EvQ o f e (m + 1) q13 ∧ dFr [] [22, 24] q q13
      rw [e13]
      exact ⟨evq_go h12 (by omega), fr_t z3 (fr_t hF12 fr_go)⟩
    · exact absurd (show lawC f e i = r1.toInt by omega) z1
end
section
theorem gEnd_tail {op : Nat → Prop} {X : Nat → Nat → Prop} {i j : Nat} (h : gSeq op X i j) : ∃ m : Nat, X i m ∧ ((¬ op m ∧ j = m) ∨ (op m ∧ gSeq op X (m + 1) j)) := by
  obtain ⟨n, h⟩ := h
  cases n with
  | zero => exact ⟨j, h.1, Or.inl ⟨h.2, rfl⟩⟩
  | succ n =>
    obtain ⟨m, h1, h2, h3⟩ := h
    exact ⟨m, h1, Or.inr ⟨h2, n, h3⟩⟩
theorem gEnd_mono {op : Nat → Prop} {X : Nat → Nat → Prop} (hX : ∀ i j : Nat, X i j → i ≤ j) : ∀ (n i j : Nat), gEnd op X n i j → i ≤ j := by
  intro n
  induction n with
  | zero => intro i j h; exact hX i j h.1
  | succ n ih =>
    intro i j h
    obtain ⟨m, h1, h2, h3⟩ := h
    have := hX i m h1
    have := ih (m + 1) j h3
    omega
theorem gSeq_mono {op : Nat → Prop} {X : Nat → Nat → Prop} (hX : ∀ i j : Nat, X i j → i ≤ j) {i j : Nat} (h : gSeq op X i j) : i ≤ j := by
  obtain ⟨n, h⟩ := h
  exact gEnd_mono hX n i j h
theorem gLeaf_mono {o : Bool} {C V : Nat → Int} {i j : Nat} (h : gLeaf o C V i j) : i ≤ j := by
  cases o with
  | false => have h : gLeafL C i j := h; unfold gLeafL at h; omega
  | true => have h : gLeafO C V i j := h; unfold gLeafO at h; omega
theorem gPart_mono {o : Bool} {C V : Nat → Int} : ∀ (d i j : Nat), gPart o C V d i j → i ≤ j := by
  intro d
  induction d with
  | zero => intro i j h; exact gLeaf_mono h
  | succ d ih =>
    intro i j h
    rcases h with h | ⟨_, m, h1, _, rfl⟩
    · exact gLeaf_mono h
    · have := gSeq_mono (fun i j h => gSeq_mono ih h) h1
      omega
theorem gTerm_mono {o : Bool} {C V : Nat → Int} {d i j : Nat} (h : gSeq (gMul C) (gPart o C V d) i j) : i ≤ j := gSeq_mono (gPart_mono d) h
theorem gSum_mono {o : Bool} {C V : Nat → Int} {d i j : Nat} (h : gSum o C V d i j) : i ≤ j := gSeq_mono (fun _ _ h => gTerm_mono h) h
theorem lgz : lg_cmp (0 : Int64) 0 = 0 := by decide
theorem ev_term {kU : dS → Int32 → Option (Int64 × dS)} {o : Bool} {f : Nat → Int32} {e d : Nat} (hp : EvL o f e (gPart o (lawC f e) (lawV f) d) (zX10_partOf kU)) : EvL o f e (gSeq (gMul (lawC f e)) (gPart o (lawC f e) (lawV f) d)) (zX10_termOf kU) := by
  intro q p1 i j h hX
  obtain ⟨m, hXm, ht⟩ := gEnd_tail hX
  unfold zX10_termOf
  refine dOk_B (hp q p1 i m h hXm) (fun r q3 hr => ?_)
  obtain ⟨h3, hF3⟩ := hr
  unfold zX10_termOf_6
  refine dFix_ok (fun (a : dS × Int32 × Int64) => ∃ m : Nat, EvQ o f e m a.1 ∧ dFr [] [22, 24] q a.1 ∧ ((¬ gMul (lawC f e) m ∧ j = m) ∨ (gMul (lawC f e) m ∧ gSeq (gMul (lawC f e)) (gPart o (lawC f e) (lawV f) d) (m + 1) j))) (fun (a : dS × Int32 × Int64) => (2802 - Int32.toInt (a.1.1 0 22)).toNat) ?_ _ ⟨m, h3, hF3, ht⟩ _ (dF_gt ?_)
  · intro a ha k hk
    obtain ⟨qa, x1, x2⟩ := a
    obtain ⟨m, h, hF, ht⟩ := ha
    have h : EvQ o f e m qa := h
    have hF : dFr [] [22, 24] q qa := hF
    have hgo := h.2.2.1
    have hmx := h.2.2.2.2.2.2
    have he := h.2.2.2.2.1
    show dOk (zX10_termOf_6b kU (fun q x1 x2 => k (q, x1, x2)) qa x1 x2) _
    have h54 : gMul (lawC f e) m → gSeq (gMul (lawC f e)) (gPart o (lawC f e) (lawV f) d) (m + 1) j → dOk (zX10_termOf_54 kU (fun q x1 x2 => k (q, x1, x2)) qa x1 x2) (fun r => EvQ o f e j r.2 ∧ dFr [] [22, 24] q r.2) := by
      intro hop hs
      have hme : m < e := lawC_in (f := f) (e := e) (i := m) (by unfold gMul at hop; omega)
      obtain ⟨m', hXm', ht'⟩ := gEnd_tail hs
      have hmm := gPart_mono d _ _ hXm'
      have hback : ∀ (q' : dS) (v : Int64), EvQ o f e m' q' → dFr [] [22, 24] q q' → dOk (k (q', x1, v)) (fun r => EvQ o f e j r.2 ∧ dFr [] [22, 24] q r.2) := by
        intro q' v h' hF'
        refine hk (q', x1, v) ⟨m', h', hF', ht'⟩ ?_
        have := h'.2.2.1
        show (2802 - Int32.toInt (q'.1 0 22)).toNat < (2802 - Int32.toInt (qa.1 0 22)).toNat
        omega
      have h160 : ∀ (q' : dS) (y : Int64), EvQ o f e m' q' → dFr [] [22, 24] q q' → dOk (zX10_termOf_160 kU (fun q x1 x2 => k (q, x1, x2)) q' x1 y) (fun r => EvQ o f e j r.2 ∧ dFr [] [22, 24] q r.2) := by
        intro q' y h' hF'
        unfold zX10_termOf_160
        exact dOk_B (ev_bounded y x1 h') (fun r1 q3 hr => hback q3 r1 hr.1 (fr_t hF' hr.2))
      have h121 : ∀ (q' : dS) (x4 : Int32) (x5 : Int64), (x4.toInt = 142 ∨ ¬ x5 = 0) → EvQ o f e m' q' → dFr [] [22, 24] q q' → dOk (zX10_termOf_121 kU (fun q x1 x2 => k (q, x1, x2)) q' x1 x2 x4 x5) (fun r => EvQ o f e j r.2 ∧ dFr [] [22, 24] q r.2) := by
        intro q' x4 x5 hz h' hF'
        unfold zX10_termOf_121
        refine dOk_V (sg 42 (by decide) (by decide)) (fun r1 hr1 => ?_)
        have hr1 : r1.toInt = 142 := hr1
        refine dOk_eq rfl rfl (fun _ _ => h160 q' _ h' hF') (fun _ c => ?_)
        have hz5 : ¬ x5 = 0 := by
          rcases hz with hz | hz
          · omega
          · exact hz
        refine dOk_V (sg 47 (by decide) (by decide)) (fun r3 hr3 => ?_)
        exact dOk_eq rfl rfl (fun _ _ => dOk_G (dnl_ok hz5) (h160 q' _ h' hF')) (fun _ _ => dOk_G (dnl_ok hz5) (h160 q' _ h' hF'))
      have h115 : ∀ (q' : dS) (x4 y0 : Int32), (y0.toInt = 0 ∨ y0.toInt = 1) → EvQ o f e m' q' → dFr [] [22, 24] q q' → dOk (zX10_termOf_115 kU (fun q x1 x2 => k (q, x1, x2)) q' x1 x2 x4 y0) (fun r => EvQ o f e j r.2 ∧ dFr [] [22, 24] q r.2) := by
        intro q' x4 y0 hy h' hF'
        unfold zX10_termOf_115
        refine dOk_G (dbl_ok hy) (dOk_L (fun q2 e2 => ?_))
        subst e2
        exact h121 _ x4 1 (Or.inr (by decide)) (evq_br h' hy) (fr_t hF' fr_br)
      unfold zX10_termOf_54
      refine dOk_B (ev_at h) (fun r1 q3 hr => ?_)
      obtain ⟨e3, e4⟩ := hr
      have e3 : q3 = qa := e3
      have e4 : r1.toInt = lawC f e m := e4
      subst e3
      refine dOk_L (fun q4 e5 => ?_)
      have h4 : EvQ o f e (m + 1) q4 := by rw [e5]; exact evq_go h (by omega)
      have hF4 : dFr [] [22, 24] q3 q4 := by rw [e5]; exact fr_go
      refine dOk_B (hp q4 x1 (m + 1) m' h4 hXm') (fun r5 q7 hr => ?_)
      obtain ⟨h7, hF7⟩ := hr
      have hF7' := fr_t hF (fr_t hF4 hF7)
      refine dOk_V (sg 42 (by decide) (by decide)) (fun r8 hr8 => ?_)
      have hr8 : r8.toInt = 142 := hr8
      refine dOk_eq rfl rfl (fun _ c => h121 q7 r1 r5 (Or.inl (by omega)) h7 hF7') (fun _ c => ?_)
      refine dOk_eq rfl rfl (fun _ _ => ?_) (fun cz _ => ?_)
      · refine dOk_eq rfl rfl (fun _ _ => ?_) (fun _ _ => ?_)
        · refine dOk_eq rfl rfl (fun _ _ => h115 q7 r1 0 (by decide) h7 hF7') (fun _ _ => ?_)
          unfold zX10_termOf_110
          exact h115 q7 r1 1 (by decide) h7 hF7'
        · unfold zX10_termOf_110
          exact h115 q7 r1 1 (by decide) h7 hF7'
      · refine h121 q7 r1 r5 (Or.inr (fun z => ?_)) h7 hF7'
        rw [z] at cz
        exact cz lgz
    unfold zX10_termOf_6b
    refine dOk_B (ev_at h) (fun r1 q3 hr => ?_)
    obtain ⟨e3, e4⟩ := hr
    have e3 : q3 = qa := e3
    have e4 : r1.toInt = lawC f e m := e4
    subst e3
    refine dOk_V (sg 42 (by decide) (by decide)) (fun r4 hr4 => ?_)
    have hr4 : r4.toInt = 142 := hr4
    refine dOk_eq rfl rfl (fun _ c => ?_) (fun _ c => ?_)
    · rcases ht with ⟨hn, _⟩ | ⟨hop, hs⟩
      · exact absurd (Or.inl (by omega)) hn
      · exact h54 hop hs
    refine dOk_B (ev_at h) (fun r6 q8 hr => ?_)
    obtain ⟨e3, e5⟩ := hr
    have e3 : q8 = q3 := e3
    have e5 : r6.toInt = lawC f e m := e5
    subst e3
    refine dOk_V (sg 47 (by decide) (by decide)) (fun r9 hr9 => ?_)
    have hr9 : r9.toInt = 147 := hr9
    refine dOk_eq rfl rfl (fun _ c => ?_) (fun _ c => ?_)
    · rcases ht with ⟨hn, _⟩ | ⟨hop, hs⟩
      · exact absurd (Or.inr (Or.inl (by omega))) hn
      · exact h54 hop hs
    refine dOk_B (ev_at h) (fun r11 q13 hr => ?_)
    obtain ⟨e3, e6⟩ := hr
    have e3 : q13 = q8 := e3
    have e6 : r11.toInt = lawC f e m := e6
    subst e3
    refine dOk_V (sg 37 (by decide) (by decide)) (fun r14 hr14 => ?_)
    have hr14 : r14.toInt = 137 := hr14
    refine dOk_eq rfl rfl (fun _ c => ?_) (fun _ c => ?_)
    · rcases ht with ⟨hn, _⟩ | ⟨hop, hs⟩
      · exact absurd (Or.inr (Or.inr (by omega))) hn
      · exact h54 hop hs
    · rcases ht with ⟨_, rfl⟩ | ⟨hop, _⟩
      · exact dOk_some ⟨h, hF⟩
      · unfold gMul at hop; omega
  · have h9 : Int32.toInt (q3.1 0 22) = (m : Int) := h3.2.2.1
    show (2802 - Int32.toInt (q3.1 0 22)).toNat < 1000000000000
    omega
theorem ev_sum_o {kU : dS → Int32 → Option (Int64 × dS)} {o : Bool} {f : Nat → Int32} {e d : Nat} (hp : EvL o f e (gSeq (gMul (lawC f e)) (gPart o (lawC f e) (lawV f) d)) (zX10_termOf kU)) : EvL o f e (gSum o (lawC f e) (lawV f) d) (zX10_sumOf_o kU) := by
  intro q p1 i j h hX
  obtain ⟨m, hXm, ht⟩ := gEnd_tail hX
  unfold zX10_sumOf_o
  refine dOk_B (hp q p1 i m h hXm) (fun r q3 hr => ?_)
  obtain ⟨h3, hF3⟩ := hr
  unfold zX10_sumOf_6
  refine dFix_ok (fun (a : dS × Int32 × Int64) => ∃ m : Nat, EvQ o f e m a.1 ∧ dFr [] [22, 24] q a.1 ∧ ((¬ gAdd (lawC f e) m ∧ j = m) ∨ (gAdd (lawC f e) m ∧ gSeq (gAdd (lawC f e)) (gSeq (gMul (lawC f e)) (gPart o (lawC f e) (lawV f) d)) (m + 1) j))) (fun (a : dS × Int32 × Int64) => (2802 - Int32.toInt (a.1.1 0 22)).toNat) ?_ _ ⟨m, h3, hF3, ht⟩ _ (dF_gt ?_)
  · intro a ha k hk
    obtain ⟨qa, x1, x2⟩ := a
    obtain ⟨m, h, hF, ht⟩ := ha
    have h : EvQ o f e m qa := h
    have hF : dFr [] [22, 24] q qa := hF
    have hgo := h.2.2.1
    have hmx := h.2.2.2.2.2.2
    have he := h.2.2.2.2.1
    show dOk (zX10_sumOf_6b kU (fun q x1 x2 => k (q, x1, x2)) qa x1 x2) _
    have h38 : gAdd (lawC f e) m → gSeq (gAdd (lawC f e)) (gSeq (gMul (lawC f e)) (gPart o (lawC f e) (lawV f) d)) (m + 1) j → dOk (zX10_sumOf_38 kU (fun q x1 x2 => k (q, x1, x2)) qa x1 x2) (fun r => EvQ o f e j r.2 ∧ dFr [] [22, 24] q r.2) := by
      intro hop hs
      have hme : m < e := lawC_in (f := f) (e := e) (i := m) (by unfold gAdd at hop; omega)
      obtain ⟨m', hXm', ht'⟩ := gEnd_tail hs
      have hmm := gTerm_mono hXm'
      have hback : ∀ (q' : dS) (v : Int64), EvQ o f e m' q' → dFr [] [22, 24] q q' → dOk (k (q', x1, v)) (fun r => EvQ o f e j r.2 ∧ dFr [] [22, 24] q r.2) := by
        intro q' v h' hF'
        refine hk (q', x1, v) ⟨m', h', hF', ht'⟩ ?_
        have := h'.2.2.1
        show (2802 - Int32.toInt (q'.1 0 22)).toNat < (2802 - Int32.toInt (qa.1 0 22)).toNat
        omega
      have h95 : ∀ (q' : dS) (y : Int64), EvQ o f e m' q' → dFr [] [22, 24] q q' → dOk (zX10_sumOf_95 kU (fun q x1 x2 => k (q, x1, x2)) q' x1 y) (fun r => EvQ o f e j r.2 ∧ dFr [] [22, 24] q r.2) := by
        intro q' y h' hF'
        unfold zX10_sumOf_95
        exact dOk_B (ev_bounded y x1 h') (fun r1 q3 hr => hback q3 r1 hr.1 (fr_t hF' hr.2))
      have h59 : ∀ (y0 : Int32), dOk (zX10_sumOf_59 kU (fun q x1 x2 => k (q, x1, x2)) qa x1 x2 y0) (fun r => EvQ o f e j r.2 ∧ dFr [] [22, 24] q r.2) := by
        intro y0
        unfold zX10_sumOf_59
        refine dOk_L (fun q1 e1 => ?_)
        have h1 : EvQ o f e (m + 1) q1 := by rw [e1]; exact evq_go h (by omega)
        have hF1 : dFr [] [22, 24] qa q1 := by rw [e1]; exact fr_go
        refine dOk_B (hp q1 x1 (m + 1) m' h1 hXm') (fun r2 q4 hr => ?_)
        obtain ⟨h4, hF4⟩ := hr
        have hF5 := fr_t hF (fr_t hF1 hF4)
        exact dOk_eq rfl rfl (fun _ _ => h95 q4 _ h4 hF5) (fun _ _ => h95 q4 _ h4 hF5)
      unfold zX10_sumOf_38
      refine dOk_B (ev_at h) (fun r1 q3 hr => ?_)
      obtain ⟨e3, e4⟩ := hr
      have e3 : q3 = qa := e3
      subst e3
      refine dOk_V (sg 43 (by decide) (by decide)) (fun r4 hr4 => ?_)
      exact dOk_eq rfl rfl (fun _ _ => h59 1) (fun _ _ => h59 0)
    unfold zX10_sumOf_6b
    refine dOk_B (ev_at h) (fun r1 q3 hr => ?_)
    obtain ⟨e3, e4⟩ := hr
    have e3 : q3 = qa := e3
    have e4 : r1.toInt = lawC f e m := e4
    subst e3
    refine dOk_V (sg 43 (by decide) (by decide)) (fun r4 hr4 => ?_)
    have hr4 : r4.toInt = 143 := hr4
    refine dOk_eq rfl rfl (fun _ c => ?_) (fun _ c => ?_)
    · rcases ht with ⟨hn, _⟩ | ⟨hop, hs⟩
      · exact absurd (Or.inl (by omega)) hn
      · exact h38 hop hs
    refine dOk_B (ev_at h) (fun r6 q8 hr => ?_)
    obtain ⟨e3, e5⟩ := hr
    have e3 : q8 = q3 := e3
    have e5 : r6.toInt = lawC f e m := e5
    subst e3
    refine dOk_V (sg 45 (by decide) (by decide)) (fun r9 hr9 => ?_)
    have hr9 : r9.toInt = 145 := hr9
    refine dOk_eq rfl rfl (fun _ c => ?_) (fun _ c => ?_)
    · rcases ht with ⟨hn, _⟩ | ⟨hop, hs⟩
      · exact absurd (Or.inr (by omega)) hn
      · exact h38 hop hs
    · rcases ht with ⟨_, rfl⟩ | ⟨hop, _⟩
      · exact dOk_some ⟨h, hF⟩
      · unfold gAdd at hop; omega
  · have h9 : Int32.toInt (q3.1 0 22) = (m : Int) := h3.2.2.1
    show (2802 - Int32.toInt (q3.1 0 22)).toNat < 1000000000000
    omega
theorem ev_sum {o : Bool} {f : Nat → Int32} {e : Nat} : ∀ (n d : Nat), d < n → EvL o f e (gSum o (lawC f e) (lawV f) d) (zX10_sumOf n) := by
  intro n
  induction n with
  | zero => intro d hd; omega
  | succ n ih =>
    intro d hd q p1 i j h hX
    have h1 : EvL o f e (gSum o (lawC f e) (lawV f) d) (zX10_sumOf_o (zX10_sumOf n)) := ev_sum_o (ev_term (ev_part d (fun d' e' => ih d' (by omega))))
    exact h1 q p1 i j h hX
end
section
def gPos (o : Bool) (C V : Nat → Int) (d i j : Nat) : Prop := gCmp o C V d i j ∨ ∃ d' : Nat, d = d' + 1 ∧ C i = 140 ∧ ∃ n : Nat, gTest o C V d' (i + 1) n ∧ C n = 141 ∧ j = n + 1
theorem gPlain_pos {o : Bool} {C V : Nat → Int} {d i j : Nat} (h : gPlain o C V d i j) : ∃ m : Nat, gNots C i m ∧ gPos o C V d m j := by
  cases d with
  | zero =>
    obtain ⟨m, h1, h2⟩ := h
    exact ⟨m, h1, Or.inl h2⟩
  | succ d =>
    obtain ⟨m, h1, h2⟩ := h
    rcases h2 with h2 | h2
    · exact ⟨m, h1, Or.inl h2⟩
    · exact ⟨m, h1, Or.inr ⟨d, rfl, h2⟩⟩
theorem gPlain_mono {o : Bool} {C V : Nat → Int} : ∀ (d i j : Nat), gPlain o C V d i j → i ≤ j := by
  intro d
  induction d with
  | zero =>
    intro i j h
    obtain ⟨m, h1, h2, n, h3, h4, h5⟩ := h
    have := gSum_mono h3
    have := gSum_mono h5
    have := h1.2.1
    omega
  | succ d ih =>
    intro i j h
    obtain ⟨m, h1, h2⟩ := h
    have := h1.2.1
    rcases h2 with ⟨_, n, h3, h4, h5⟩ | ⟨_, n, h3, _, rfl⟩
    · have := gSum_mono h3
      have := gSum_mono h5
      omega
    · have := gSeq_mono (fun i j h => gSeq_mono ih h) h3
      omega
theorem gBoth_mono {o : Bool} {C V : Nat → Int} {d i j : Nat} (h : gSeq (fun a => C a = 6) (gPlain o C V d) i j) : i ≤ j := gSeq_mono (gPlain_mono d) h
theorem gTest_mono {o : Bool} {C V : Nat → Int} {d i j : Nat} (h : gTest o C V d i j) : i ≤ j := gSeq_mono (fun _ _ h => gBoth_mono h) h
theorem ev_pos {kV : dS → Int32 → Option (Int32 × dS)} {o : Bool} {f : Nat → Int32} {e : Nat} (d : Nat) (hd : d < 10) (hk : ∀ d', d = d' + 1 → EvB o f e (gTest o (lawC f e) (lawV f) d') kV) : EvB o f e (gPos o (lawC f e) (lawV f) d) (zX10_positiveOf kV) := by
  intro q p1 i j h hX
  unfold zX10_positiveOf
  refine dOk_V (sg 40 (by decide) (by decide)) (fun r1 hr1 => ?_)
  have hr1 : r1.toInt = 140 := hr1
  refine dOk_B (ev_pass r1 (by omega) h) (fun r3 q5 h3 => ?_)
  rcases hX with ⟨hn, n, hs1, hc, hs2⟩ | ⟨d', rfl, hb, n, hn, hn2, rfl⟩
  · rcases h3 with ⟨_, z, _⟩ | ⟨z0, _, z2⟩
    · exact absurd z (by omega)
    · have z0 : r3 = 0 := z0
      have z2 : q5 = q := z2
      subst z0 z2
      rw [if_pos rfl]
      have hne : n < e := lawC_in (f := f) (e := e) (i := n) (by omega)
      refine dOk_B (ev_sum 10 d hd q5 p1 i n h hs1) (fun r6 q8 hr => ?_)
      obtain ⟨h8, hF8⟩ := hr
      refine dOk_B (ev_at h8) (fun r9 q11 hr => ?_)
      obtain ⟨e3, e4⟩ := hr
      have e3 : q11 = q8 := e3
      subst e3
      refine dOk_L (fun q12 e12 => ?_)
      have h12 : EvQ o f e (n + 1) q12 := by rw [e12]; exact evq_go h8 (by omega)
      have hF12 : dFr [] [22, 24] q11 q12 := by rw [e12]; exact fr_go
      refine dOk_B (ev_sum 10 d hd q12 p1 (n + 1) j h12 hs2) (fun r13 q15 hr => ?_)
      obtain ⟨h15, hF15⟩ := hr
      have hF := fr_t hF8 (fr_t hF12 hF15)
      have h0 : dOk (zX10_positiveOf_125 kV q15) (fun r => EvQ o f e j r.2 ∧ dFr [] [22, 24] q5 r.2 ∧ (r.1.toInt = 0 ∨ r.1.toInt = 1)) := by
        unfold zX10_positiveOf_125 zX10_positiveOf_126
        exact dOk_G (by decide) (dOk_some ⟨h15, hF, Or.inl (by show Int32.toInt 0 = 0; decide)⟩)
      have h1 : dOk (zX10_positiveOf_121 kV q15) (fun r => EvQ o f e j r.2 ∧ dFr [] [22, 24] q5 r.2 ∧ (r.1.toInt = 0 ∨ r.1.toInt = 1)) := by
        unfold zX10_positiveOf_121 zX10_positiveOf_126
        exact dOk_G (by decide) (dOk_some ⟨h15, hF, Or.inr (by show Int32.toInt 1 = 1; decide)⟩)
      refine dOk_eq rfl rfl (fun _ _ => h0) (fun _ _ => ?_)
      refine dOk_eq rfl rfl (fun _ _ => ?_) (fun _ _ => h0)
      refine dOk_V (sg 60 (by decide) (by decide)) (fun r16 _ => ?_)
      refine dOk_eq rfl rfl (fun _ _ => dOk_le rfl rfl (fun _ => h0) (fun _ => h1)) (fun _ _ => ?_)
      refine dOk_V (sg 62 (by decide) (by decide)) (fun r18 _ => ?_)
      exact dOk_eq rfl rfl (fun _ _ => dOk_le rfl rfl (fun _ => h0) (fun _ => h1)) (fun _ _ => dOk_eq rfl rfl (fun _ _ => h1) (fun _ _ => h0))
  · have hne := lawC_in (f := f) (e := e) (i := n) (by omega)
    rcases h3 with ⟨z0, _, z2, z3⟩ | ⟨_, z1, _⟩
    · have z0 : r3 = 1 := z0
      have z2 : EvQ o f e (i + 1) q5 := z2
      subst z0
      rw [if_neg (by decide)]
      refine dOk_B (hk d' rfl q5 p1 (i + 1) n z2 hn) (fun r20 q22 hr => ?_)
      obtain ⟨h22, hF22, hb22⟩ := hr
      refine dOk_L (fun q23 e23 => dOk_G (dbl_ok hb22) (dOk_some ?_))
      show EvQ o f e (n + 1) q23 ∧ dFr [] [22, 24] q q23 ∧ _
      rw [e23]
      exact ⟨evq_go h22 (by omega), fr_t z3 (fr_t hF22 fr_go), hb22⟩
    · exact absurd (show lawC f e i = r1.toInt by omega) z1
theorem ev_plain {kV : dS → Int32 → Option (Int32 × dS)} {o : Bool} {f : Nat → Int32} {e d : Nat} (hp : EvB o f e (gPos o (lawC f e) (lawV f) d) (zX10_positiveOf kV)) : EvB o f e (gPlain o (lawC f e) (lawV f) d) (zX10_plainOf kV) := by
  intro q p1 i j h hX
  obtain ⟨m, hn, hX⟩ := gPlain_pos hX
  unfold zX10_plainOf zX10_plainOf_2
  refine dFix_ok (fun (a : dS × Int32 × Int32) => ∃ b : Nat, EvQ o f e b a.1 ∧ dFr [] [22, 24] q a.1 ∧ i ≤ b ∧ b ≤ m) (fun (a : dS × Int32 × Int32) => (2802 - Int32.toInt (a.1.1 0 22)).toNat) ?_ _ ⟨i, h, dFr.rf, Nat.le_refl i, hn.2.1⟩ _ (dF_gt ?_)
  · intro a ha k hk
    obtain ⟨qa, x1, x2⟩ := a
    obtain ⟨b, h, hF, hb1, hb2⟩ := ha
    have h : EvQ o f e b qa := h
    have hF : dFr [] [22, 24] q qa := hF
    have hgo := h.2.2.1
    have he := h.2.2.2.2.1
    show dOk (zX10_plainOf_2b kV (fun q x1 x2 => k (q, x1, x2)) qa x1 x2) _
    unfold zX10_plainOf_2b zX10_plainOf_20 zX10_plainOf_38
    refine dOk_B (ev_pass 7 (by decide) h) (fun r1 q3 h3 => ?_)
    rcases h3 with ⟨z0, z1, z2, z3⟩ | ⟨z0, z1, z2⟩
    · have z0 : r1 = 1 := z0
      have z1 : lawC f e b = 7 := z1
      have z2 : EvQ o f e (b + 1) q3 := z2
      have hbe : b < e := lawC_in (f := f) (e := e) (i := b) (by omega)
      have hbm : ¬ b = m := fun z => hn.2.2 (by rw [← z]; exact z1)
      subst z0
      rw [if_neg (by decide)]
      have hback : ∀ y : Int32, dOk (k (q3, x1, y)) (fun r => EvQ o f e j r.2 ∧ dFr [] [22, 24] q r.2 ∧ (r.1.toInt = 0 ∨ r.1.toInt = 1)) := by
        intro y
        refine hk (q3, x1, y) ⟨b + 1, z2, fr_t hF z3, by omega, by omega⟩ ?_
        have hz : Int32.toInt (q3.1 0 22) = ((b + 1 : Nat) : Int) := z2.2.2.1
        have hz2 : ((b + 1 : Nat) : Int) = (b : Int) + 1 := by omega
        show (2802 - Int32.toInt (q3.1 0 22)).toNat < (2802 - Int32.toInt (qa.1 0 22)).toNat
        omega
      exact dOk_eq rfl rfl (fun _ _ => hback 1) (fun _ _ => hback 0)
    · have z0 : r1 = 0 := z0
      have z1 : ¬ lawC f e b = 7 := z1
      have z2 : q3 = qa := z2
      have hbm : b = m := by
        rcases Nat.lt_or_ge b m with c | c
        · exact absurd (hn.1 b hb1 c) z1
        · omega
      subst z0 z2 hbm
      rw [if_pos rfl]
      refine dOk_B (hp q3 x1 b j h hX) (fun r4 q6 hr => ?_)
      obtain ⟨h6, hF6, _⟩ := hr
      exact dOk_eq rfl rfl (fun _ _ => dOk_G (by decide) (dOk_some ⟨h6, fr_t hF hF6, Or.inl (by show Int32.toInt 0 = 0; decide)⟩)) (fun _ _ => dOk_G (by decide) (dOk_some ⟨h6, fr_t hF hF6, Or.inr (by show Int32.toInt 1 = 1; decide)⟩))
  · have := h.2.2.1
    show (2802 - Int32.toInt (q.1 0 22)).toNat < 1000000000000
    omega
theorem ev_both {kV : dS → Int32 → Option (Int32 × dS)} {o : Bool} {f : Nat → Int32} {e d : Nat} (hp : EvB o f e (gPlain o (lawC f e) (lawV f) d) (zX10_plainOf kV)) : EvB o f e (gSeq (fun a => lawC f e a = 6) (gPlain o (lawC f e) (lawV f) d)) (zX10_bothOf kV) := by
  intro q p1 i j h hX
  obtain ⟨m, hXm, ht⟩ := gEnd_tail hX
  unfold zX10_bothOf
  refine dOk_B (hp q p1 i m h hXm) (fun r q3 hr => ?_)
  obtain ⟨h3, hF3, hb3⟩ := hr
  unfold zX10_bothOf_6
  refine dFix_ok (fun (a : dS × Int32 × Int32) => (∃ m : Nat, EvQ o f e m a.1 ∧ dFr [] [22, 24] q a.1 ∧ ((¬ lawC f e m = 6 ∧ j = m) ∨ (lawC f e m = 6 ∧ gSeq (fun a => lawC f e a = 6) (gPlain o (lawC f e) (lawV f) d) (m + 1) j))) ∧ (a.2.2.toInt = 0 ∨ a.2.2.toInt = 1)) (fun (a : dS × Int32 × Int32) => (2802 - Int32.toInt (a.1.1 0 22)).toNat) ?_ _ ⟨⟨m, h3, hF3, ht⟩, hb3⟩ _ (dF_gt ?_)
  · intro a ha k hk
    obtain ⟨qa, x1, x2⟩ := a
    obtain ⟨⟨m, h, hF, ht⟩, hb⟩ := ha
    have h : EvQ o f e m qa := h
    have hF : dFr [] [22, 24] q qa := hF
    have hb : x2.toInt = 0 ∨ x2.toInt = 1 := hb
    have hgo := h.2.2.1
    have he := h.2.2.2.2.1
    show dOk (zX10_bothOf_6b kV (fun q x1 x2 => k (q, x1, x2)) qa x1 x2) _
    unfold zX10_bothOf_6b
    refine dOk_B (ev_pass 6 (by decide) h) (fun r1 q3 h3 => ?_)
    rcases h3 with ⟨z0, z1, z2, z3⟩ | ⟨z0, z1, z2⟩
    · have z0 : r1 = 1 := z0
      have z1 : lawC f e m = 6 := z1
      have z2 : EvQ o f e (m + 1) q3 := z2
      subst z0
      rw [if_neg (by decide)]
      rcases ht with ⟨hn, _⟩ | ⟨_, hs⟩
      · exact absurd z1 hn
      obtain ⟨m', hXm', ht'⟩ := gEnd_tail hs
      have hmm := gPlain_mono d _ _ hXm'
      have hme : m < e := lawC_in (f := f) (e := e) (i := m) (by omega)
      have hback : ∀ (q' : dS) (v : Int32), (v.toInt = 0 ∨ v.toInt = 1) → EvQ o f e m' q' → dFr [] [22, 24] q q' → dOk (k (q', x1, v)) (fun r => EvQ o f e j r.2 ∧ dFr [] [22, 24] q r.2 ∧ (r.1.toInt = 0 ∨ r.1.toInt = 1)) := by
        intro q' v hv h' hF'
        refine hk (q', x1, v) ⟨⟨m', h', hF', ht'⟩, hv⟩ ?_
        have := h'.2.2.1
        show (2802 - Int32.toInt (q'.1 0 22)).toNat < (2802 - Int32.toInt (qa.1 0 22)).toNat
        omega
      have h29 : ∀ y0 : Int32, dOk (zX10_bothOf_29 kV (fun q x1 x2 => k (q, x1, x2)) q3 x1 x2 y0) (fun r => EvQ o f e j r.2 ∧ dFr [] [22, 24] q r.2 ∧ (r.1.toInt = 0 ∨ r.1.toInt = 1)) := by
        intro y0
        unfold zX10_bothOf_29 zX10_bothOf_45 zX10_bothOf_46
        refine dOk_B (hp q3 y0 (m + 1) m' z2 hXm') (fun r4 q4 hr => ?_)
        obtain ⟨h4, hF4, hb4⟩ := hr
        have hF5 := fr_t hF (fr_t z3 hF4)
        exact dOk_eq rfl rfl (fun _ _ => hback q4 0 (by decide) h4 hF5) (fun _ _ => dOk_eq rfl rfl (fun _ _ => hback q4 0 (by decide) h4 hF5) (fun _ _ => hback q4 1 (by decide) h4 hF5))
      unfold zX10_bothOf_28
      exact dOk_eq rfl rfl (fun _ _ => h29 0) (fun _ _ => dOk_eq rfl rfl (fun _ _ => h29 0) (fun _ _ => h29 1))
    · have z0 : r1 = 0 := z0
      have z1 : ¬ lawC f e m = 6 := z1
      have z2 : q3 = qa := z2
      subst z0 z2
      rw [if_pos rfl]
      rcases ht with ⟨_, rfl⟩ | ⟨hop, _⟩
      · exact dOk_G (dbl_ok hb) (dOk_some ⟨h, hF, hb⟩)
      · exact absurd hop z1
  · have h9 : Int32.toInt (q3.1 0 22) = (m : Int) := h3.2.2.1
    show (2802 - Int32.toInt (q3.1 0 22)).toNat < 1000000000000
    omega
theorem ev_test_o {kV : dS → Int32 → Option (Int32 × dS)} {o : Bool} {f : Nat → Int32} {e d : Nat} (hp : EvB o f e (gSeq (fun a => lawC f e a = 6) (gPlain o (lawC f e) (lawV f) d)) (zX10_bothOf kV)) : EvB o f e (gTest o (lawC f e) (lawV f) d) (zX10_testOf_o kV) := by
  intro q p1 i j h hX
  obtain ⟨m, hXm, ht⟩ := gEnd_tail hX
  unfold zX10_testOf_o
  refine dOk_B (hp q p1 i m h hXm) (fun r q3 hr => ?_)
  obtain ⟨h3, hF3, hb3⟩ := hr
  unfold zX10_testOf_6
  refine dFix_ok (fun (a : dS × Int32 × Int32) => (∃ m : Nat, EvQ o f e m a.1 ∧ dFr [] [22, 24] q a.1 ∧ ((¬ lawC f e m = 5 ∧ j = m) ∨ (lawC f e m = 5 ∧ gSeq (fun a => lawC f e a = 5) (gSeq (fun a => lawC f e a = 6) (gPlain o (lawC f e) (lawV f) d)) (m + 1) j))) ∧ (a.2.2.toInt = 0 ∨ a.2.2.toInt = 1)) (fun (a : dS × Int32 × Int32) => (2802 - Int32.toInt (a.1.1 0 22)).toNat) ?_ _ ⟨⟨m, h3, hF3, ht⟩, hb3⟩ _ (dF_gt ?_)
  · intro a ha k hk
    obtain ⟨qa, x1, x2⟩ := a
    obtain ⟨⟨m, h, hF, ht⟩, hb⟩ := ha
    have h : EvQ o f e m qa := h
    have hF : dFr [] [22, 24] q qa := hF
    have hb : x2.toInt = 0 ∨ x2.toInt = 1 := hb
    have hgo := h.2.2.1
    have he := h.2.2.2.2.1
    show dOk (zX10_testOf_6b kV (fun q x1 x2 => k (q, x1, x2)) qa x1 x2) _
    unfold zX10_testOf_6b
    refine dOk_B (ev_pass 5 (by decide) h) (fun r1 q3 h3 => ?_)
    rcases h3 with ⟨z0, z1, z2, z3⟩ | ⟨z0, z1, z2⟩
    · have z0 : r1 = 1 := z0
      have z1 : lawC f e m = 5 := z1
      have z2 : EvQ o f e (m + 1) q3 := z2
      subst z0
      rw [if_neg (by decide)]
      rcases ht with ⟨hn, _⟩ | ⟨_, hs⟩
      · exact absurd z1 hn
      obtain ⟨m', hXm', ht'⟩ := gEnd_tail hs
      have hmm := gBoth_mono hXm'
      have hme : m < e := lawC_in (f := f) (e := e) (i := m) (by omega)
      have hback : ∀ (q' : dS) (v : Int32), (v.toInt = 0 ∨ v.toInt = 1) → EvQ o f e m' q' → dFr [] [22, 24] q q' → dOk (k (q', x1, v)) (fun r => EvQ o f e j r.2 ∧ dFr [] [22, 24] q r.2 ∧ (r.1.toInt = 0 ∨ r.1.toInt = 1)) := by
        intro q' v hv h' hF'
        refine hk (q', x1, v) ⟨⟨m', h', hF', ht'⟩, hv⟩ ?_
        have := h'.2.2.1
        show (2802 - Int32.toInt (q'.1 0 22)).toNat < (2802 - Int32.toInt (qa.1 0 22)).toNat
        omega
      have h28 : ∀ y0 : Int32, dOk (zX10_testOf_28 kV (fun q x1 x2 => k (q, x1, x2)) q3 x1 x2 y0) (fun r => EvQ o f e j r.2 ∧ dFr [] [22, 24] q r.2 ∧ (r.1.toInt = 0 ∨ r.1.toInt = 1)) := by
        intro y0
        unfold zX10_testOf_28 zX10_testOf_40 zX10_testOf_45
        refine dOk_B (hp q3 y0 (m + 1) m' z2 hXm') (fun r4 q4 hr => ?_)
        obtain ⟨h4, hF4, hb4⟩ := hr
        have hF5 := fr_t hF (fr_t z3 hF4)
        exact dOk_eq rfl rfl (fun _ _ => dOk_eq rfl rfl (fun _ _ => hback q4 0 (by decide) h4 hF5) (fun _ _ => hback q4 1 (by decide) h4 hF5)) (fun _ _ => hback q4 1 (by decide) h4 hF5)
      unfold zX10_testOf_27
      exact dOk_eq rfl rfl (fun _ _ => h28 0) (fun _ _ => dOk_eq rfl rfl (fun _ _ => h28 1) (fun _ _ => h28 0))
    · have z0 : r1 = 0 := z0
      have z1 : ¬ lawC f e m = 5 := z1
      have z2 : q3 = qa := z2
      subst z0 z2
      rw [if_pos rfl]
      rcases ht with ⟨_, rfl⟩ | ⟨hop, _⟩
      · exact dOk_G (dbl_ok hb) (dOk_some ⟨h, hF, hb⟩)
      · exact absurd hop z1
  · have h9 : Int32.toInt (q3.1 0 22) = (m : Int) := h3.2.2.1
    show (2802 - Int32.toInt (q3.1 0 22)).toNat < 1000000000000
    omega
theorem ev_test {o : Bool} {f : Nat → Int32} {e : Nat} : ∀ (n d : Nat), d < n → d < 10 → EvB o f e (gTest o (lawC f e) (lawV f) d) (zX10_testOf n) := by
  intro n
  induction n with
  | zero => intro d hd; omega
  | succ n ih =>
    intro d hd hd2 q p1 i j h hX
    have h1 : EvB o f e (gTest o (lawC f e) (lawV f) d) (zX10_testOf_o (zX10_testOf n)) := ev_test_o (ev_both (ev_plain (ev_pos d hd2 (fun d' e' => ih d' (by omega) (by omega)))))
    exact h1 q p1 i j h hX
end
section
theorem lg_ge {x y : Int64} (h : 0 ≤ (lg_cmp x y).toInt) : y.toInt ≤ x.toInt := by
  unfold lg_cmp at h
  by_cases c : x > y
  · have := Int64.lt_iff_toInt_lt.mp c
    omega
  · rw [if_neg c] at h
    by_cases c2 : x = y
    · rw [c2]; exact Int.le_refl _
    · rw [if_neg c2] at h
      exact absurd h (by decide)
theorem lg_le {x y : Int64} (h : (lg_cmp x y).toInt ≤ 0) : x.toInt ≤ y.toInt := by
  unfold lg_cmp at h
  by_cases c : x > y
  · rw [if_pos c] at h
    exact absurd h (by decide)
  · exact Int.not_lt.mp (fun z => c (Int64.lt_iff_toInt_lt.mpr z))
theorem l2i {x : Int64} (h0 : -2147483648 ≤ x.toInt) (h1 : x.toInt ≤ 2147483647) : (Int64.toInt32 x).toInt = x.toInt := by
  rw [Int64.toInt_toInt32]
  exact Int.bmod_eq_of_le (by omega) (by omega)
theorem i2l (x : Int32) : (Int32.toInt64 x).toInt = x.toInt := Int32.toInt_toInt64 x
def rg99 (p2 : Int32) (x : Int64) : Prop := (0 ≤ p2.toInt ∧ p2.toInt ≤ 99) → 0 ≤ x.toInt ∧ x.toInt ≤ 99
theorem fr_w {q q1 : dS} (h : dFr [] [22, 24] q q1) : dFr [] [22, 23, 24, 25] q q1 := h.w (by decide) (by decide)
theorem fr_wt {q q1 q2 : dS} (h : dFr [] [22, 23, 24, 25] q q1) (h2 : dFr [] [22, 24] q1 q2) : dFr [] [22, 23, 24, 25] q q2 := h.t h2 (by decide) (by decide)
theorem ok_tells_L (q : dS) (p2 : Int32) (f : Nat → Int32) (e s0 : Nat) (hL : gSeq (fun i => lawC f e i = 159) (gClause (lawC f e) (lawV f)) s0 e) (q5 : dS) (hQ5 : EvQ false f e s0 q5) (hF5 : dFr [] [22, 23, 24, 25] q q5) (p1 : Int32) (x30 : Int64) (h30 : rg99 p2 x30) : dOk (zX10_tells_60 dF q5 p1 x30) (fun (o : Int32 × dS) => (TS o.2) ∧ (dFr [] [22, 23, 24, 25] q o.2) ∧ ((0 ≤ Int32.toInt p2 ∧ Int32.toInt p2 ≤ 99) → 0 ≤ Int32.toInt o.1 ∧ Int32.toInt o.1 ≤ 99)) := by
  unfold zX10_tells_60
  refine dFix_ok (fun (a : dS × Int32 × Int64) => (∃ i : Nat, EvQ false f e i a.1 ∧ dFr [] [22, 23, 24, 25] q a.1 ∧ (i = e + 1 ∨ gSeq (fun i => lawC f e i = 159) (gClause (lawC f e) (lawV f)) i e)) ∧ rg99 p2 a.2.2) (fun (a : dS × Int32 × Int64) => (2802 - Int32.toInt (a.1.1 0 22)).toNat) ?_ _ ⟨⟨s0, hQ5, hF5, Or.inr hL⟩, h30⟩ _ (dF_gt ?_)
  · intro a ha k hk
    obtain ⟨qa, x1, x3⟩ := a
    obtain ⟨⟨i, h, hF, hs⟩, hr⟩ := ha
    have h : EvQ false f e i qa := h
    have hF : dFr [] [22, 23, 24, 25] q qa := hF
    have hr : rg99 p2 x3 := hr
    have hgo := h.2.2.1
    have hge := h.2.2.2.1
    have hee := h.2.2.2.2.1
    show dOk (zX10_tells_60b (fun q x1 x3 => k (q, x1, x3)) qa x1 x3) _
    unfold zX10_tells_60b
    refine dOk_le hge hgo (fun c => ?_) (fun c => ?_)
    · refine dOk_some ⟨h.1, hF, fun h99 => ?_⟩
      have := hr h99
      show 0 ≤ Int32.toInt (Int64.toInt32 x3) ∧ Int32.toInt (Int64.toInt32 x3) ≤ 99
      rw [l2i (by omega) (by omega)]
      exact this
    rcases hs with hs | hs
    · omega
    obtain ⟨m, hc, htl⟩ := gEnd_tail hs
    have hback : ∀ (q' : dS) (v : Int64), EvQ false f e (m + 1) q' → i ≤ m → dFr [] [22, 23, 24, 25] q q' → rg99 p2 v → dOk (k (q', x1, v)) (fun (o : Int32 × dS) => (TS o.2) ∧ (dFr [] [22, 23, 24, 25] q o.2) ∧ ((0 ≤ Int32.toInt p2 ∧ Int32.toInt p2 ≤ 99) → 0 ≤ Int32.toInt o.1 ∧ Int32.toInt o.1 ≤ 99)) := by
      intro q' v h' hi' hF' hr'
      refine hk (q', x1, v) ⟨⟨m + 1, h', hF', ?_⟩, hr'⟩ ?_
      · rcases htl with ⟨_, rfl⟩ | ⟨_, h2⟩
        · exact Or.inl rfl
        · exact Or.inr h2
      · have := h'.2.2.1
        show (2802 - Int32.toInt (q'.1 0 22)).toNat < (2802 - Int32.toInt (qa.1 0 22)).toNat
        omega
    have hme : m ≤ e := by
      rcases htl with ⟨_, rfl⟩ | ⟨h2, _⟩
      · exact Nat.le_refl _
      · have := lawC_in (f := f) (e := e) (i := m) (by omega)
        omega
    have h199 : ∀ (q' : dS) (v : Int64), EvQ false f e m q' → i ≤ m → dFr [] [22, 23, 24, 25] q q' → rg99 p2 v → dOk (zX10_tells_199 (fun q x1 x3 => k (q, x1, x3)) q' x1 v) (fun (o : Int32 × dS) => (TS o.2) ∧ (dFr [] [22, 23, 24, 25] q o.2) ∧ ((0 ≤ Int32.toInt p2 ∧ Int32.toInt p2 ≤ 99) → 0 ≤ Int32.toInt o.1 ∧ Int32.toInt o.1 ≤ 99)) := by
      intro q' v h' hi' hF' hr'
      unfold zX10_tells_199
      refine dOk_L (fun q1 e1 => ?_)
      subst e1
      exact hback _ v (evq_go h' hme) hi' (fr_wt hF' fr_go) hr'
    have h145 : ∀ (q' : dS) (x5 : Int32) (x6 : Int64) (x8 y0 : Int32), EvQ false f e m q' → i ≤ m → dFr [] [22, 23, 24, 25] q q' → dOk (zX10_tells_145 (fun q x1 x3 => k (q, x1, x3)) q' x1 x3 x5 x6 x8 y0) (fun (o : Int32 × dS) => (TS o.2) ∧ (dFr [] [22, 23, 24, 25] q o.2) ∧ ((0 ≤ Int32.toInt p2 ∧ Int32.toInt p2 ≤ 99) → 0 ≤ Int32.toInt o.1 ∧ Int32.toInt o.1 ≤ 99)) := by
      intro q' x5 x6 x8 y0 h' hi' hF'
      have h0 := h199 q' x3 h' hi' hF' hr
      unfold zX10_tells_145 zX10_tells_198
      refine dOk_eq rfl rfl (fun _ _ => ?_) (fun _ _ => h0)
      refine dOk_eq rfl rfl (fun _ _ => h0) (fun _ _ => ?_)
      refine dOk_eq rfl rfl (fun _ _ => ?_) (fun _ _ => h0)
      refine dOk_eq rfl rfl (fun _ _ => ?_) (fun _ _ => h0)
      refine dOk_le (A := 0) (by decide) rfl (fun c1 => ?_) (fun _ => h199 q' 0 h' hi' hF' (fun _ => by decide))
      refine dOk_le (B := 0) rfl (by decide) (fun c2 => ?_) (fun _ => h199 q' 99 h' hi' hF' (fun _ => by decide))
      have a1 := lg_ge c1
      have a2 := lg_le c2
      have z0 : (0 : Int64).toInt = 0 := by decide
      have z9 : (99 : Int64).toInt = 99 := by decide
      exact h199 q' x6 h' hi' hF' (fun _ => by omega)
    have h111 : ∀ (q' : dS) (x5 : Int32) (y0 : Int64) (m1 : Nat), EvQ false f e m1 q' → i ≤ m1 → gIf false (lawC f e) (lawV f) m1 m → dFr [] [22, 23, 24, 25] q q' → dOk (zX10_tells_111 (fun q x1 x3 => k (q, x1, x3)) q' x1 x3 x5 y0) (fun (o : Int32 × dS) => (TS o.2) ∧ (dFr [] [22, 23, 24, 25] q o.2) ∧ ((0 ≤ Int32.toInt p2 ∧ Int32.toInt p2 ≤ 99) → 0 ≤ Int32.toInt o.1 ∧ Int32.toInt o.1 ≤ 99)) := by
      intro q' x5 y0 m1 h' hi' hif hF'
      unfold zX10_tells_111 zX10_tells_140
      refine dOk_L (fun q1 e1 => ?_)
      have h1 : EvQ false f e m1 q1 := by rw [e1]; exact evq_br h' (by decide)
      have hF1 : dFr [] [22, 23, 24, 25] q q1 := by rw [e1]; exact fr_wt hF' fr_br
      refine dOk_B (ev_pass 4 (by decide) h1) (fun r2 q4 h3 => ?_)
      rcases h3 with ⟨z0, z1, z2, z3⟩ | ⟨z0, z1, z2⟩
      · have z0 : r2 = 1 := z0
        have z1 : lawC f e m1 = 4 := z1
        subst z0
        rw [if_neg (by decide)]
        rcases hif with ⟨_, hte⟩ | ⟨hn, _⟩
        · have hmo := gTest_mono hte
          refine dOk_B (ev_test 10 8 (by decide) (by decide) q4 1 (m1 + 1) m z2 hte) (fun r5 q7 hr7 => ?_)
          obtain ⟨h7, hF7, _⟩ := hr7
          have hF8 := fr_wt (fr_wt hF1 z3) hF7
          exact dOk_eq rfl rfl (fun _ _ => h145 q7 _ _ _ _ h7 (by omega) hF8) (fun _ _ => h145 q7 _ _ _ _ h7 (by omega) hF8)
        · exact absurd z1 hn
      · have z0 : r2 = 0 := z0
        have z1 : ¬ lawC f e m1 = 4 := z1
        have z2 : q4 = q1 := z2
        subst z0 z2
        rw [if_pos rfl]
        rcases hif with ⟨h4, _⟩ | ⟨_, rfl⟩
        · exact absurd h4 z1
        · exact h145 q4 _ _ _ _ h1 hi' hF1
    refine dOk_B (ev_at h) (fun r1 q3 hr3 => ?_)
    obtain ⟨e3, e4⟩ := hr3
    have e3 : q3 = qa := e3
    have e4 : r1.toInt = lawC f e i := e4
    subst e3
    refine dOk_L (fun q4 e5 => dOk_L (fun q6 e6 => ?_))
    have h4 : EvQ false f e i q4 := by rw [e5]; exact evq_br h (by decide)
    have h6 : EvQ false f e (i + 1) q6 := by rw [e6]; exact evq_go h4 (by omega)
    have hF6 : dFr [] [22, 23, 24, 25] q q6 := by rw [e6]; refine fr_wt ?_ fr_go; rw [e5]; exact fr_wt hF fr_br
    rcases hc with ⟨hc1, m1, hsum, hif⟩ | ⟨hc1, hif⟩
    · have hr1 : r1 = 1 := Int32.toInt_inj.mp (by rw [e4, hc1]; decide)
      rw [if_pos hr1]
      have hmo := gSum_mono hsum
      refine dOk_B (ev_sum 10 8 (by decide) q6 1 (i + 1) m1 h6 hsum) (fun r6 q8 hr8 => ?_)
      exact h111 q8 r1 r6 m1 hr8.1 (by omega) hif (fr_wt hF6 hr8.2)
    · have hr1 : ¬ r1 = 1 := fun z => by
        have z2 : r1.toInt = 1 := by rw [z]; decide
        omega
      rw [if_neg hr1]
      exact h111 q6 r1 1 (i + 1) h6 (by omega) hif hF6
  · have h9 := hQ5.2.2.1
    show (2802 - Int32.toInt (q5.1 0 22)).toNat < 1000000000000
    omega
theorem ok_tells (q : dS) (p1 : Int32) (p2 : Int32) (hT : TS q) : dOk (zX10_tells q p1 p2) (fun (o : Int32 × dS) => (TS o.2) ∧ (dFr [] [22, 23, 24, 25] q o.2) ∧ ((0 ≤ Int32.toInt p2 ∧ Int32.toInt p2 ≤ 99) → 0 ≤ Int32.toInt o.1 ∧ Int32.toInt o.1 ≤ 99)) := by
  unfold zX10_tells
  have f32 : -1 ≤ Int32.toInt (q.1 2 32) ∧ Int32.toInt (q.1 2 32) ≤ 5 := hT.1 2 32
  have f31 : 0 ≤ Int32.toInt (q.1 2 31) ∧ Int32.toInt (q.1 2 31) ≤ 6 := hT.1 2 31
  have k32 : Int32.toInt (q.1 2 32) < Int32.toInt (q.1 2 31) := hT.2.1.1
  refine dOk_eq (A := Int32.toInt (q.1 2 32)) (B := -1) rfl (by decide) (fun _ _ => dOk_some ⟨hT, dFr.rf, fun h => h⟩) (fun _ c32 => ?_)
  refine dOk_L (fun q1 e1 => dOk_L (fun q2 e2 => ?_))
  have hT1 : TS q1 := by rw [e1]; exact ts_f hT (by decide) (by decide)
  have w1 : q1.1 2 = q.1 2 := by rw [e1, dui_o (by decide)]
  have t400 : Int32.toInt (400 * q1.1 2 32) = 400 * Int32.toInt (q.1 2 32) := by rw [w1]; exact ti_mul (by decide) rfl (by omega) (by omega)
  have hT2 : TS q2 := by rw [e2]; exact ts_f hT1 (ti_rg _).1 (ti_rg _).2
  have w2 : q2.1 2 = q.1 2 := by rw [e2, dui_o (by decide)]; exact w1
  have t33 : Int32.toInt (33 + q2.1 2 32) = 33 + Int32.toInt (q.1 2 32) := by rw [w2]; exact ti_add (by decide) rfl (by omega) (by omega)
  refine dOk_G (dg_ok (by omega) (by omega)) (dOk_L (fun v4 e4 => dOk_L (fun q5 e5 => ?_)))
  obtain ⟨t, ht⟩ : ∃ t : Nat, (t : Int) = Int32.toInt (q.1 2 32) := ⟨(Int32.toInt (q.1 2 32)).toNat, by omega⟩
  have n33 : Int32.toNatClampNeg (33 + q2.1 2 32) = 33 + t := by
    have := cl_eq (i := 33 + q2.1 2 32) (by omega)
    omega
  have e4' : v4 = q.1 2 (33 + t) := by rw [e4, n33, w2]
  have f4 := te_2z hT (i := 33 + t) (by omega) (by omega)
  rw [← e4'] at f4
  have hT5 : TS q5 := by rw [e5]; exact ts_f hT2 (ti_rg _).1 (ti_rg _).2
  have w5 : q5.1 2 = q.1 2 := by rw [e5, dui_o (by decide)]; exact w2
  have g2 : q2.1 0 22 = 400 * q1.1 2 32 := by rw [e2, dui_e]
  have g5 : Int32.toInt (q5.1 0 22) = 400 * (t : Int) := by rw [e5, dui_n (by decide), g2, t400]; omega
  have g23 : Int32.toInt (q5.1 0 23) = 400 * (t : Int) + v4.toInt := by
    rw [e5, dui_e]
    exact (ti_add (A := 400 * (t : Int)) (B := v4.toInt) (by rw [g2, t400]; omega) rfl (by omega) (by omega))
  have g25 : Int32.toInt (q5.1 0 25) = 0 := by rw [e5, dui_n (by decide), e2, dui_n (by decide), e1, dui_e]; decide
  have hF5 : dFr [] [22, 23, 24, 25] q q5 := by
    rw [e5]
    refine dFr.f ?_ (by decide)
    rw [e2]
    refine dFr.f ?_ (by decide)
    rw [e1]
    exact dFr.rf.f (by decide)
  have hE : lawE (q.1 2) t = 400 * t + v4.toInt.toNat := by unfold lawE; rw [← e4']
  have hL := hT.2.1.2 t (by omega) (by omega)
  unfold LawOk at hL
  have hQ5 : EvQ false (q.1 2) (lawE (q.1 2) t) (400 * t) q5 := ⟨hT5, w5, by omega, by rw [hE]; omega, by rw [hE]; omega, g25, by rw [hE]; omega⟩
  exact ok_tells_L q p2 (q.1 2) (lawE (q.1 2) t) (400 * t) hL q5 hQ5 hF5 p1 _ (fun h => by rw [i2l]; exact h)
end
section
set_option maxHeartbeats 4000000 in
set_option maxRecDepth 100000 in
theorem ok_paysNow (q : dS) (hT : TS q) : dOk (zX10_paysNow q) (fun (o : Int32 × dS) => (TS o.2) ∧ (dFr [] [22, 23, 24, 25] q o.2) ∧ ((0 ≤ Int32.toInt (q.1 12 0) ∧ Int32.toInt (q.1 12 0) ≤ 99) → 0 ≤ Int32.toInt o.1 ∧ Int32.toInt o.1 ≤ 99)) := by
  unfold zX10_paysNow
  refine dOk_B (ok_tells q 1 (q.1 12 0) hT) (fun r_1 q_2 h_3 => ?_)
  replace h_3 : (TS q_2) ∧ (dFr [] [22, 23, 24, 25] q q_2) ∧ ((0 ≤ Int32.toInt (q.1 12 0) ∧ Int32.toInt (q.1 12 0) ≤ 99) → 0 ≤ Int32.toInt r_1 ∧ Int32.toInt r_1 ≤ 99) := h_3
  obtain ⟨i_4, i_5, i_6⟩ := h_3
  have hFq_2 : dFr [] [22, 23, 24, 25] q q_2 := (dFr.rf (q := q)).t i_5 (by decide) (by decide)
  exact dOk_some (show (TS q_2) ∧ (dFr [] [22, 23, 24, 25] q q_2) ∧ ((0 ≤ Int32.toInt (q.1 12 0) ∧ Int32.toInt (q.1 12 0) ≤ 99) → 0 ≤ Int32.toInt r_1 ∧ Int32.toInt r_1 ≤ 99) from ⟨i_4, hFq_2, by omega⟩)

set_option maxHeartbeats 4000000 in
set_option maxRecDepth 100000 in
theorem ok_isNow (q : dS) (p1 : Int32) (hT : TS q) : dOk (zX10_isNow q p1) (fun (o : Int32 × dS) => (TS o.2) ∧ (dFr [] [22, 23, 24, 25] q o.2) ∧ ((Int32.toInt o.1 = 0 ∨ Int32.toInt o.1 = 1))) := by
  unfold zX10_isNow
  refine dOk_B (ok_tells q p1 0 hT) (fun r_1 q_2 h_3 => ?_)
  replace h_3 : (TS q_2) ∧ (dFr [] [22, 23, 24, 25] q q_2) ∧ ((0 ≤ (0 : Int) ∧ (0 : Int) ≤ 99) → 0 ≤ Int32.toInt r_1 ∧ Int32.toInt r_1 ≤ 99) := h_3
  obtain ⟨i_4, i_5, i_6⟩ := h_3
  have hFq_2 : dFr [] [22, 23, 24, 25] q q_2 := (dFr.rf (q := q)).t i_5 (by decide) (by decide)
  refine dOk_eq (A := Int32.toInt r_1) (B := 1) rfl (by decide) (fun c_7z c_7 => ?_) (fun c_8z c_8 => ?_)
  · unfold zX10_isNow_15
    refine dOk_G (dbl_ok (show (1 : Int) = 0 ∨ (1 : Int) = 1 by omega)) ?_
    exact dOk_some (show (TS q_2) ∧ (dFr [] [22, 23, 24, 25] q q_2) ∧ (((1 : Int) = 0 ∨ (1 : Int) = 1)) from ⟨i_4, hFq_2, by omega⟩)
  · unfold zX10_isNow_15
    refine dOk_G (dbl_ok (show (0 : Int) = 0 ∨ (0 : Int) = 1 by omega)) ?_
    exact dOk_some (show (TS q_2) ∧ (dFr [] [22, 23, 24, 25] q q_2) ∧ (((0 : Int) = 0 ∨ (0 : Int) = 1)) from ⟨i_4, hFq_2, by omega⟩)

set_option maxHeartbeats 4000000 in
set_option maxRecDepth 100000 in
theorem ok_tipsAt (q : dS) (p1 : Int32) (hT : TS q) (hp0 : 0 ≤ Int32.toInt p1) (hp1 : Int32.toInt p1 < 6) : dOk (zX10_tipsAt q p1) (fun (o : Int32 × dS) => (TS o.2) ∧ (dFr [12] [22, 23, 24, 25] q o.2) ∧ ((Int32.toInt o.1 = 0 ∨ Int32.toInt o.1 = 1))) := by
  unfold zX10_tipsAt
  refine dOk_V (ok_setsFloor q p1 hT (show 0 ≤ Int32.toInt p1 by omega) (show Int32.toInt p1 < 6 by omega)) (fun q_1 h_2 => ?_)
  replace h_2 : (TS q_1) ∧ (dFr [12] [] q q_1) := h_2
  obtain ⟨i_3, i_4⟩ := h_2
  have hFq_1 : dFr [12] [22, 23, 24, 25] q q_1 := (dFr.rf (q := q)).t i_4 (by decide) (by decide)
  refine dOk_B (ok_isNow q_1 3 i_3) (fun r_5 q_6 h_7 => ?_)
  replace h_7 : (TS q_6) ∧ (dFr [] [22, 23, 24, 25] q_1 q_6) ∧ ((Int32.toInt r_5 = 0 ∨ Int32.toInt r_5 = 1)) := h_7
  obtain ⟨i_8, i_9, i_10⟩ := h_7
  have hFq_6 : dFr [12] [22, 23, 24, 25] q q_6 := hFq_1.t i_9 (by decide) (by decide)
  refine dOk_G (dbl_ok (show Int32.toInt r_5 = 0 ∨ Int32.toInt r_5 = 1 by omega)) ?_
  exact dOk_some (show (TS q_6) ∧ (dFr [12] [22, 23, 24, 25] q q_6) ∧ ((Int32.toInt r_5 = 0 ∨ Int32.toInt r_5 = 1)) from ⟨i_8, hFq_6, by omega⟩)

set_option maxHeartbeats 4000000 in
set_option maxRecDepth 100000 in
theorem ok_canTurn (q : dS) (p1 : Int32) (hT : TS q) (hp0 : 1 ≤ Int32.toInt p1) : dOk (zX10_canTurn q p1) (fun (o : Int32 × dS) => (TS o.2) ∧ (dFr [12] [22, 23, 24, 25] q o.2) ∧ ((Int32.toInt o.1 = 1 ∧ Int32.toInt p1 ≤ Int32.toInt (q.1 2 29)) ∨ Int32.toInt o.1 = 0)) := by
  unfold zX10_canTurn
  refine dOk_B (ok_size q hT) (fun r_1 q_2 h_3 => ?_)
  replace h_3 : (q_2 = q) ∧ (Int32.toInt r_1 = Int32.toInt (q.1 2 29)) ∧ (0 ≤ Int32.toInt r_1 ∧ Int32.toInt r_1 ≤ 6) := h_3
  obtain ⟨i_4, i_5, i_6⟩ := h_3
  subst q_2
  have f_7 : 0 ≤ Int32.toInt (q.1 2 29) ∧ Int32.toInt (q.1 2 29) ≤ 6 := hT.1 2 29
  refine dOk_le (A := Int32.toInt p1) (B := Int32.toInt r_1) rfl rfl (fun c_8 => ?_) (fun c_9 => ?_)
  · refine dOk_B (ok_rankBelow q p1 hT (show 0 ≤ Int32.toInt p1 by omega)) (fun r_10 q_11 h_12 => ?_)
    replace h_12 : (q_11 = q) ∧ (-1 ≤ Int32.toInt r_10 ∧ Int32.toInt r_10 ≤ 5) := h_12
    obtain ⟨i_13, i_14⟩ := h_12
    subst q_11
    have f_15 : 0 ≤ Int32.toInt (q.1 2 0) ∧ Int32.toInt (q.1 2 0) ≤ 5 := hT.1 2 0
    have f_16 : 0 ≤ Int32.toInt (q.1 2 6) ∧ Int32.toInt (q.1 2 6) ≤ 1 := hT.1 2 6
    refine dOk_V (ok_setsTurn q p1 (q.1 2 0) r_10 (q.1 2 6) hT) (fun q_17 h_18 => ?_)
    replace h_18 : (TS q_17) ∧ (dFr [12] [] q q_17) ∧ (Int32.toInt (q_17.1 12 0) = Int32.toInt p1) := h_18
    obtain ⟨i_19, i_20, i_21⟩ := h_18
    have hFq_17 : dFr [12] [22, 23, 24, 25] q q_17 := (dFr.rf (q := q)).t i_20 (by decide) (by decide)
    refine dOk_B (ok_isNow q_17 2 i_19) (fun r_22 q_23 h_24 => ?_)
    replace h_24 : (TS q_23) ∧ (dFr [] [22, 23, 24, 25] q_17 q_23) ∧ ((Int32.toInt r_22 = 0 ∨ Int32.toInt r_22 = 1)) := h_24
    obtain ⟨i_25, i_26, i_27⟩ := h_24
    have hFq_23 : dFr [12] [22, 23, 24, 25] q q_23 := hFq_17.t i_26 (by decide) (by decide)
    refine dOk_eq (A := Int32.toInt r_22) (B := 0) rfl (by decide) (fun c_28z c_28 => ?_) (fun c_29z c_29 => ?_)
    · unfold zX10_canTurn_46
      refine dOk_G (dbl_ok (show (1 : Int) = 0 ∨ (1 : Int) = 1 by omega)) ?_
      exact dOk_some (show (TS q_23) ∧ (dFr [12] [22, 23, 24, 25] q q_23) ∧ (((1 : Int) = 1 ∧ Int32.toInt p1 ≤ Int32.toInt (q.1 2 29)) ∨ (1 : Int) = 0) from ⟨i_25, hFq_23, by omega⟩)
    · unfold zX10_canTurn_46
      refine dOk_G (dbl_ok (show (0 : Int) = 0 ∨ (0 : Int) = 1 by omega)) ?_
      exact dOk_some (show (TS q_23) ∧ (dFr [12] [22, 23, 24, 25] q q_23) ∧ (((0 : Int) = 1 ∧ Int32.toInt p1 ≤ Int32.toInt (q.1 2 29)) ∨ (0 : Int) = 0) from ⟨i_25, hFq_23, by omega⟩)
  · exact dOk_some (show (TS q) ∧ (dFr [12] [22, 23, 24, 25] q q) ∧ (((0 : Int) = 1 ∧ Int32.toInt p1 ≤ Int32.toInt (q.1 2 29)) ∨ (0 : Int) = 0) from ⟨hT, (dFr.rf (q := q)), by omega⟩)

set_option maxHeartbeats 4000000 in
set_option maxRecDepth 100000 in
theorem ok_turns (q : dS) (p1 : Int32) (hT : TS q) (hp0 : 1 ≤ Int32.toInt p1) (hp1 : Int32.toInt p1 ≤ Int32.toInt (q.1 2 29)) : dOk (zX10_turns q p1) (fun (o : Int32 × dS) => (TS o.2) ∧ (dFk [2, 12] [22, 23, 24, 25] q o.2) ∧ (0 ≤ Int32.toInt o.1 ∧ Int32.toInt o.1 ≤ 99) ∧ (Int32.toInt (o.2.1 2 29) = Int32.toInt (q.1 2 29)) ∧ (Int32.toInt (o.2.1 2 13) = Int32.toInt (q.1 2 13))) := by
  unfold zX10_turns
  refine dOk_B (ok_rankBelow q p1 hT (show 0 ≤ Int32.toInt p1 by omega)) (fun r_1 q_2 h_3 => ?_)
  replace h_3 : (q_2 = q) ∧ (-1 ≤ Int32.toInt r_1 ∧ Int32.toInt r_1 ≤ 5) := h_3
  obtain ⟨i_4, i_5⟩ := h_3
  subst q_2
  have f_6 : 0 ≤ Int32.toInt (q.1 2 0) ∧ Int32.toInt (q.1 2 0) ≤ 5 := hT.1 2 0
  have f_7 : 0 ≤ Int32.toInt (q.1 2 6) ∧ Int32.toInt (q.1 2 6) ≤ 1 := hT.1 2 6
  refine dOk_V (ok_setsTurn q p1 (q.1 2 0) r_1 (q.1 2 6) hT) (fun q_8 h_9 => ?_)
  replace h_9 : (TS q_8) ∧ (dFr [12] [] q q_8) ∧ (Int32.toInt (q_8.1 12 0) = Int32.toInt p1) := h_9
  obtain ⟨i_10, i_11, i_12⟩ := h_9
  have hFq_8 : dFk [2, 12] [22, 23, 24, 25] q q_8 := (dFk.rf (q := q)).tr i_11 (by decide) (by decide) (by decide)
  refine dOk_B (ok_paysNow q_8 i_10) (fun r_13 q_14 h_15 => ?_)
  replace h_15 : (TS q_14) ∧ (dFr [] [22, 23, 24, 25] q_8 q_14) ∧ ((0 ≤ Int32.toInt (q_8.1 12 0) ∧ Int32.toInt (q_8.1 12 0) ≤ 99) → 0 ≤ Int32.toInt r_13 ∧ Int32.toInt r_13 ≤ 99) := h_15
  obtain ⟨i_16, i_17, i_18⟩ := h_15
  have hFq_14 : dFk [2, 12] [22, 23, 24, 25] q q_14 := hFq_8.tr i_17 (by decide) (by decide) (by decide)
  unfold zX10_turns_30
  refine dFix_ok (fun (a : dS × Int32 × Int32 × Int32) => (TS a.1) ∧ (dFk [2] [] q_14 a.1) ∧ (a.2.1 = p1) ∧ (a.2.2.1 = r_13) ∧ (0 ≤ Int32.toInt a.2.2.2) ∧ (Int32.toInt a.2.2.2 ≤ 6) ∧ (Int32.toInt (a.1.1 2 29) = Int32.toInt (q_14.1 2 29)) ∧ (Int32.toInt (a.1.1 2 13) = Int32.toInt (q_14.1 2 13))) (fun (a : dS × Int32 × Int32 × Int32) => (6 - Int32.toInt a.2.2.2).toNat) ?_ _ ?_ _ (dF_gt ?_)
  · intro a ha k_20 hk_19
    obtain ⟨q_21, x1_22, x2_23, x3_24⟩ := a
    replace ha : (TS q_21) ∧ (dFk [2] [] q_14 q_21) ∧ (x1_22 = p1) ∧ (x2_23 = r_13) ∧ (0 ≤ Int32.toInt x3_24) ∧ (Int32.toInt x3_24 ≤ 6) ∧ (Int32.toInt (q_21.1 2 29) = Int32.toInt (q_14.1 2 29)) ∧ (Int32.toInt (q_21.1 2 13) = Int32.toInt (q_14.1 2 13)) := ha
    obtain ⟨a_25, a_26, a_27, a_28, a_29, a_30, a_31, a_32⟩ := ha
    show dOk (zX10_turns_30b  (fun q x1 x2 x3 => k_20 (q, x1, x2, x3)) q_21 x1_22 x2_23 x3_24) _
    unfold zX10_turns_30b
    have hFq_21 : dFk [2, 12] [22, 23, 24, 25] q q_21 := hFq_14.t a_26 (by decide) (by decide)
    subst x1_22
    subst x2_23
    have f_33 : 0 ≤ Int32.toInt (q_21.1 2 29) ∧ Int32.toInt (q_21.1 2 29) ≤ 6 := a_25.1 2 29
    have f_34 : 0 ≤ Int32.toInt (q_14.1 2 29) ∧ Int32.toInt (q_14.1 2 29) ≤ 6 := i_16.1 2 29
    have f_35 : 0 ≤ Int32.toInt (q_8.1 2 29) ∧ Int32.toInt (q_8.1 2 29) ≤ 6 := i_10.1 2 29
    have f_36 : 0 ≤ Int32.toInt (q.1 2 29) ∧ Int32.toInt (q.1 2 29) ≤ 6 := hT.1 2 29
    have w_37 : Int32.toInt (q_8.1 2 29) = Int32.toInt (q.1 2 29) := by rw [i_11.1 2 (by decide) (by decide)]
    have w_38 : Int32.toInt (q_14.1 2 29) = Int32.toInt (q_8.1 2 29) := by rw [i_17.1 2 (by decide) (by decide)]
    have w_39 : Int32.toInt (q_21.1 2 29) = Int32.toInt (q_14.1 2 29) := by rw [a_26.2 29 (by decide)]
    have f_40 : 0 ≤ Int32.toInt (q_21.1 2 13) ∧ Int32.toInt (q_21.1 2 13) ≤ 999 := a_25.1 2 13
    have f_41 : 0 ≤ Int32.toInt (q_14.1 2 13) ∧ Int32.toInt (q_14.1 2 13) ≤ 999 := i_16.1 2 13
    have f_42 : 0 ≤ Int32.toInt (q_8.1 2 13) ∧ Int32.toInt (q_8.1 2 13) ≤ 999 := i_10.1 2 13
    have f_43 : 0 ≤ Int32.toInt (q.1 2 13) ∧ Int32.toInt (q.1 2 13) ≤ 999 := hT.1 2 13
    have w_44 : Int32.toInt (q_8.1 2 13) = Int32.toInt (q.1 2 13) := by rw [i_11.1 2 (by decide) (by decide)]
    have w_45 : Int32.toInt (q_14.1 2 13) = Int32.toInt (q_8.1 2 13) := by rw [i_17.1 2 (by decide) (by decide)]
    try have t_46 : Int32.toInt (p1 - 1) = Int32.toInt p1 - 1 := ti_sub rfl (by decide) (by omega) (by omega)
    try have t_47 : Int32.toInt (2 * x3_24) = 2 * Int32.toInt x3_24 := ti_mul (by decide) rfl (by omega) (by omega)
    refine dOk_le (A := Int32.toInt (p1 - 1)) (B := Int32.toInt (2 * x3_24)) rfl rfl (fun c_48 => ?_) (fun c_49 => ?_)
    · unfold zX10_turns_57
      refine dFix_ok (fun (a : dS × Int32 × Int32 × Int32) => (TS a.1) ∧ (dFk [2] [] q_21 a.1) ∧ (a.2.1 = p1) ∧ (a.2.2.1 = r_13) ∧ (0 ≤ Int32.toInt a.2.2.2) ∧ (Int32.toInt a.2.2.2 ≤ 6) ∧ (Int32.toInt (a.1.1 2 29) = Int32.toInt (q_21.1 2 29)) ∧ (Int32.toInt (a.1.1 2 13) = Int32.toInt (q_21.1 2 13))) (fun (a : dS × Int32 × Int32 × Int32) => (6 - Int32.toInt a.2.2.2).toNat) ?_ _ ?_ _ (dF_gt ?_)
      · intro a ha k_51 hk_50
        obtain ⟨q_52, x1_53, x2_54, x3_55⟩ := a
        replace ha : (TS q_52) ∧ (dFk [2] [] q_21 q_52) ∧ (x1_53 = p1) ∧ (x2_54 = r_13) ∧ (0 ≤ Int32.toInt x3_55) ∧ (Int32.toInt x3_55 ≤ 6) ∧ (Int32.toInt (q_52.1 2 29) = Int32.toInt (q_21.1 2 29)) ∧ (Int32.toInt (q_52.1 2 13) = Int32.toInt (q_21.1 2 13)) := ha
        obtain ⟨a_56, a_57, a_58, a_59, a_60, a_61, a_62, a_63⟩ := ha
        show dOk (zX10_turns_57b  (fun q x1 x2 x3 => k_51 (q, x1, x2, x3)) q_52 x1_53 x2_54 x3_55) _
        unfold zX10_turns_57b
        have hFq_52 : dFk [2, 12] [22, 23, 24, 25] q q_52 := hFq_21.t a_57 (by decide) (by decide)
        subst x1_53
        subst x2_54
        have f_64 : 0 ≤ Int32.toInt (q_52.1 2 29) ∧ Int32.toInt (q_52.1 2 29) ≤ 6 := a_56.1 2 29
        have w_65 : Int32.toInt (q_52.1 2 29) = Int32.toInt (q_21.1 2 29) := by rw [a_57.2 29 (by decide)]
        have f_66 : 0 ≤ Int32.toInt (q_52.1 2 13) ∧ Int32.toInt (q_52.1 2 13) ≤ 999 := a_56.1 2 13
        refine dOk_le (A := Int32.toInt p1) (B := Int32.toInt x3_55) rfl rfl (fun c_67 => ?_) (fun c_68 => ?_)
        · have f_69 : 0 ≤ Int32.toInt (q_52.1 2 12) ∧ Int32.toInt (q_52.1 2 12) ≤ 9999 := a_56.1 2 12
          try have t_70 : Int32.toInt (q_52.1 2 12 + r_13) = Int32.toInt (q_52.1 2 12) + Int32.toInt r_13 := ti_add rfl rfl (by omega) (by omega)
          refine dOk_V (ok_lesser 9999 (q_52.1 2 12 + r_13)) (fun r_71 h_72 => ?_)
          replace h_72 : (Int32.toInt r_71 ≤ (9999 : Int) ∧ Int32.toInt r_71 ≤ Int32.toInt (q_52.1 2 12 + r_13) ∧ (Int32.toInt r_71 = (9999 : Int) ∨ Int32.toInt r_71 = Int32.toInt (q_52.1 2 12 + r_13))) := h_72
          have i_73 := h_72
          refine dOk_L (fun q_74 eq_74 => ?_)
          have hTq_74 : TS q_74 := by rw [eq_74]; exact ts_set2 a_56 (by omega) (show klo (12) ≤ Int32.toInt r_71 by unfold klo; omega) (show Int32.toInt r_71 ≤ khi (12) by unfold khi; omega)
          have hFq_74 : dFk [2, 12] [22, 23, 24, 25] q q_74 := by rw [eq_74]; exact hFq_52.k (by omega) (by decide)
          have f_75 : 0 ≤ Int32.toInt (q_74.1 2 29) ∧ Int32.toInt (q_74.1 2 29) ≤ 6 := hTq_74.1 2 29
          have w_76 : Int32.toInt (q_74.1 2 29) = Int32.toInt (q_52.1 2 29) := by rw [eq_74, dui_n (by decide)]
          have f_77 : 0 ≤ Int32.toInt (q_74.1 2 13) ∧ Int32.toInt (q_74.1 2 13) ≤ 999 := hTq_74.1 2 13
          have w_78 : Int32.toInt (q_74.1 2 13) = Int32.toInt (q_52.1 2 13) := by rw [eq_74, dui_n (by decide)]
          exact dOk_some (show (TS q_74) ∧ (dFk [2, 12] [22, 23, 24, 25] q q_74) ∧ (0 ≤ Int32.toInt r_13 ∧ Int32.toInt r_13 ≤ 99) ∧ (Int32.toInt (q_74.1 2 29) = Int32.toInt (q.1 2 29)) ∧ (Int32.toInt (q_74.1 2 13) = Int32.toInt (q.1 2 13)) from ⟨hTq_74, hFq_74, by omega, by omega, by omega⟩)
        · try have t_79 : Int32.toInt (6 + x3_55) = 6 + Int32.toInt x3_55 := ti_add (by decide) rfl (by omega) (by omega)
          refine dOk_G (dg_ok (show 0 ≤ Int32.toInt (6 + x3_55) by omega) (show Int32.toInt (6 + x3_55) < ((5640 : Nat) : Int) by omega)) ?_
          have n_80 : ((Int32.toNatClampNeg (6 + x3_55) : Nat) : Int) = Int32.toInt (6 + x3_55) := cl_eq (by omega)
          refine dOk_L (fun v_81 ev_81 => ?_)
          try have g_82 : klo (Int32.toNatClampNeg (6 + x3_55)) ≤ Int32.toInt v_81 ∧ Int32.toInt v_81 ≤ khi (Int32.toNatClampNeg (6 + x3_55)) := by rw [ev_81]; exact te_k a_56 _
          try have f_83 : 0 ≤ Int32.toInt v_81 ∧ Int32.toInt v_81 ≤ 5 := by rw [ev_81]; exact te_2r a_56 (by omega) (by omega)
          try have f_84 : 0 ≤ Int32.toInt v_81 ∧ Int32.toInt v_81 ≤ 1 := by rw [ev_81]; exact te_2h a_56 (by omega) (by omega)
          try have f_85 : 0 ≤ Int32.toInt v_81 ∧ Int32.toInt v_81 ≤ 5 := by rw [ev_81]; exact te_2s a_56 (by omega) (by omega)
          try have f_86 : 0 ≤ Int32.toInt v_81 ∧ Int32.toInt v_81 ≤ 400 := by rw [ev_81]; exact te_2z a_56 (by omega) (by omega)
          refine dOk_G (dg_ok (show 0 ≤ Int32.toInt (6 + x3_55) by omega) (show Int32.toInt (6 + x3_55) < ((5640 : Nat) : Int) by omega)) ?_
          refine dOk_L (fun q_87 eq_87 => ?_)
          try have t_88 : Int32.toInt (1 - v_81) = 1 - Int32.toInt v_81 := ti_sub (by decide) rfl (by omega) (by omega)
          have hTq_87 : TS q_87 := by rw [eq_87]; exact ts_set2 a_56 (by omega) (show klo (Int32.toNatClampNeg (6 + x3_55)) ≤ Int32.toInt (1 - v_81) by unfold klo; omega) (show Int32.toInt (1 - v_81) ≤ khi (Int32.toNatClampNeg (6 + x3_55)) by unfold khi; omega)
          have hFq_87 : dFk [2, 12] [22, 23, 24, 25] q q_87 := by rw [eq_87]; exact hFq_52.k (by omega) (by decide)
          try have t_89 : Int32.toInt (x3_55 + 1) = Int32.toInt x3_55 + 1 := ti_add rfl (by decide) (by omega) (by omega)
          have f_90 : 0 ≤ Int32.toInt (q_87.1 2 29) ∧ Int32.toInt (q_87.1 2 29) ≤ 6 := hTq_87.1 2 29
          try have w_91 : Int32.toInt (q_87.1 2 29) = Int32.toInt (q_52.1 2 29) := by rw [eq_87, dui_n (by omega)]
          have f_92 : 0 ≤ Int32.toInt (q_87.1 2 13) ∧ Int32.toInt (q_87.1 2 13) ≤ 999 := hTq_87.1 2 13
          try have w_93 : Int32.toInt (q_87.1 2 13) = Int32.toInt (q_52.1 2 13) := by rw [eq_87, dui_n (by omega)]
          exact hk_50 (q_87, p1, r_13, (x3_55 + 1)) (show (TS q_87) ∧ (dFk [2] [] q_21 q_87) ∧ (p1 = p1) ∧ (r_13 = r_13) ∧ (0 ≤ Int32.toInt (x3_55 + 1)) ∧ (Int32.toInt (x3_55 + 1) ≤ 6) ∧ (Int32.toInt (q_87.1 2 29) = Int32.toInt (q_21.1 2 29)) ∧ (Int32.toInt (q_87.1 2 13) = Int32.toInt (q_21.1 2 13)) from ⟨hTq_87, (by rw [eq_87]; exact (((dFk.rf : dFk [2] [] q_21 q_21).t a_57 (by decide) (by decide)) : dFk [2] [] q_21 q_52).k (by omega) (by decide)), rfl, rfl, by omega, by omega, by omega, by omega⟩) (show (6 - Int32.toInt (x3_55 + 1)).toNat < (6 - Int32.toInt x3_55).toNat by omega)
      · exact (show (TS q_21) ∧ (dFk [2] [] q_21 q_21) ∧ (p1 = p1) ∧ (r_13 = r_13) ∧ (0 ≤ (0 : Int)) ∧ ((0 : Int) ≤ 6) ∧ (Int32.toInt (q_21.1 2 29) = Int32.toInt (q_21.1 2 29)) ∧ (Int32.toInt (q_21.1 2 13) = Int32.toInt (q_21.1 2 13)) from ⟨a_25, dFk.rf, rfl, rfl, by omega, by omega, by omega, by omega⟩)
      · show (6 - (0 : Int)).toNat < 1000000000000
        omega
    · try have t_94 : Int32.toInt (p1 - 1 - x3_24) = Int32.toInt (p1 - 1) - Int32.toInt x3_24 := ti_sub rfl rfl (by omega) (by omega)
      refine dOk_V (ok_exchanges q_21 x3_24 (p1 - 1 - x3_24) a_25 (show 0 ≤ Int32.toInt x3_24 ∧ Int32.toInt x3_24 ≤ 5 by omega) (show 0 ≤ Int32.toInt (p1 - 1 - x3_24) ∧ Int32.toInt (p1 - 1 - x3_24) ≤ 5 by omega)) (fun q_95 h_96 => ?_)
      replace h_96 : (TS q_95) ∧ (dFk [2] [] q_21 q_95) ∧ (Int32.toInt (q_95.1 2 12) = Int32.toInt (q_21.1 2 12)) ∧ (Int32.toInt (q_95.1 2 13) = Int32.toInt (q_21.1 2 13)) ∧ (Int32.toInt (q_95.1 2 29) = Int32.toInt (q_21.1 2 29)) := h_96
      obtain ⟨i_97, i_98, i_99, i_100, i_101⟩ := h_96
      have hFq_95 : dFk [2, 12] [22, 23, 24, 25] q q_95 := hFq_21.t i_98 (by decide) (by decide)
      have f_102 : 0 ≤ Int32.toInt (q_95.1 2 12) ∧ Int32.toInt (q_95.1 2 12) ≤ 9999 := i_97.1 2 12
      have f_103 : 0 ≤ Int32.toInt (q_21.1 2 12) ∧ Int32.toInt (q_21.1 2 12) ≤ 9999 := a_25.1 2 12
      have f_104 : 0 ≤ Int32.toInt (q_95.1 2 13) ∧ Int32.toInt (q_95.1 2 13) ≤ 999 := i_97.1 2 13
      have f_105 : 0 ≤ Int32.toInt (q_95.1 2 29) ∧ Int32.toInt (q_95.1 2 29) ≤ 6 := i_97.1 2 29
      have w_106 : Int32.toInt (q_95.1 2 29) = Int32.toInt (q_21.1 2 29) := by rw [i_98.2 29 (by decide)]
      try have t_107 : Int32.toInt (x3_24 + 1) = Int32.toInt x3_24 + 1 := ti_add rfl (by decide) (by omega) (by omega)
      exact hk_19 (q_95, p1, r_13, (x3_24 + 1)) (show (TS q_95) ∧ (dFk [2] [] q_14 q_95) ∧ (p1 = p1) ∧ (r_13 = r_13) ∧ (0 ≤ Int32.toInt (x3_24 + 1)) ∧ (Int32.toInt (x3_24 + 1) ≤ 6) ∧ (Int32.toInt (q_95.1 2 29) = Int32.toInt (q_14.1 2 29)) ∧ (Int32.toInt (q_95.1 2 13) = Int32.toInt (q_14.1 2 13)) from ⟨i_97, ((((dFk.rf : dFk [2] [] q_14 q_14).t a_26 (by decide) (by decide)) : dFk [2] [] q_14 q_21).t i_98 (by decide) (by decide)), rfl, rfl, by omega, by omega, by omega, by omega⟩) (show (6 - Int32.toInt (x3_24 + 1)).toNat < (6 - Int32.toInt x3_24).toNat by omega)
  · have f_108 : 0 ≤ Int32.toInt (q_14.1 2 29) ∧ Int32.toInt (q_14.1 2 29) ≤ 6 := i_16.1 2 29
    have f_109 : 0 ≤ Int32.toInt (q_8.1 2 29) ∧ Int32.toInt (q_8.1 2 29) ≤ 6 := i_10.1 2 29
    have f_110 : 0 ≤ Int32.toInt (q.1 2 29) ∧ Int32.toInt (q.1 2 29) ≤ 6 := hT.1 2 29
    have w_111 : Int32.toInt (q_8.1 2 29) = Int32.toInt (q.1 2 29) := by rw [i_11.1 2 (by decide) (by decide)]
    have w_112 : Int32.toInt (q_14.1 2 29) = Int32.toInt (q_8.1 2 29) := by rw [i_17.1 2 (by decide) (by decide)]
    have f_113 : 0 ≤ Int32.toInt (q_14.1 2 13) ∧ Int32.toInt (q_14.1 2 13) ≤ 999 := i_16.1 2 13
    have f_114 : 0 ≤ Int32.toInt (q_8.1 2 13) ∧ Int32.toInt (q_8.1 2 13) ≤ 999 := i_10.1 2 13
    have f_115 : 0 ≤ Int32.toInt (q.1 2 13) ∧ Int32.toInt (q.1 2 13) ≤ 999 := hT.1 2 13
    have w_116 : Int32.toInt (q_8.1 2 13) = Int32.toInt (q.1 2 13) := by rw [i_11.1 2 (by decide) (by decide)]
    have w_117 : Int32.toInt (q_14.1 2 13) = Int32.toInt (q_8.1 2 13) := by rw [i_17.1 2 (by decide) (by decide)]
    exact (show (TS q_14) ∧ (dFk [2] [] q_14 q_14) ∧ (p1 = p1) ∧ (r_13 = r_13) ∧ (0 ≤ (0 : Int)) ∧ ((0 : Int) ≤ 6) ∧ (Int32.toInt (q_14.1 2 29) = Int32.toInt (q_14.1 2 29)) ∧ (Int32.toInt (q_14.1 2 13) = Int32.toInt (q_14.1 2 13)) from ⟨i_16, dFk.rf, rfl, rfl, by omega, by omega, by omega, by omega⟩)
  · show (6 - (0 : Int)).toNat < 1000000000000
    omega

set_option maxHeartbeats 4000000 in
set_option maxRecDepth 100000 in
theorem ok_yearPasses (q : dS) (hT : TS q) (hp0 : Int32.toInt (q.1 2 13) < 999) : dOk (zX10_yearPasses q) (fun (o : Int32 × dS) => (TS o.2) ∧ (dFk [2, 12, 13] [22, 23, 24, 25] q o.2) ∧ (0 ≤ Int32.toInt o.1) ∧ (Int32.toInt (o.2.1 2 29) = Int32.toInt (q.1 2 29))) := by
  unfold zX10_yearPasses
  unfold zX10_yearPasses_4
  refine dFix_ok (fun (a : dS × Int32 × Int32) => (TS a.1) ∧ (dFk [12, 13] [22, 23, 24, 25] q a.1) ∧ (a.2.1 = 0) ∧ (0 ≤ Int32.toInt a.2.2) ∧ (Int32.toInt a.2.2 ≤ 6)) (fun (a : dS × Int32 × Int32) => (6 - Int32.toInt a.2.2).toNat) ?_ _ ?_ _ (dF_gt ?_)
  · intro a ha k_2 hk_1
    obtain ⟨q_3, x1_4, x2_5⟩ := a
    replace ha : (TS q_3) ∧ (dFk [12, 13] [22, 23, 24, 25] q q_3) ∧ (x1_4 = 0) ∧ (0 ≤ Int32.toInt x2_5) ∧ (Int32.toInt x2_5 ≤ 6) := ha
    obtain ⟨a_6, a_7, a_8, a_9, a_10⟩ := ha
    show dOk (zX10_yearPasses_4b  (fun q x1 x2 => k_2 (q, x1, x2)) q_3 x1_4 x2_5) _
    unfold zX10_yearPasses_4b
    have hFq_3 : dFk [2, 12, 13] [22, 23, 24, 25] q q_3 := (dFk.rf (q := q)).t a_7 (by decide) (by decide)
    subst x1_4
    refine dOk_B (ok_size q_3 a_6) (fun r_11 q_12 h_13 => ?_)
    replace h_13 : (q_12 = q_3) ∧ (Int32.toInt r_11 = Int32.toInt (q_3.1 2 29)) ∧ (0 ≤ Int32.toInt r_11 ∧ Int32.toInt r_11 ≤ 6) := h_13
    obtain ⟨i_14, i_15, i_16⟩ := h_13
    subst q_12
    have f_17 : 0 ≤ Int32.toInt (q_3.1 2 29) ∧ Int32.toInt (q_3.1 2 29) ≤ 6 := a_6.1 2 29
    have f_18 : 0 ≤ Int32.toInt (q.1 2 29) ∧ Int32.toInt (q.1 2 29) ≤ 6 := hT.1 2 29
    have w_19 : Int32.toInt (q_3.1 2 29) = Int32.toInt (q.1 2 29) := by rw [a_7.1.1 2 (by decide) (by decide)]
    refine dOk_le (A := Int32.toInt r_11) (B := Int32.toInt x2_5) rfl rfl (fun c_20 => ?_) (fun c_21 => ?_)
    · unfold zX10_yearPasses_31
      refine dFix_ok (fun (a : dS × Int32 × Int32) => (TS a.1) ∧ (dFk [2] [] q_3 a.1) ∧ (0 ≤ Int32.toInt a.2.2) ∧ (Int32.toInt a.2.2 ≤ 6) ∧ (Int32.toInt (a.1.1 2 29) = Int32.toInt (q_3.1 2 29)) ∧ (Int32.toInt (a.1.1 2 13) = Int32.toInt (q_3.1 2 13)) ∧ (0 ≤ Int32.toInt a.2.1) ∧ (Int32.toInt a.2.1 ≤ Int32.toInt a.2.2)) (fun (a : dS × Int32 × Int32) => (6 - Int32.toInt a.2.2).toNat) ?_ _ ?_ _ (dF_gt ?_)
      · intro a ha k_23 hk_22
        obtain ⟨q_24, x1_25, x2_26⟩ := a
        replace ha : (TS q_24) ∧ (dFk [2] [] q_3 q_24) ∧ (0 ≤ Int32.toInt x2_26) ∧ (Int32.toInt x2_26 ≤ 6) ∧ (Int32.toInt (q_24.1 2 29) = Int32.toInt (q_3.1 2 29)) ∧ (Int32.toInt (q_24.1 2 13) = Int32.toInt (q_3.1 2 13)) ∧ (0 ≤ Int32.toInt x1_25) ∧ (Int32.toInt x1_25 ≤ Int32.toInt x2_26) := ha
        obtain ⟨a_27, a_28, a_29, a_30, a_31, a_32, a_33, a_34⟩ := ha
        show dOk (zX10_yearPasses_31b  (fun q x1 x2 => k_23 (q, x1, x2)) q_24 x1_25 x2_26) _
        unfold zX10_yearPasses_31b
        have hFq_24 : dFk [2, 12, 13] [22, 23, 24, 25] q q_24 := hFq_3.t a_28 (by decide) (by decide)
        have f_35 : 0 ≤ Int32.toInt (q_24.1 2 29) ∧ Int32.toInt (q_24.1 2 29) ≤ 6 := a_27.1 2 29
        have w_36 : Int32.toInt (q_24.1 2 29) = Int32.toInt (q_3.1 2 29) := by rw [a_28.2 29 (by decide)]
        have f_37 : 0 ≤ Int32.toInt (q_24.1 2 13) ∧ Int32.toInt (q_24.1 2 13) ≤ 999 := a_27.1 2 13
        have f_38 : 0 ≤ Int32.toInt (q_3.1 2 13) ∧ Int32.toInt (q_3.1 2 13) ≤ 999 := a_6.1 2 13
        have f_39 : 0 ≤ Int32.toInt (q.1 2 13) ∧ Int32.toInt (q.1 2 13) ≤ 999 := hT.1 2 13
        have w_40 : Int32.toInt (q_3.1 2 13) = Int32.toInt (q.1 2 13) := by rw [a_7.1.1 2 (by decide) (by decide)]
        refine dOk_B (ok_size q_24 a_27) (fun r_41 q_42 h_43 => ?_)
        replace h_43 : (q_42 = q_24) ∧ (Int32.toInt r_41 = Int32.toInt (q_24.1 2 29)) ∧ (0 ≤ Int32.toInt r_41 ∧ Int32.toInt r_41 ≤ 6) := h_43
        obtain ⟨i_44, i_45, i_46⟩ := h_43
        subst q_42
        refine dOk_le (A := Int32.toInt r_41) (B := Int32.toInt x2_26) rfl rfl (fun c_47 => ?_) (fun c_48 => ?_)
        · refine dOk_L (fun q_49 eq_49 => ?_)
          try have t_50 : Int32.toInt (q_24.1 2 13 + 1) = Int32.toInt (q_24.1 2 13) + 1 := ti_add rfl (by decide) (by omega) (by omega)
          have hTq_49 : TS q_49 := by rw [eq_49]; exact ts_set2 a_27 (by omega) (show klo (13) ≤ Int32.toInt (q_24.1 2 13 + 1) by unfold klo; omega) (show Int32.toInt (q_24.1 2 13 + 1) ≤ khi (13) by unfold khi; omega)
          have hFq_49 : dFk [2, 12, 13] [22, 23, 24, 25] q q_49 := by rw [eq_49]; exact hFq_24.k (by omega) (by decide)
          have f_51 : 0 ≤ Int32.toInt (q_49.1 2 29) ∧ Int32.toInt (q_49.1 2 29) ≤ 6 := hTq_49.1 2 29
          have w_52 : Int32.toInt (q_49.1 2 29) = Int32.toInt (q_24.1 2 29) := by rw [eq_49, dui_n (by decide)]
          exact dOk_some (show (TS q_49) ∧ (dFk [2, 12, 13] [22, 23, 24, 25] q q_49) ∧ (0 ≤ Int32.toInt x1_25) ∧ (Int32.toInt (q_49.1 2 29) = Int32.toInt (q.1 2 29)) from ⟨hTq_49, hFq_49, by omega, by omega⟩)
        · refine dOk_G (dg_ok (show 0 ≤ Int32.toInt x2_26 by omega) (show Int32.toInt x2_26 < ((6 : Nat) : Int) by omega)) ?_
          have n_53 : ((Int32.toNatClampNeg x2_26 : Nat) : Int) = Int32.toInt x2_26 := cl_eq (by omega)
          refine dOk_L (fun v_54 ev_54 => ?_)
          refine dOk_eq (A := Int32.toInt v_54) (B := 0) rfl (by decide) (fun c_55z c_55 => ?_) (fun c_56z c_56 => ?_)
          · try have t_58 : Int32.toInt (6 + x2_26) = 6 + Int32.toInt x2_26 := ti_add (by decide) rfl (by omega) (by omega)
            refine dOk_G (dg_ok (show 0 ≤ Int32.toInt (6 + x2_26) by omega) (show Int32.toInt (6 + x2_26) < ((5640 : Nat) : Int) by omega)) ?_
            have n_59 : ((Int32.toNatClampNeg (6 + x2_26) : Nat) : Int) = Int32.toInt (6 + x2_26) := cl_eq (by omega)
            refine dOk_L (fun v_60 ev_60 => ?_)
            try have g_61 : klo (Int32.toNatClampNeg (6 + x2_26)) ≤ Int32.toInt v_60 ∧ Int32.toInt v_60 ≤ khi (Int32.toNatClampNeg (6 + x2_26)) := by rw [ev_60]; exact te_k a_27 _
            try have f_62 : 0 ≤ Int32.toInt v_60 ∧ Int32.toInt v_60 ≤ 5 := by rw [ev_60]; exact te_2r a_27 (by omega) (by omega)
            try have f_63 : 0 ≤ Int32.toInt v_60 ∧ Int32.toInt v_60 ≤ 1 := by rw [ev_60]; exact te_2h a_27 (by omega) (by omega)
            try have f_64 : 0 ≤ Int32.toInt v_60 ∧ Int32.toInt v_60 ≤ 5 := by rw [ev_60]; exact te_2s a_27 (by omega) (by omega)
            try have f_65 : 0 ≤ Int32.toInt v_60 ∧ Int32.toInt v_60 ≤ 400 := by rw [ev_60]; exact te_2z a_27 (by omega) (by omega)
            unfold zX10_yearPasses_79
            refine dOk_G (dg_ok (show 0 ≤ Int32.toInt (6 + x2_26) by omega) (show Int32.toInt (6 + x2_26) < ((5640 : Nat) : Int) by omega)) ?_
            refine dOk_L (fun q_66 eq_66 => ?_)
            have hTq_66 : TS q_66 := by rw [eq_66]; first | exact ts_2c a_27 (by omega) (show Int32.toNatClampNeg (6 + x2_26) = Int32.toNatClampNeg (6 + x2_26) by omega) g_61 | exact ts_set2 a_27 (by omega) (show klo (Int32.toNatClampNeg (6 + x2_26)) ≤ Int32.toInt v_60 by unfold klo; omega) (show Int32.toInt v_60 ≤ khi (Int32.toNatClampNeg (6 + x2_26)) by unfold khi; omega)
            have hFq_66 : dFk [2, 12, 13] [22, 23, 24, 25] q q_66 := by rw [eq_66]; exact hFq_24.k (by omega) (by decide)
            refine dOk_G (dg_ok (show 0 ≤ Int32.toInt x2_26 by omega) (show Int32.toInt x2_26 < ((6 : Nat) : Int) by omega)) ?_
            refine dOk_L (fun v_67 ev_67 => ?_)
            refine dOk_eq (A := Int32.toInt v_67) (B := 0) rfl (by decide) (fun c_68z c_68 => ?_) (fun c_69z c_69 => ?_)
            · unfold zX10_yearPasses_95
              try have t_71 : Int32.toInt (x1_25 + 0) = Int32.toInt x1_25 + 0 := ti_add rfl (by decide) (by omega) (by omega)
              try have t_72 : Int32.toInt (x2_26 + 1) = Int32.toInt x2_26 + 1 := ti_add rfl (by decide) (by omega) (by omega)
              have f_73 : 0 ≤ Int32.toInt (q_66.1 2 29) ∧ Int32.toInt (q_66.1 2 29) ≤ 6 := hTq_66.1 2 29
              try have w_74 : Int32.toInt (q_66.1 2 29) = Int32.toInt (q_24.1 2 29) := by rw [eq_66, dui_n (by omega)]
              have f_75 : 0 ≤ Int32.toInt (q_66.1 2 13) ∧ Int32.toInt (q_66.1 2 13) ≤ 999 := hTq_66.1 2 13
              try have w_76 : Int32.toInt (q_66.1 2 13) = Int32.toInt (q_24.1 2 13) := by rw [eq_66, dui_n (by omega)]
              exact hk_22 (q_66, (x1_25 + 0), (x2_26 + 1)) (show (TS q_66) ∧ (dFk [2] [] q_3 q_66) ∧ (0 ≤ Int32.toInt (x2_26 + 1)) ∧ (Int32.toInt (x2_26 + 1) ≤ 6) ∧ (Int32.toInt (q_66.1 2 29) = Int32.toInt (q_3.1 2 29)) ∧ (Int32.toInt (q_66.1 2 13) = Int32.toInt (q_3.1 2 13)) ∧ (0 ≤ Int32.toInt (x1_25 + 0)) ∧ (Int32.toInt (x1_25 + 0) ≤ Int32.toInt (x2_26 + 1)) from ⟨hTq_66, (by rw [eq_66]; exact (((dFk.rf : dFk [2] [] q_3 q_3).t a_28 (by decide) (by decide)) : dFk [2] [] q_3 q_24).k (by omega) (by decide)), by omega, by omega, by omega, by omega, by omega, by omega⟩) (show (6 - Int32.toInt (x2_26 + 1)).toNat < (6 - Int32.toInt x2_26).toNat by omega)
            · unfold zX10_yearPasses_95
              try have t_77 : Int32.toInt (x1_25 + 1) = Int32.toInt x1_25 + 1 := ti_add rfl (by decide) (by omega) (by omega)
              try have t_78 : Int32.toInt (x2_26 + 1) = Int32.toInt x2_26 + 1 := ti_add rfl (by decide) (by omega) (by omega)
              have f_79 : 0 ≤ Int32.toInt (q_66.1 2 29) ∧ Int32.toInt (q_66.1 2 29) ≤ 6 := hTq_66.1 2 29
              try have w_80 : Int32.toInt (q_66.1 2 29) = Int32.toInt (q_24.1 2 29) := by rw [eq_66, dui_n (by omega)]
              have f_81 : 0 ≤ Int32.toInt (q_66.1 2 13) ∧ Int32.toInt (q_66.1 2 13) ≤ 999 := hTq_66.1 2 13
              try have w_82 : Int32.toInt (q_66.1 2 13) = Int32.toInt (q_24.1 2 13) := by rw [eq_66, dui_n (by omega)]
              exact hk_22 (q_66, (x1_25 + 1), (x2_26 + 1)) (show (TS q_66) ∧ (dFk [2] [] q_3 q_66) ∧ (0 ≤ Int32.toInt (x2_26 + 1)) ∧ (Int32.toInt (x2_26 + 1) ≤ 6) ∧ (Int32.toInt (q_66.1 2 29) = Int32.toInt (q_3.1 2 29)) ∧ (Int32.toInt (q_66.1 2 13) = Int32.toInt (q_3.1 2 13)) ∧ (0 ≤ Int32.toInt (x1_25 + 1)) ∧ (Int32.toInt (x1_25 + 1) ≤ Int32.toInt (x2_26 + 1)) from ⟨hTq_66, (by rw [eq_66]; exact (((dFk.rf : dFk [2] [] q_3 q_3).t a_28 (by decide) (by decide)) : dFk [2] [] q_3 q_24).k (by omega) (by decide)), by omega, by omega, by omega, by omega, by omega, by omega⟩) (show (6 - Int32.toInt (x2_26 + 1)).toNat < (6 - Int32.toInt x2_26).toNat by omega)
          · try have t_83 : Int32.toInt (6 + x2_26) = 6 + Int32.toInt x2_26 := ti_add (by decide) rfl (by omega) (by omega)
            refine dOk_G (dg_ok (show 0 ≤ Int32.toInt (6 + x2_26) by omega) (show Int32.toInt (6 + x2_26) < ((5640 : Nat) : Int) by omega)) ?_
            have n_84 : ((Int32.toNatClampNeg (6 + x2_26) : Nat) : Int) = Int32.toInt (6 + x2_26) := cl_eq (by omega)
            refine dOk_L (fun v_85 ev_85 => ?_)
            try have g_86 : klo (Int32.toNatClampNeg (6 + x2_26)) ≤ Int32.toInt v_85 ∧ Int32.toInt v_85 ≤ khi (Int32.toNatClampNeg (6 + x2_26)) := by rw [ev_85]; exact te_k a_27 _
            try have f_87 : 0 ≤ Int32.toInt v_85 ∧ Int32.toInt v_85 ≤ 5 := by rw [ev_85]; exact te_2r a_27 (by omega) (by omega)
            try have f_88 : 0 ≤ Int32.toInt v_85 ∧ Int32.toInt v_85 ≤ 1 := by rw [ev_85]; exact te_2h a_27 (by omega) (by omega)
            try have f_89 : 0 ≤ Int32.toInt v_85 ∧ Int32.toInt v_85 ≤ 5 := by rw [ev_85]; exact te_2s a_27 (by omega) (by omega)
            try have f_90 : 0 ≤ Int32.toInt v_85 ∧ Int32.toInt v_85 ≤ 400 := by rw [ev_85]; exact te_2z a_27 (by omega) (by omega)
            unfold zX10_yearPasses_79
            refine dOk_G (dg_ok (show 0 ≤ Int32.toInt (6 + x2_26) by omega) (show Int32.toInt (6 + x2_26) < ((5640 : Nat) : Int) by omega)) ?_
            refine dOk_L (fun q_91 eq_91 => ?_)
            try have t_92 : Int32.toInt (1 - v_85) = 1 - Int32.toInt v_85 := ti_sub (by decide) rfl (by omega) (by omega)
            have hTq_91 : TS q_91 := by rw [eq_91]; exact ts_set2 a_27 (by omega) (show klo (Int32.toNatClampNeg (6 + x2_26)) ≤ Int32.toInt (1 - v_85) by unfold klo; omega) (show Int32.toInt (1 - v_85) ≤ khi (Int32.toNatClampNeg (6 + x2_26)) by unfold khi; omega)
            have hFq_91 : dFk [2, 12, 13] [22, 23, 24, 25] q q_91 := by rw [eq_91]; exact hFq_24.k (by omega) (by decide)
            refine dOk_G (dg_ok (show 0 ≤ Int32.toInt x2_26 by omega) (show Int32.toInt x2_26 < ((6 : Nat) : Int) by omega)) ?_
            refine dOk_L (fun v_93 ev_93 => ?_)
            refine dOk_eq (A := Int32.toInt v_93) (B := 0) rfl (by decide) (fun c_94z c_94 => ?_) (fun c_95z c_95 => ?_)
            · unfold zX10_yearPasses_95
              try have t_97 : Int32.toInt (x1_25 + 0) = Int32.toInt x1_25 + 0 := ti_add rfl (by decide) (by omega) (by omega)
              try have t_98 : Int32.toInt (x2_26 + 1) = Int32.toInt x2_26 + 1 := ti_add rfl (by decide) (by omega) (by omega)
              have f_99 : 0 ≤ Int32.toInt (q_91.1 2 29) ∧ Int32.toInt (q_91.1 2 29) ≤ 6 := hTq_91.1 2 29
              try have w_100 : Int32.toInt (q_91.1 2 29) = Int32.toInt (q_24.1 2 29) := by rw [eq_91, dui_n (by omega)]
              have f_101 : 0 ≤ Int32.toInt (q_91.1 2 13) ∧ Int32.toInt (q_91.1 2 13) ≤ 999 := hTq_91.1 2 13
              try have w_102 : Int32.toInt (q_91.1 2 13) = Int32.toInt (q_24.1 2 13) := by rw [eq_91, dui_n (by omega)]
              exact hk_22 (q_91, (x1_25 + 0), (x2_26 + 1)) (show (TS q_91) ∧ (dFk [2] [] q_3 q_91) ∧ (0 ≤ Int32.toInt (x2_26 + 1)) ∧ (Int32.toInt (x2_26 + 1) ≤ 6) ∧ (Int32.toInt (q_91.1 2 29) = Int32.toInt (q_3.1 2 29)) ∧ (Int32.toInt (q_91.1 2 13) = Int32.toInt (q_3.1 2 13)) ∧ (0 ≤ Int32.toInt (x1_25 + 0)) ∧ (Int32.toInt (x1_25 + 0) ≤ Int32.toInt (x2_26 + 1)) from ⟨hTq_91, (by rw [eq_91]; exact (((dFk.rf : dFk [2] [] q_3 q_3).t a_28 (by decide) (by decide)) : dFk [2] [] q_3 q_24).k (by omega) (by decide)), by omega, by omega, by omega, by omega, by omega, by omega⟩) (show (6 - Int32.toInt (x2_26 + 1)).toNat < (6 - Int32.toInt x2_26).toNat by omega)
            · unfold zX10_yearPasses_95
              try have t_103 : Int32.toInt (x1_25 + 1) = Int32.toInt x1_25 + 1 := ti_add rfl (by decide) (by omega) (by omega)
              try have t_104 : Int32.toInt (x2_26 + 1) = Int32.toInt x2_26 + 1 := ti_add rfl (by decide) (by omega) (by omega)
              have f_105 : 0 ≤ Int32.toInt (q_91.1 2 29) ∧ Int32.toInt (q_91.1 2 29) ≤ 6 := hTq_91.1 2 29
              try have w_106 : Int32.toInt (q_91.1 2 29) = Int32.toInt (q_24.1 2 29) := by rw [eq_91, dui_n (by omega)]
              have f_107 : 0 ≤ Int32.toInt (q_91.1 2 13) ∧ Int32.toInt (q_91.1 2 13) ≤ 999 := hTq_91.1 2 13
              try have w_108 : Int32.toInt (q_91.1 2 13) = Int32.toInt (q_24.1 2 13) := by rw [eq_91, dui_n (by omega)]
              exact hk_22 (q_91, (x1_25 + 1), (x2_26 + 1)) (show (TS q_91) ∧ (dFk [2] [] q_3 q_91) ∧ (0 ≤ Int32.toInt (x2_26 + 1)) ∧ (Int32.toInt (x2_26 + 1) ≤ 6) ∧ (Int32.toInt (q_91.1 2 29) = Int32.toInt (q_3.1 2 29)) ∧ (Int32.toInt (q_91.1 2 13) = Int32.toInt (q_3.1 2 13)) ∧ (0 ≤ Int32.toInt (x1_25 + 1)) ∧ (Int32.toInt (x1_25 + 1) ≤ Int32.toInt (x2_26 + 1)) from ⟨hTq_91, (by rw [eq_91]; exact (((dFk.rf : dFk [2] [] q_3 q_3).t a_28 (by decide) (by decide)) : dFk [2] [] q_3 q_24).k (by omega) (by decide)), by omega, by omega, by omega, by omega, by omega, by omega⟩) (show (6 - Int32.toInt (x2_26 + 1)).toNat < (6 - Int32.toInt x2_26).toNat by omega)
      · have f_109 : 0 ≤ Int32.toInt (q_3.1 2 13) ∧ Int32.toInt (q_3.1 2 13) ≤ 999 := a_6.1 2 13
        have f_110 : 0 ≤ Int32.toInt (q.1 2 13) ∧ Int32.toInt (q.1 2 13) ≤ 999 := hT.1 2 13
        have w_111 : Int32.toInt (q_3.1 2 13) = Int32.toInt (q.1 2 13) := by rw [a_7.1.1 2 (by decide) (by decide)]
        exact (show (TS q_3) ∧ (dFk [2] [] q_3 q_3) ∧ (0 ≤ (0 : Int)) ∧ ((0 : Int) ≤ 6) ∧ (Int32.toInt (q_3.1 2 29) = Int32.toInt (q_3.1 2 29)) ∧ (Int32.toInt (q_3.1 2 13) = Int32.toInt (q_3.1 2 13)) ∧ (0 ≤ (0 : Int)) ∧ ((0 : Int) ≤ (0 : Int)) from ⟨a_6, dFk.rf, by omega, by omega, by omega, by omega, by omega, by omega⟩)
      · show (6 - (0 : Int)).toNat < 1000000000000
        omega
    · refine dOk_B (ok_tipsAt q_3 x2_5 a_6 (show 0 ≤ Int32.toInt x2_5 by omega) (show Int32.toInt x2_5 < 6 by omega)) (fun r_112 q_113 h_114 => ?_)
      replace h_114 : (TS q_113) ∧ (dFr [12] [22, 23, 24, 25] q_3 q_113) ∧ ((Int32.toInt r_112 = 0 ∨ Int32.toInt r_112 = 1)) := h_114
      obtain ⟨i_115, i_116, i_117⟩ := h_114
      have hFq_113 : dFk [2, 12, 13] [22, 23, 24, 25] q q_113 := hFq_3.tr i_116 (by decide) (by decide) (by decide)
      refine dOk_G (dg_ok (show 0 ≤ Int32.toInt x2_5 by omega) (show Int32.toInt x2_5 < ((6 : Nat) : Int) by omega)) ?_
      have n_118 : ((Int32.toNatClampNeg x2_5 : Nat) : Int) = Int32.toInt x2_5 := cl_eq (by omega)
      refine dOk_L (fun q_119 eq_119 => ?_)
      have hTq_119 : TS q_119 := by rw [eq_119]; exact ts_any i_115 rfl
      have hFq_119 : dFk [2, 12, 13] [22, 23, 24, 25] q q_119 := by rw [eq_119]; exact hFq_113.i (by decide) (by decide) (by decide)
      try have t_120 : Int32.toInt (x2_5 + 1) = Int32.toInt x2_5 + 1 := ti_add rfl (by decide) (by omega) (by omega)
      exact hk_1 (q_119, 0, (x2_5 + 1)) (show (TS q_119) ∧ (dFk [12, 13] [22, 23, 24, 25] q q_119) ∧ (0 = 0) ∧ (0 ≤ Int32.toInt (x2_5 + 1)) ∧ (Int32.toInt (x2_5 + 1) ≤ 6) from ⟨hTq_119, (by rw [eq_119]; exact (((((dFk.rf : dFk [12, 13] [22, 23, 24, 25] q q).t a_7 (by decide) (by decide)) : dFk [12, 13] [22, 23, 24, 25] q q_3).tr i_116 (by decide) (by decide) (by decide)) : dFk [12, 13] [22, 23, 24, 25] q q_113).i (by decide) (by decide) (by decide)), rfl, by omega, by omega⟩) (show (6 - Int32.toInt (x2_5 + 1)).toNat < (6 - Int32.toInt x2_5).toNat by omega)
  · exact (show (TS q) ∧ (dFk [12, 13] [22, 23, 24, 25] q q) ∧ (0 = 0) ∧ (0 ≤ (0 : Int)) ∧ ((0 : Int) ≤ 6) from ⟨hT, dFk.rf, rfl, by omega, by omega⟩)
  · show (6 - (0 : Int)).toNat < 1000000000000
    omega
end
section
set_option maxHeartbeats 4000000 in
set_option maxRecDepth 100000 in
theorem ok_turnsKept (q : dS) (p1 : Int32) (hT : TS q) : dOk (zX10_turnsKept q p1) (fun (o : Int32 × dS) => (TS o.2) ∧ (dFk [2, 12, 14] [22, 23, 24, 25, 32] q o.2) ∧ (-3 ≤ Int32.toInt o.1 ∧ Int32.toInt o.1 ≤ 99)) := by
  unfold zX10_turnsKept
  refine dOk_V (ok_lies p1 1 6) (fun r_1 h_2 => ?_)
  replace h_2 : ((Int32.toInt r_1 = 1 ∧ (1 : Int) ≤ Int32.toInt p1 ∧ Int32.toInt p1 ≤ (6 : Int)) ∨ (Int32.toInt r_1 = 0 ∧ (Int32.toInt p1 < (1 : Int) ∨ (6 : Int) < Int32.toInt p1))) := h_2
  have i_3 := h_2
  refine dOk_eq (A := Int32.toInt r_1) (B := 0) rfl (by decide) (fun c_4z c_4 => ?_) (fun c_5z c_5 => ?_)
  · exact dOk_some (show (TS q) ∧ (dFk [2, 12, 14] [22, 23, 24, 25, 32] q q) ∧ (-3 ≤ (-1 : Int) ∧ (-1 : Int) ≤ 99) from ⟨hT, (dFk.rf (q := q)), by omega⟩)
  · refine dOk_B (ok_canTurn q p1 hT (show 1 ≤ Int32.toInt p1 by omega)) (fun r_7 q_8 h_9 => ?_)
    replace h_9 : (TS q_8) ∧ (dFr [12] [22, 23, 24, 25] q q_8) ∧ ((Int32.toInt r_7 = 1 ∧ Int32.toInt p1 ≤ Int32.toInt (q.1 2 29)) ∨ Int32.toInt r_7 = 0) := h_9
    obtain ⟨i_10, i_11, i_12⟩ := h_9
    have hFq_8 : dFk [2, 12, 14] [22, 23, 24, 25, 32] q q_8 := (dFk.rf (q := q)).tr i_11 (by decide) (by decide) (by decide)
    have f_13 : 0 ≤ Int32.toInt (q.1 2 29) ∧ Int32.toInt (q.1 2 29) ≤ 6 := hT.1 2 29
    refine dOk_eq (A := Int32.toInt r_7) (B := 0) rfl (by decide) (fun c_14z c_14 => ?_) (fun c_15z c_15 => ?_)
    · exact dOk_some (show (TS q_8) ∧ (dFk [2, 12, 14] [22, 23, 24, 25, 32] q q_8) ∧ (-3 ≤ (-3 : Int) ∧ (-3 : Int) ≤ 99) from ⟨i_10, hFq_8, by omega⟩)
    · refine dOk_V (ok_keeps q_8 0 i_10) (fun q_17 h_18 => ?_)
      replace h_18 : (TS q_17) ∧ (dFr [14] [32] q_8 q_17) := h_18
      obtain ⟨i_19, i_20⟩ := h_18
      have hFq_17 : dFk [2, 12, 14] [22, 23, 24, 25, 32] q q_17 := hFq_8.tr i_20 (by decide) (by decide) (by decide)
      have f_21 : 0 ≤ Int32.toInt (q_17.1 2 29) ∧ Int32.toInt (q_17.1 2 29) ≤ 6 := i_19.1 2 29
      have f_22 : 0 ≤ Int32.toInt (q_8.1 2 29) ∧ Int32.toInt (q_8.1 2 29) ≤ 6 := i_10.1 2 29
      have w_23 : Int32.toInt (q_8.1 2 29) = Int32.toInt (q.1 2 29) := by rw [i_11.1 2 (by decide) (by decide)]
      have w_24 : Int32.toInt (q_17.1 2 29) = Int32.toInt (q_8.1 2 29) := by rw [i_20.1 2 (by decide) (by decide)]
      refine dOk_B (ok_turns q_17 p1 i_19 (show 1 ≤ Int32.toInt p1 by omega) (show Int32.toInt p1 ≤ Int32.toInt (q_17.1 2 29) by omega)) (fun r_25 q_26 h_27 => ?_)
      replace h_27 : (TS q_26) ∧ (dFk [2, 12] [22, 23, 24, 25] q_17 q_26) ∧ (0 ≤ Int32.toInt r_25 ∧ Int32.toInt r_25 ≤ 99) ∧ (Int32.toInt (q_26.1 2 29) = Int32.toInt (q_17.1 2 29)) ∧ (Int32.toInt (q_26.1 2 13) = Int32.toInt (q_17.1 2 13)) := h_27
      obtain ⟨i_28, i_29, i_30, i_31, i_32⟩ := h_27
      have hFq_26 : dFk [2, 12, 14] [22, 23, 24, 25, 32] q q_26 := hFq_17.t i_29 (by decide) (by decide)
      have f_33 : 0 ≤ Int32.toInt (q_26.1 2 29) ∧ Int32.toInt (q_26.1 2 29) ≤ 6 := i_28.1 2 29
      have w_34 : Int32.toInt (q_26.1 2 29) = Int32.toInt (q_17.1 2 29) := by rw [i_29.2 29 (by decide)]
      have f_35 : 0 ≤ Int32.toInt (q_26.1 2 13) ∧ Int32.toInt (q_26.1 2 13) ≤ 999 := i_28.1 2 13
      have f_36 : 0 ≤ Int32.toInt (q_17.1 2 13) ∧ Int32.toInt (q_17.1 2 13) ≤ 999 := i_19.1 2 13
      have f_37 : 0 ≤ Int32.toInt (q_8.1 2 13) ∧ Int32.toInt (q_8.1 2 13) ≤ 999 := i_10.1 2 13
      have f_38 : 0 ≤ Int32.toInt (q.1 2 13) ∧ Int32.toInt (q.1 2 13) ≤ 999 := hT.1 2 13
      have w_39 : Int32.toInt (q_8.1 2 13) = Int32.toInt (q.1 2 13) := by rw [i_11.1 2 (by decide) (by decide)]
      have w_40 : Int32.toInt (q_17.1 2 13) = Int32.toInt (q_8.1 2 13) := by rw [i_20.1 2 (by decide) (by decide)]
      exact dOk_some (show (TS q_26) ∧ (dFk [2, 12, 14] [22, 23, 24, 25, 32] q q_26) ∧ (-3 ≤ Int32.toInt r_25 ∧ Int32.toInt r_25 ≤ 99) from ⟨i_28, hFq_26, by omega⟩)

set_option maxHeartbeats 4000000 in
set_option maxRecDepth 100000 in
theorem ok_passesKept (q : dS) (hT : TS q) : dOk (zX10_passesKept q) (fun (o : Int32 × dS) => (TS o.2) ∧ (dFk [2, 12, 13, 14] [22, 23, 24, 25, 32] q o.2) ∧ (-3 ≤ Int32.toInt o.1)) := by
  unfold zX10_passesKept
  have f_1 : 0 ≤ Int32.toInt (q.1 2 13) ∧ Int32.toInt (q.1 2 13) ≤ 999 := hT.1 2 13
  refine dOk_eq (A := Int32.toInt (q.1 2 13)) (B := 999) rfl (by decide) (fun c_2z c_2 => ?_) (fun c_3z c_3 => ?_)
  · exact dOk_some (show (TS q) ∧ (dFk [2, 12, 13, 14] [22, 23, 24, 25, 32] q q) ∧ (-3 ≤ (-3 : Int)) from ⟨hT, (dFk.rf (q := q)), by omega⟩)
  · refine dOk_V (ok_keeps q 3 hT) (fun q_5 h_6 => ?_)
    replace h_6 : (TS q_5) ∧ (dFr [14] [32] q q_5) := h_6
    obtain ⟨i_7, i_8⟩ := h_6
    have hFq_5 : dFk [2, 12, 13, 14] [22, 23, 24, 25, 32] q q_5 := (dFk.rf (q := q)).tr i_8 (by decide) (by decide) (by decide)
    have f_9 : 0 ≤ Int32.toInt (q_5.1 2 13) ∧ Int32.toInt (q_5.1 2 13) ≤ 999 := i_7.1 2 13
    have w_10 : Int32.toInt (q_5.1 2 13) = Int32.toInt (q.1 2 13) := by rw [i_8.1 2 (by decide) (by decide)]
    refine dOk_B (ok_yearPasses q_5 i_7 (show Int32.toInt (q_5.1 2 13) < 999 by omega)) (fun r_11 q_12 h_13 => ?_)
    replace h_13 : (TS q_12) ∧ (dFk [2, 12, 13] [22, 23, 24, 25] q_5 q_12) ∧ (0 ≤ Int32.toInt r_11) ∧ (Int32.toInt (q_12.1 2 29) = Int32.toInt (q_5.1 2 29)) := h_13
    obtain ⟨i_14, i_15, i_16, i_17⟩ := h_13
    have hFq_12 : dFk [2, 12, 13, 14] [22, 23, 24, 25, 32] q q_12 := hFq_5.t i_15 (by decide) (by decide)
    have f_18 : 0 ≤ Int32.toInt (q_12.1 2 29) ∧ Int32.toInt (q_12.1 2 29) ≤ 6 := i_14.1 2 29
    have f_19 : 0 ≤ Int32.toInt (q_5.1 2 29) ∧ Int32.toInt (q_5.1 2 29) ≤ 6 := i_7.1 2 29
    have f_20 : 0 ≤ Int32.toInt (q.1 2 29) ∧ Int32.toInt (q.1 2 29) ≤ 6 := hT.1 2 29
    have w_21 : Int32.toInt (q_5.1 2 29) = Int32.toInt (q.1 2 29) := by rw [i_8.1 2 (by decide) (by decide)]
    have w_22 : Int32.toInt (q_12.1 2 29) = Int32.toInt (q_5.1 2 29) := by rw [i_15.2 29 (by decide)]
    exact dOk_some (show (TS q_12) ∧ (dFk [2, 12, 13, 14] [22, 23, 24, 25, 32] q q_12) ∧ (-3 ≤ Int32.toInt r_11) from ⟨i_14, hFq_12, by omega⟩)

set_option maxHeartbeats 4000000 in
set_option maxRecDepth 100000 in
theorem ok_turn (q : dS) (p1 : Int32) (hT : TS q) : dOk (zX10_turn q p1) (fun (o : Int32 × dS) => (TS o.2) ∧ (dFk [1, 2, 12, 14] [0, 22, 23, 24, 25, 32] q o.2)) := by
  unfold zX10_turn
  refine dOk_B (ok_turnsKept q p1 hT) (fun r_1 q_2 h_3 => ?_)
  replace h_3 : (TS q_2) ∧ (dFk [2, 12, 14] [22, 23, 24, 25, 32] q q_2) ∧ (-3 ≤ Int32.toInt r_1 ∧ Int32.toInt r_1 ≤ 99) := h_3
  obtain ⟨i_4, i_5, i_6⟩ := h_3
  have hFq_2 : dFk [1, 2, 12, 14] [0, 22, 23, 24, 25, 32] q q_2 := (dFk.rf (q := q)).t i_5 (by decide) (by decide)
  refine dOk_B (ok_goodOr q_2 r_1 i_4 (show (-6) ≤ Int32.toInt r_1 by omega)) (fun r_7 q_8 h_9 => ?_)
  replace h_9 : (TS q_8) ∧ (dFr [1] [0] q_2 q_8) ∧ (Int32.toInt r_7 = Int32.toInt r_1) := h_9
  obtain ⟨i_10, i_11, i_12⟩ := h_9
  have hFq_8 : dFk [1, 2, 12, 14] [0, 22, 23, 24, 25, 32] q q_8 := hFq_2.tr i_11 (by decide) (by decide) (by decide)
  exact dOk_some (show (TS q_8) ∧ (dFk [1, 2, 12, 14] [0, 22, 23, 24, 25, 32] q q_8) from ⟨i_10, hFq_8⟩)

set_option maxHeartbeats 4000000 in
set_option maxRecDepth 100000 in
theorem ok_pass (q : dS) (hT : TS q) : dOk (zX10_pass q) (fun (o : Int32 × dS) => (TS o.2) ∧ (dFk [1, 2, 12, 13, 14] [0, 22, 23, 24, 25, 32] q o.2)) := by
  unfold zX10_pass
  refine dOk_B (ok_passesKept q hT) (fun r_1 q_2 h_3 => ?_)
  replace h_3 : (TS q_2) ∧ (dFk [2, 12, 13, 14] [22, 23, 24, 25, 32] q q_2) ∧ (-3 ≤ Int32.toInt r_1) := h_3
  obtain ⟨i_4, i_5, i_6⟩ := h_3
  have hFq_2 : dFk [1, 2, 12, 13, 14] [0, 22, 23, 24, 25, 32] q q_2 := (dFk.rf (q := q)).t i_5 (by decide) (by decide)
  refine dOk_B (ok_goodOr q_2 r_1 i_4 (show (-6) ≤ Int32.toInt r_1 by omega)) (fun r_7 q_8 h_9 => ?_)
  replace h_9 : (TS q_8) ∧ (dFr [1] [0] q_2 q_8) ∧ (Int32.toInt r_7 = Int32.toInt r_1) := h_9
  obtain ⟨i_10, i_11, i_12⟩ := h_9
  have hFq_8 : dFk [1, 2, 12, 13, 14] [0, 22, 23, 24, 25, 32] q q_8 := hFq_2.tr i_11 (by decide) (by decide) (by decide)
  exact dOk_some (show (TS q_8) ∧ (dFk [1, 2, 12, 13, 14] [0, 22, 23, 24, 25, 32] q q_8) from ⟨i_10, hFq_8⟩)

set_option maxHeartbeats 4000000 in
set_option maxRecDepth 100000 in
theorem ok_at (q : dS) (p1 : Int32) (p2 : Int32) (hT : TS q) : dOk (zX10_at q p1 p2) (fun (o : Int32 × dS) => (TS o.2) ∧ (dFr [12] [22, 23, 24, 25] q o.2)) := by
  unfold zX10_at
  refine dOk_B (ok_isPlace q p1 hT) (fun r_1 q_2 h_3 => ?_)
  replace h_3 : (q_2 = q) ∧ ((Int32.toInt r_1 = 1 ∧ 0 ≤ Int32.toInt p1 ∧ Int32.toInt p1 < Int32.toInt (q.1 2 29)) ∨ (Int32.toInt r_1 = 0 ∧ (Int32.toInt p1 < 0 ∨ Int32.toInt (q.1 2 29) ≤ Int32.toInt p1))) := h_3
  obtain ⟨i_4, i_5⟩ := h_3
  subst q_2
  have f_6 : 0 ≤ Int32.toInt (q.1 2 29) ∧ Int32.toInt (q.1 2 29) ≤ 6 := hT.1 2 29
  refine dOk_eq (A := Int32.toInt r_1) (B := 0) rfl (by decide) (fun c_7z c_7 => ?_) (fun c_8z c_8 => ?_)
  · exact dOk_some (show (TS q) ∧ (dFr [12] [22, 23, 24, 25] q q) from ⟨hT, (dFr.rf (q := q))⟩)
  · refine dOk_eq (A := Int32.toInt p2) (B := 0) rfl (by decide) (fun c_10z c_10 => ?_) (fun c_11z c_11 => ?_)
    · try have t_13 : Int32.toInt (0 + p1) = 0 + Int32.toInt p1 := ti_add (by decide) rfl (by omega) (by omega)
      refine dOk_G (dg_ok (show 0 ≤ Int32.toInt (0 + p1) by omega) (show Int32.toInt (0 + p1) < ((5640 : Nat) : Int) by omega)) ?_
      have n_14 : ((Int32.toNatClampNeg (0 + p1) : Nat) : Int) = Int32.toInt (0 + p1) := cl_eq (by omega)
      refine dOk_L (fun v_15 ev_15 => ?_)
      try have g_16 : klo (Int32.toNatClampNeg (0 + p1)) ≤ Int32.toInt v_15 ∧ Int32.toInt v_15 ≤ khi (Int32.toNatClampNeg (0 + p1)) := by rw [ev_15]; exact te_k hT _
      try have f_17 : 0 ≤ Int32.toInt v_15 ∧ Int32.toInt v_15 ≤ 5 := by rw [ev_15]; exact te_2r hT (by omega) (by omega)
      try have f_18 : 0 ≤ Int32.toInt v_15 ∧ Int32.toInt v_15 ≤ 1 := by rw [ev_15]; exact te_2h hT (by omega) (by omega)
      try have f_19 : 0 ≤ Int32.toInt v_15 ∧ Int32.toInt v_15 ≤ 5 := by rw [ev_15]; exact te_2s hT (by omega) (by omega)
      try have f_20 : 0 ≤ Int32.toInt v_15 ∧ Int32.toInt v_15 ≤ 400 := by rw [ev_15]; exact te_2z hT (by omega) (by omega)
      exact dOk_some (show (TS q) ∧ (dFr [12] [22, 23, 24, 25] q q) from ⟨hT, (dFr.rf (q := q))⟩)
    · refine dOk_eq (A := Int32.toInt p2) (B := 1) rfl (by decide) (fun c_21z c_21 => ?_) (fun c_22z c_22 => ?_)
      · try have t_24 : Int32.toInt (6 + p1) = 6 + Int32.toInt p1 := ti_add (by decide) rfl (by omega) (by omega)
        refine dOk_G (dg_ok (show 0 ≤ Int32.toInt (6 + p1) by omega) (show Int32.toInt (6 + p1) < ((5640 : Nat) : Int) by omega)) ?_
        have n_25 : ((Int32.toNatClampNeg (6 + p1) : Nat) : Int) = Int32.toInt (6 + p1) := cl_eq (by omega)
        refine dOk_L (fun v_26 ev_26 => ?_)
        try have g_27 : klo (Int32.toNatClampNeg (6 + p1)) ≤ Int32.toInt v_26 ∧ Int32.toInt v_26 ≤ khi (Int32.toNatClampNeg (6 + p1)) := by rw [ev_26]; exact te_k hT _
        try have f_28 : 0 ≤ Int32.toInt v_26 ∧ Int32.toInt v_26 ≤ 5 := by rw [ev_26]; exact te_2r hT (by omega) (by omega)
        try have f_29 : 0 ≤ Int32.toInt v_26 ∧ Int32.toInt v_26 ≤ 1 := by rw [ev_26]; exact te_2h hT (by omega) (by omega)
        try have f_30 : 0 ≤ Int32.toInt v_26 ∧ Int32.toInt v_26 ≤ 5 := by rw [ev_26]; exact te_2s hT (by omega) (by omega)
        try have f_31 : 0 ≤ Int32.toInt v_26 ∧ Int32.toInt v_26 ≤ 400 := by rw [ev_26]; exact te_2z hT (by omega) (by omega)
        exact dOk_some (show (TS q) ∧ (dFr [12] [22, 23, 24, 25] q q) from ⟨hT, (dFr.rf (q := q))⟩)
      · refine dOk_eq (A := Int32.toInt p2) (B := 2) rfl (by decide) (fun c_32z c_32 => ?_) (fun c_33z c_33 => ?_)
        · refine dOk_B (ok_tipsAt q p1 hT (show 0 ≤ Int32.toInt p1 by omega) (show Int32.toInt p1 < 6 by omega)) (fun r_35 q_36 h_37 => ?_)
          replace h_37 : (TS q_36) ∧ (dFr [12] [22, 23, 24, 25] q q_36) ∧ ((Int32.toInt r_35 = 0 ∨ Int32.toInt r_35 = 1)) := h_37
          obtain ⟨i_38, i_39, i_40⟩ := h_37
          have hFq_36 : dFr [12] [22, 23, 24, 25] q q_36 := (dFr.rf (q := q)).t i_39 (by decide) (by decide)
          refine dOk_eq (A := Int32.toInt r_35) (B := 0) rfl (by decide) (fun c_41z c_41 => ?_) (fun c_42z c_42 => ?_)
          · unfold zX10_at_68
            exact dOk_some (show (TS q_36) ∧ (dFr [12] [22, 23, 24, 25] q q_36) from ⟨i_38, hFq_36⟩)
          · unfold zX10_at_68
            exact dOk_some (show (TS q_36) ∧ (dFr [12] [22, 23, 24, 25] q q_36) from ⟨i_38, hFq_36⟩)
        · exact dOk_some (show (TS q) ∧ (dFr [12] [22, 23, 24, 25] q q) from ⟨hT, (dFr.rf (q := q))⟩)

set_option maxHeartbeats 4000000 in
set_option maxRecDepth 100000 in
theorem ok_asks (q : dS) (p1 : Int32) (p2 : Int32) (hT : TS q) : dOk (zX10_asks q p1 p2) (fun (o : Int32 × dS) => (TS o.2) ∧ (dFr [12] [22, 23, 24, 25] q o.2)) := by
  unfold zX10_asks
  refine dOk_B (ok_size q hT) (fun r_1 q_2 h_3 => ?_)
  replace h_3 : (q_2 = q) ∧ (Int32.toInt r_1 = Int32.toInt (q.1 2 29)) ∧ (0 ≤ Int32.toInt r_1 ∧ Int32.toInt r_1 ≤ 6) := h_3
  obtain ⟨i_4, i_5, i_6⟩ := h_3
  subst q_2
  have f_7 : 0 ≤ Int32.toInt (q.1 2 29) ∧ Int32.toInt (q.1 2 29) ≤ 6 := hT.1 2 29
  refine dOk_V (ok_lies p1 1 r_1) (fun r_8 h_9 => ?_)
  replace h_9 : ((Int32.toInt r_8 = 1 ∧ (1 : Int) ≤ Int32.toInt p1 ∧ Int32.toInt p1 ≤ Int32.toInt r_1) ∨ (Int32.toInt r_8 = 0 ∧ (Int32.toInt p1 < (1 : Int) ∨ Int32.toInt r_1 < Int32.toInt p1))) := h_9
  have i_10 := h_9
  refine dOk_eq (A := Int32.toInt r_8) (B := 0) rfl (by decide) (fun c_11z c_11 => ?_) (fun c_12z c_12 => ?_)
  · exact dOk_some (show (TS q) ∧ (dFr [12] [22, 23, 24, 25] q q) from ⟨hT, (dFr.rf (q := q))⟩)
  · refine dOk_B (ok_rankBelow q p1 hT (show 0 ≤ Int32.toInt p1 by omega)) (fun r_14 q_15 h_16 => ?_)
    replace h_16 : (q_15 = q) ∧ (-1 ≤ Int32.toInt r_14 ∧ Int32.toInt r_14 ≤ 5) := h_16
    obtain ⟨i_17, i_18⟩ := h_16
    subst q_15
    have f_19 : 0 ≤ Int32.toInt (q.1 2 0) ∧ Int32.toInt (q.1 2 0) ≤ 5 := hT.1 2 0
    have f_20 : 0 ≤ Int32.toInt (q.1 2 6) ∧ Int32.toInt (q.1 2 6) ≤ 1 := hT.1 2 6
    refine dOk_V (ok_setsTurn q p1 (q.1 2 0) r_14 (q.1 2 6) hT) (fun q_21 h_22 => ?_)
    replace h_22 : (TS q_21) ∧ (dFr [12] [] q q_21) ∧ (Int32.toInt (q_21.1 12 0) = Int32.toInt p1) := h_22
    obtain ⟨i_23, i_24, i_25⟩ := h_22
    have hFq_21 : dFr [12] [22, 23, 24, 25] q q_21 := (dFr.rf (q := q)).t i_24 (by decide) (by decide)
    refine dOk_eq (A := Int32.toInt p2) (B := 0) rfl (by decide) (fun c_26z c_26 => ?_) (fun c_27z c_27 => ?_)
    · refine dOk_B (ok_paysNow q_21 i_23) (fun r_29 q_30 h_31 => ?_)
      replace h_31 : (TS q_30) ∧ (dFr [] [22, 23, 24, 25] q_21 q_30) ∧ ((0 ≤ Int32.toInt (q_21.1 12 0) ∧ Int32.toInt (q_21.1 12 0) ≤ 99) → 0 ≤ Int32.toInt r_29 ∧ Int32.toInt r_29 ≤ 99) := h_31
      obtain ⟨i_32, i_33, i_34⟩ := h_31
      have hFq_30 : dFr [12] [22, 23, 24, 25] q q_30 := hFq_21.t i_33 (by decide) (by decide)
      exact dOk_some (show (TS q_30) ∧ (dFr [12] [22, 23, 24, 25] q q_30) from ⟨i_32, hFq_30⟩)
    · refine dOk_eq (A := Int32.toInt p2) (B := 1) rfl (by decide) (fun c_35z c_35 => ?_) (fun c_36z c_36 => ?_)
      · refine dOk_B (ok_isNow q_21 2 i_23) (fun r_38 q_39 h_40 => ?_)
        replace h_40 : (TS q_39) ∧ (dFr [] [22, 23, 24, 25] q_21 q_39) ∧ ((Int32.toInt r_38 = 0 ∨ Int32.toInt r_38 = 1)) := h_40
        obtain ⟨i_41, i_42, i_43⟩ := h_40
        have hFq_39 : dFr [12] [22, 23, 24, 25] q q_39 := hFq_21.t i_42 (by decide) (by decide)
        refine dOk_eq (A := Int32.toInt r_38) (B := 0) rfl (by decide) (fun c_44z c_44 => ?_) (fun c_45z c_45 => ?_)
        · unfold zX10_asks_82
          exact dOk_some (show (TS q_39) ∧ (dFr [12] [22, 23, 24, 25] q q_39) from ⟨i_41, hFq_39⟩)
        · unfold zX10_asks_82
          exact dOk_some (show (TS q_39) ∧ (dFr [12] [22, 23, 24, 25] q q_39) from ⟨i_41, hFq_39⟩)
      · exact dOk_some (show (TS q_21) ∧ (dFr [12] [22, 23, 24, 25] q q_21) from ⟨i_23, hFq_21⟩)

set_option maxHeartbeats 4000000 in
set_option maxRecDepth 100000 in
theorem ok_itWas (q : dS) (p1 : Int32) (hT : TS q) (hp0 : 1 ≤ Int32.toInt p1 ∧ Int32.toInt p1 ≤ Int32.toInt (q.1 2 29)) : dOk (zX10_itWas q p1) (fun (o : Int32 × dS) => (TS o.2) ∧ (dFr [12] [22, 23, 24, 25] q o.2) ∧ ((Int32.toInt o.1 = 0 ∨ Int32.toInt o.1 = 1))) := by
  unfold zX10_itWas
  refine dOk_B (ok_canTurn q p1 hT (show 1 ≤ Int32.toInt p1 by omega)) (fun r_1 q_2 h_3 => ?_)
  replace h_3 : (TS q_2) ∧ (dFr [12] [22, 23, 24, 25] q q_2) ∧ ((Int32.toInt r_1 = 1 ∧ Int32.toInt p1 ≤ Int32.toInt (q.1 2 29)) ∨ Int32.toInt r_1 = 0) := h_3
  obtain ⟨i_4, i_5, i_6⟩ := h_3
  have hFq_2 : dFr [12] [22, 23, 24, 25] q q_2 := (dFr.rf (q := q)).t i_5 (by decide) (by decide)
  have f_7 : 0 ≤ Int32.toInt (q.1 2 29) ∧ Int32.toInt (q.1 2 29) ≤ 6 := hT.1 2 29
  unfold zX10_itWas_8
  refine dFix_ok (fun (a : dS × Int32 × Int32 × Int32) => (a.1 = q_2) ∧ (a.2.1 = p1) ∧ (0 ≤ Int32.toInt a.2.2.2) ∧ (Int32.toInt a.2.2.2 ≤ 6) ∧ (Int32.toInt a.2.2.1 = 0 ∨ Int32.toInt a.2.2.1 = 1)) (fun (a : dS × Int32 × Int32 × Int32) => (6 - Int32.toInt a.2.2.2).toNat) ?_ _ ?_ _ (dF_gt ?_)
  · intro a ha k_9 hk_8
    obtain ⟨q_10, x1_11, x2_12, x3_13⟩ := a
    replace ha : (q_10 = q_2) ∧ (x1_11 = p1) ∧ (0 ≤ Int32.toInt x3_13) ∧ (Int32.toInt x3_13 ≤ 6) ∧ (Int32.toInt x2_12 = 0 ∨ Int32.toInt x2_12 = 1) := ha
    obtain ⟨a_14, a_15, a_16, a_17, a_18⟩ := ha
    show dOk (zX10_itWas_8b  (fun q x1 x2 x3 => k_9 (q, x1, x2, x3)) q_10 x1_11 x2_12 x3_13) _
    unfold zX10_itWas_8b
    subst q_10
    subst x1_11
    have f_19 : 0 ≤ Int32.toInt (q_2.1 2 30) ∧ Int32.toInt (q_2.1 2 30) ≤ 6 := i_4.1 2 30
    have f_20 : 0 ≤ Int32.toInt (q.1 2 30) ∧ Int32.toInt (q.1 2 30) ≤ 6 := hT.1 2 30
    have w_21 : Int32.toInt (q_2.1 2 30) = Int32.toInt (q.1 2 30) := by rw [i_5.1 2 (by decide) (by decide)]
    refine dOk_le (A := Int32.toInt (q_2.1 2 30)) (B := Int32.toInt x3_13) rfl rfl (fun c_22 => ?_) (fun c_23 => ?_)
    · unfold zX10_itWas_67
      refine dOk_G (dbl_ok (show Int32.toInt x2_12 = 0 ∨ Int32.toInt x2_12 = 1 by omega)) ?_
      exact dOk_some (show (TS q_2) ∧ (dFr [12] [22, 23, 24, 25] q q_2) ∧ ((Int32.toInt x2_12 = 0 ∨ Int32.toInt x2_12 = 1)) from ⟨i_4, hFq_2, by omega⟩)
    · refine dOk_eq (A := Int32.toInt x2_12) (B := 0) rfl (by decide) (fun c_24z c_24 => ?_) (fun c_25z c_25 => ?_)
      · unfold zX10_itWas_67
        refine dOk_G (dbl_ok (show Int32.toInt x2_12 = 0 ∨ Int32.toInt x2_12 = 1 by omega)) ?_
        exact dOk_some (show (TS q_2) ∧ (dFr [12] [22, 23, 24, 25] q q_2) ∧ ((Int32.toInt x2_12 = 0 ∨ Int32.toInt x2_12 = 1)) from ⟨i_4, hFq_2, by omega⟩)
      · try have t_27 : Int32.toInt (2 * x3_13) = 2 * Int32.toInt x3_13 := ti_mul (by decide) rfl (by omega) (by omega)
        try have t_28 : Int32.toInt (14 + 2 * x3_13) = 14 + Int32.toInt (2 * x3_13) := ti_add (by decide) rfl (by omega) (by omega)
        refine dOk_G (dg_ok (show 0 ≤ Int32.toInt (14 + 2 * x3_13) by omega) (show Int32.toInt (14 + 2 * x3_13) < ((5640 : Nat) : Int) by omega)) ?_
        have n_29 : ((Int32.toNatClampNeg (14 + 2 * x3_13) : Nat) : Int) = Int32.toInt (14 + 2 * x3_13) := cl_eq (by omega)
        refine dOk_L (fun v_30 ev_30 => ?_)
        try have g_31 : klo (Int32.toNatClampNeg (14 + 2 * x3_13)) ≤ Int32.toInt v_30 ∧ Int32.toInt v_30 ≤ khi (Int32.toNatClampNeg (14 + 2 * x3_13)) := by rw [ev_30]; exact te_k i_4 _
        try have f_32 : 0 ≤ Int32.toInt v_30 ∧ Int32.toInt v_30 ≤ 5 := by rw [ev_30]; exact te_2r i_4 (by omega) (by omega)
        try have f_33 : 0 ≤ Int32.toInt v_30 ∧ Int32.toInt v_30 ≤ 1 := by rw [ev_30]; exact te_2h i_4 (by omega) (by omega)
        try have f_34 : 0 ≤ Int32.toInt v_30 ∧ Int32.toInt v_30 ≤ 5 := by rw [ev_30]; exact te_2s i_4 (by omega) (by omega)
        try have f_35 : 0 ≤ Int32.toInt v_30 ∧ Int32.toInt v_30 ≤ 400 := by rw [ev_30]; exact te_2z i_4 (by omega) (by omega)
        have f_36 : 0 ≤ Int32.toInt (q_2.1 2 29) ∧ Int32.toInt (q_2.1 2 29) ≤ 6 := i_4.1 2 29
        have w_37 : Int32.toInt (q_2.1 2 29) = Int32.toInt (q.1 2 29) := by rw [i_5.1 2 (by decide) (by decide)]
        refine dOk_B (ok_rankBehind q_2 p1 v_30 i_4 (show 1 ≤ Int32.toInt p1 ∧ Int32.toInt p1 ≤ Int32.toInt (q_2.1 2 29) by omega)) (fun r_38 q_39 h_40 => ?_)
        replace h_40 : (q_39 = q_2) ∧ ((0 ≤ Int32.toInt v_30 ∧ Int32.toInt v_30 < Int32.toInt (q_2.1 2 29) ∧ 0 ≤ Int32.toInt r_38 ∧ Int32.toInt r_38 ≤ 5) ∨ ((Int32.toInt v_30 < 0 ∨ Int32.toInt (q_2.1 2 29) ≤ Int32.toInt v_30) ∧ Int32.toInt r_38 = -1)) := h_40
        obtain ⟨i_41, i_42⟩ := h_40
        subst q_39
        try have t_43 : Int32.toInt (14 + 2 * x3_13 + 1) = Int32.toInt (14 + 2 * x3_13) + 1 := ti_add rfl (by decide) (by omega) (by omega)
        refine dOk_G (dg_ok (show 0 ≤ Int32.toInt (14 + 2 * x3_13 + 1) by omega) (show Int32.toInt (14 + 2 * x3_13 + 1) < ((5640 : Nat) : Int) by omega)) ?_
        have n_44 : ((Int32.toNatClampNeg (14 + 2 * x3_13 + 1) : Nat) : Int) = Int32.toInt (14 + 2 * x3_13 + 1) := cl_eq (by omega)
        refine dOk_L (fun v_45 ev_45 => ?_)
        try have g_46 : klo (Int32.toNatClampNeg (14 + 2 * x3_13 + 1)) ≤ Int32.toInt v_45 ∧ Int32.toInt v_45 ≤ khi (Int32.toNatClampNeg (14 + 2 * x3_13 + 1)) := by rw [ev_45]; exact te_k i_4 _
        try have f_47 : 0 ≤ Int32.toInt v_45 ∧ Int32.toInt v_45 ≤ 5 := by rw [ev_45]; exact te_2r i_4 (by omega) (by omega)
        try have f_48 : 0 ≤ Int32.toInt v_45 ∧ Int32.toInt v_45 ≤ 1 := by rw [ev_45]; exact te_2h i_4 (by omega) (by omega)
        try have f_49 : 0 ≤ Int32.toInt v_45 ∧ Int32.toInt v_45 ≤ 5 := by rw [ev_45]; exact te_2s i_4 (by omega) (by omega)
        try have f_50 : 0 ≤ Int32.toInt v_45 ∧ Int32.toInt v_45 ≤ 400 := by rw [ev_45]; exact te_2z i_4 (by omega) (by omega)
        refine dOk_eq (A := Int32.toInt r_38) (B := Int32.toInt v_45) rfl rfl (fun c_51z c_51 => ?_) (fun c_52z c_52 => ?_)
        · unfold zX10_itWas_60
          try have t_54 : Int32.toInt (x3_13 + 1) = Int32.toInt x3_13 + 1 := ti_add rfl (by decide) (by omega) (by omega)
          exact hk_8 (q_2, p1, 1, (x3_13 + 1)) (show (q_2 = q_2) ∧ (p1 = p1) ∧ (0 ≤ Int32.toInt (x3_13 + 1)) ∧ (Int32.toInt (x3_13 + 1) ≤ 6) ∧ ((1 : Int) = 0 ∨ (1 : Int) = 1) from ⟨rfl, rfl, by omega, by omega, by omega⟩) (show (6 - Int32.toInt (x3_13 + 1)).toNat < (6 - Int32.toInt x3_13).toNat by omega)
        · unfold zX10_itWas_60
          try have t_55 : Int32.toInt (x3_13 + 1) = Int32.toInt x3_13 + 1 := ti_add rfl (by decide) (by omega) (by omega)
          exact hk_8 (q_2, p1, 0, (x3_13 + 1)) (show (q_2 = q_2) ∧ (p1 = p1) ∧ (0 ≤ Int32.toInt (x3_13 + 1)) ∧ (Int32.toInt (x3_13 + 1) ≤ 6) ∧ ((0 : Int) = 0 ∨ (0 : Int) = 1) from ⟨rfl, rfl, by omega, by omega, by omega⟩) (show (6 - Int32.toInt (x3_13 + 1)).toNat < (6 - Int32.toInt x3_13).toNat by omega)
  · exact (show (q_2 = q_2) ∧ (p1 = p1) ∧ (0 ≤ (0 : Int)) ∧ ((0 : Int) ≤ 6) ∧ (Int32.toInt r_1 = 0 ∨ Int32.toInt r_1 = 1) from ⟨rfl, rfl, by omega, by omega, by omega⟩)
  · show (6 - (0 : Int)).toNat < 1000000000000
    omega

set_option maxHeartbeats 4000000 in
set_option maxRecDepth 100000 in
theorem ok_was (q : dS) (hT : TS q) : dOk (zX10_was q) (fun (o : Int32 × dS) => (TS o.2) ∧ (dFr [12] [22, 23, 24, 25] q o.2)) := by
  unfold zX10_was
  unfold zX10_was_4
  refine dFix_ok (fun (a : dS × Int32 × Int32) => (TS a.1) ∧ (dFr [12] [22, 23, 24, 25] q a.1) ∧ (1 ≤ Int32.toInt a.2.2) ∧ (Int32.toInt a.2.2 ≤ 7)) (fun (a : dS × Int32 × Int32) => (7 - Int32.toInt a.2.2).toNat) ?_ _ ?_ _ (dF_gt ?_)
  · intro a ha k_2 hk_1
    obtain ⟨q_3, x1_4, x2_5⟩ := a
    replace ha : (TS q_3) ∧ (dFr [12] [22, 23, 24, 25] q q_3) ∧ (1 ≤ Int32.toInt x2_5) ∧ (Int32.toInt x2_5 ≤ 7) := ha
    obtain ⟨a_6, a_7, a_8, a_9⟩ := ha
    show dOk (zX10_was_4b  (fun q x1 x2 => k_2 (q, x1, x2)) q_3 x1_4 x2_5) _
    unfold zX10_was_4b
    have hFq_3 : dFr [12] [22, 23, 24, 25] q q_3 := (dFr.rf (q := q)).t a_7 (by decide) (by decide)
    refine dOk_B (ok_size q_3 a_6) (fun r_10 q_11 h_12 => ?_)
    replace h_12 : (q_11 = q_3) ∧ (Int32.toInt r_10 = Int32.toInt (q_3.1 2 29)) ∧ (0 ≤ Int32.toInt r_10 ∧ Int32.toInt r_10 ≤ 6) := h_12
    obtain ⟨i_13, i_14, i_15⟩ := h_12
    subst q_11
    have f_16 : 0 ≤ Int32.toInt (q_3.1 2 29) ∧ Int32.toInt (q_3.1 2 29) ≤ 6 := a_6.1 2 29
    have f_17 : 0 ≤ Int32.toInt (q.1 2 29) ∧ Int32.toInt (q.1 2 29) ≤ 6 := hT.1 2 29
    have w_18 : Int32.toInt (q_3.1 2 29) = Int32.toInt (q.1 2 29) := by rw [a_7.1 2 (by decide) (by decide)]
    refine dOk_lt (A := Int32.toInt r_10) (B := Int32.toInt x2_5) rfl rfl (fun c_19 => ?_) (fun c_20 => ?_)
    · exact dOk_some (show (TS q_3) ∧ (dFr [12] [22, 23, 24, 25] q q_3) from ⟨a_6, hFq_3⟩)
    · refine dOk_B (ok_itWas q_3 x2_5 a_6 (show 1 ≤ Int32.toInt x2_5 ∧ Int32.toInt x2_5 ≤ Int32.toInt (q_3.1 2 29) by omega)) (fun r_21 q_22 h_23 => ?_)
      replace h_23 : (TS q_22) ∧ (dFr [12] [22, 23, 24, 25] q_3 q_22) ∧ ((Int32.toInt r_21 = 0 ∨ Int32.toInt r_21 = 1)) := h_23
      obtain ⟨i_24, i_25, i_26⟩ := h_23
      have hFq_22 : dFr [12] [22, 23, 24, 25] q q_22 := hFq_3.t i_25 (by decide) (by decide)
      refine dOk_eq (A := Int32.toInt r_21) (B := 0) rfl (by decide) (fun c_27z c_27 => ?_) (fun c_28z c_28 => ?_)
      · unfold zX10_was_28
        try have t_30 := ti_or (x := x1_4) (y := 0) 6 (by decide) (by omega) (by omega) (by omega) (by omega)
        try have t_31 : Int32.toInt (x2_5 + 1) = Int32.toInt x2_5 + 1 := ti_add rfl (by decide) (by omega) (by omega)
        exact hk_1 (q_22, (x1_4 ||| 0), (x2_5 + 1)) (show (TS q_22) ∧ (dFr [12] [22, 23, 24, 25] q q_22) ∧ (1 ≤ Int32.toInt (x2_5 + 1)) ∧ (Int32.toInt (x2_5 + 1) ≤ 7) from ⟨i_24, ((((dFr.rf : dFr [12] [22, 23, 24, 25] q q).t a_7 (by decide) (by decide)) : dFr [12] [22, 23, 24, 25] q q_3).t i_25 (by decide) (by decide)), by omega, by omega⟩) (show (7 - Int32.toInt (x2_5 + 1)).toNat < (7 - Int32.toInt x2_5).toNat by omega)
      · unfold zX10_was_28
        try have t_32 := ti_shlP (s := x2_5) (by omega) (by omega)
        try have t_33 := ti_shl5 (x := 1) (s := x2_5) (by decide) (by decide) (by omega) (by omega)
        try have t_34 := ti_shl6 (x := 1) (s := x2_5) (by decide) (by decide) (by omega) (by omega)
        try have t_35 := ti_or (x := x1_4) (y := 1 <<< ((x2_5 : Int32) &&& 31)) 6 (by decide) (by omega) (by omega) (by omega) (by omega)
        try have t_36 : Int32.toInt (x2_5 + 1) = Int32.toInt x2_5 + 1 := ti_add rfl (by decide) (by omega) (by omega)
        exact hk_1 (q_22, (x1_4 ||| 1 <<< ((x2_5 : Int32) &&& 31)), (x2_5 + 1)) (show (TS q_22) ∧ (dFr [12] [22, 23, 24, 25] q q_22) ∧ (1 ≤ Int32.toInt (x2_5 + 1)) ∧ (Int32.toInt (x2_5 + 1) ≤ 7) from ⟨i_24, ((((dFr.rf : dFr [12] [22, 23, 24, 25] q q).t a_7 (by decide) (by decide)) : dFr [12] [22, 23, 24, 25] q q_3).t i_25 (by decide) (by decide)), by omega, by omega⟩) (show (7 - Int32.toInt (x2_5 + 1)).toNat < (7 - Int32.toInt x2_5).toNat by omega)
  · exact (show (TS q) ∧ (dFr [12] [22, 23, 24, 25] q q) ∧ (1 ≤ (1 : Int)) ∧ ((1 : Int) ≤ 7) from ⟨hT, dFr.rf, by omega, by omega⟩)
  · show (7 - (1 : Int)).toNat < 1000000000000
    omega
end
section
set_option maxHeartbeats 4000000 in
set_option maxRecDepth 100000 in
theorem ok_look (q : dS) (p1 : Int32) (hT : TS q) : dOk (zX10_look q p1) (fun (o : Int32 × dS) => (TS o.2) ∧ (dFr [12, 25] [22, 23, 24, 25] q o.2)) := by
  unfold zX10_look
  refine dOk_V (ok_lies p1 0 1) (fun r_1 h_2 => ?_)
  replace h_2 : ((Int32.toInt r_1 = 1 ∧ (0 : Int) ≤ Int32.toInt p1 ∧ Int32.toInt p1 ≤ (1 : Int)) ∨ (Int32.toInt r_1 = 0 ∧ (Int32.toInt p1 < (0 : Int) ∨ (1 : Int) < Int32.toInt p1))) := h_2
  have i_3 := h_2
  refine dOk_eq (A := Int32.toInt r_1) (B := 0) rfl (by decide) (fun c_4z c_4 => ?_) (fun c_5z c_5 => ?_)
  · exact dOk_some (show (TS q) ∧ (dFr [12, 25] [22, 23, 24, 25] q q) from ⟨hT, (dFr.rf (q := q))⟩)
  · refine dOk_B (ok_was q hT) (fun r_7 q_8 h_9 => ?_)
    replace h_9 : (TS q_8) ∧ (dFr [12] [22, 23, 24, 25] q q_8) := h_9
    obtain ⟨i_10, i_11⟩ := h_9
    have hFq_8 : dFr [12, 25] [22, 23, 24, 25] q q_8 := (dFr.rf (q := q)).t i_11 (by decide) (by decide)
    unfold zX10_look_25
    refine dFix_ok (fun (a : dS × Int32 × Int32 × Int32 × Int32 × Int32) => (TS a.1) ∧ (dFr [25] [] q_8 a.1) ∧ (a.2.1 = p1) ∧ (a.2.2.1 = r_7) ∧ (0 ≤ Int32.toInt a.2.2.2.2.2) ∧ (Int32.toInt a.2.2.2.2.2 ≤ 6)) (fun (a : dS × Int32 × Int32 × Int32 × Int32 × Int32) => (6 - Int32.toInt a.2.2.2.2.2).toNat) ?_ _ ?_ _ (dF_gt ?_)
    · intro a ha k_13 hk_12
      obtain ⟨q_14, x1_15, x2_16, x3_17, x4_18, x5_19⟩ := a
      replace ha : (TS q_14) ∧ (dFr [25] [] q_8 q_14) ∧ (x1_15 = p1) ∧ (x2_16 = r_7) ∧ (0 ≤ Int32.toInt x5_19) ∧ (Int32.toInt x5_19 ≤ 6) := ha
      obtain ⟨a_20, a_21, a_22, a_23, a_24, a_25⟩ := ha
      show dOk (zX10_look_25b  (fun q x1 x2 x3 x4 x5 => k_13 (q, x1, x2, x3, x4, x5)) q_14 x1_15 x2_16 x3_17 x4_18 x5_19) _
      unfold zX10_look_25b
      have hFq_14 : dFr [12, 25] [22, 23, 24, 25] q q_14 := hFq_8.t a_21 (by decide) (by decide)
      subst x1_15
      subst x2_16
      refine dOk_B (ok_size q_14 a_20) (fun r_26 q_27 h_28 => ?_)
      replace h_28 : (q_27 = q_14) ∧ (Int32.toInt r_26 = Int32.toInt (q_14.1 2 29)) ∧ (0 ≤ Int32.toInt r_26 ∧ Int32.toInt r_26 ≤ 6) := h_28
      obtain ⟨i_29, i_30, i_31⟩ := h_28
      subst q_27
      have f_32 : 0 ≤ Int32.toInt (q_14.1 2 29) ∧ Int32.toInt (q_14.1 2 29) ≤ 6 := a_20.1 2 29
      have f_33 : 0 ≤ Int32.toInt (q_8.1 2 29) ∧ Int32.toInt (q_8.1 2 29) ≤ 6 := i_10.1 2 29
      have f_34 : 0 ≤ Int32.toInt (q.1 2 29) ∧ Int32.toInt (q.1 2 29) ≤ 6 := hT.1 2 29
      have w_35 : Int32.toInt (q_8.1 2 29) = Int32.toInt (q.1 2 29) := by rw [i_11.1 2 (by decide) (by decide)]
      have w_36 : Int32.toInt (q_14.1 2 29) = Int32.toInt (q_8.1 2 29) := by rw [a_21.1 2 (by decide) (by decide)]
      refine dOk_le (A := Int32.toInt r_26) (B := Int32.toInt x5_19) rfl rfl (fun c_37 => ?_) (fun c_38 => ?_)
      · unfold zX10_look_70
        refine dOk_eq (A := Int32.toInt x3_17) (B := (-1)) rfl (by decide) (fun c_39z c_39 => ?_) (fun c_40z c_40 => ?_)
        · unfold zX10_look_79
          unfold zX10_look_85
          exact dOk_some (show (TS q_14) ∧ (dFr [12, 25] [22, 23, 24, 25] q q_14) from ⟨a_20, hFq_14⟩)
        · refine dOk_eq (A := Int32.toInt p1) (B := 0) rfl (by decide) (fun c_42z c_42 => ?_) (fun c_43z c_43 => ?_)
          · unfold zX10_look_79
            unfold zX10_look_85
            exact dOk_some (show (TS q_14) ∧ (dFr [12, 25] [22, 23, 24, 25] q q_14) from ⟨a_20, hFq_14⟩)
          · unfold zX10_look_85
            exact dOk_some (show (TS q_14) ∧ (dFr [12, 25] [22, 23, 24, 25] q q_14) from ⟨a_20, hFq_14⟩)
      · refine dOk_eq (A := Int32.toInt r_7) (B := 0) rfl (by decide) (fun c_45z c_45 => ?_) (fun c_46z c_46 => ?_)
        · unfold zX10_look_70
          refine dOk_eq (A := Int32.toInt x3_17) (B := (-1)) rfl (by decide) (fun c_48z c_48 => ?_) (fun c_49z c_49 => ?_)
          · unfold zX10_look_79
            unfold zX10_look_85
            exact dOk_some (show (TS q_14) ∧ (dFr [12, 25] [22, 23, 24, 25] q q_14) from ⟨a_20, hFq_14⟩)
          · refine dOk_eq (A := Int32.toInt p1) (B := 0) rfl (by decide) (fun c_51z c_51 => ?_) (fun c_52z c_52 => ?_)
            · unfold zX10_look_79
              unfold zX10_look_85
              exact dOk_some (show (TS q_14) ∧ (dFr [12, 25] [22, 23, 24, 25] q q_14) from ⟨a_20, hFq_14⟩)
            · unfold zX10_look_85
              exact dOk_some (show (TS q_14) ∧ (dFr [12, 25] [22, 23, 24, 25] q q_14) from ⟨a_20, hFq_14⟩)
        · refine dOk_B (ok_mostAlike q_14 r_7 x5_19 a_20 (show 0 ≤ Int32.toInt x5_19 ∧ Int32.toInt x5_19 < Int32.toInt (q_14.1 2 29) by omega)) (fun r_54 q_55 h_56 => ?_)
          replace h_56 : (TS q_55) ∧ (dFr [25] [] q_14 q_55) := h_56
          obtain ⟨i_57, i_58⟩ := h_56
          have hFq_55 : dFr [12, 25] [22, 23, 24, 25] q q_55 := hFq_14.t i_58 (by decide) (by decide)
          refine dOk_lt (A := Int32.toInt r_54) (B := Int32.toInt x4_18) rfl rfl (fun c_59 => ?_) (fun c_60 => ?_)
          · unfold zX10_look_64
            try have t_61 : Int32.toInt (x5_19 + 1) = Int32.toInt x5_19 + 1 := ti_add rfl (by decide) (by omega) (by omega)
            exact hk_12 (q_55, p1, r_7, x5_19, r_54, (x5_19 + 1)) (show (TS q_55) ∧ (dFr [25] [] q_8 q_55) ∧ (p1 = p1) ∧ (r_7 = r_7) ∧ (0 ≤ Int32.toInt (x5_19 + 1)) ∧ (Int32.toInt (x5_19 + 1) ≤ 6) from ⟨i_57, ((((dFr.rf : dFr [25] [] q_8 q_8).t a_21 (by decide) (by decide)) : dFr [25] [] q_8 q_14).t i_58 (by decide) (by decide)), rfl, rfl, by omega, by omega⟩) (show (6 - Int32.toInt (x5_19 + 1)).toNat < (6 - Int32.toInt x5_19).toNat by omega)
          · unfold zX10_look_64
            try have t_62 : Int32.toInt (x5_19 + 1) = Int32.toInt x5_19 + 1 := ti_add rfl (by decide) (by omega) (by omega)
            exact hk_12 (q_55, p1, r_7, x3_17, x4_18, (x5_19 + 1)) (show (TS q_55) ∧ (dFr [25] [] q_8 q_55) ∧ (p1 = p1) ∧ (r_7 = r_7) ∧ (0 ≤ Int32.toInt (x5_19 + 1)) ∧ (Int32.toInt (x5_19 + 1) ≤ 6) from ⟨i_57, ((((dFr.rf : dFr [25] [] q_8 q_8).t a_21 (by decide) (by decide)) : dFr [25] [] q_8 q_14).t i_58 (by decide) (by decide)), rfl, rfl, by omega, by omega⟩) (show (6 - Int32.toInt (x5_19 + 1)).toNat < (6 - Int32.toInt x5_19).toNat by omega)
    · exact (show (TS q_8) ∧ (dFr [25] [] q_8 q_8) ∧ (p1 = p1) ∧ (r_7 = r_7) ∧ (0 ≤ (0 : Int)) ∧ ((0 : Int) ≤ 6) from ⟨i_10, dFr.rf, rfl, rfl, by omega, by omega⟩)
    · show (6 - (0 : Int)).toNat < 1000000000000
      omega

theorem ok_draws (q : dS) (p1 : Int32) (hT : TS q) (hp0 : 1 ≤ Int32.toInt p1) : dOk (zX10_draws q p1) (fun (o : Int32 × dS) => (TS o.2) ∧ (dFr [] [55] q o.2) ∧ (0 ≤ Int32.toInt o.1 ∧ Int32.toInt o.1 < Int32.toInt p1)) := by
  unfold zX10_draws
  have f : 0 ≤ Int32.toInt (q.1 0 55) ∧ Int32.toInt (q.1 0 55) ≤ 1000002 := hT.1 0 55
  refine dOk_L (fun v1 e1 => dOk_L (fun q2 e2 => ?_))
  have t1 : Int64.toInt (1103 * Int32.toInt64 (q.1 0 55)) = 1103 * Int32.toInt (q.1 0 55) := tl_mul (by decide) (Int32.toInt_toInt64 _) (by omega) (by omega)
  have t2 : v1.toInt = 1103 * Int32.toInt (q.1 0 55) + 12345 := by rw [e1]; exact tl_add t1 (by decide) (by omega) (by omega)
  have t3 : (v1 - v1 / 1000003 * 1000003).toInt = v1.toInt % 1000003 := tl_rem rfl (by decide) (by omega) (by omega)
  have t4 : (Int64.toInt32 (v1 - v1 / 1000003 * 1000003)).toInt = v1.toInt % 1000003 := by
    rw [Int64.toInt_toInt32, t3]
    exact Int.bmod_eq_of_le (by omega) (by omega)
  have hT2 : TS q2 := by
    rw [e2]
    refine ts_f hT ?_ ?_
    · show (0 : Int) ≤ _
      rw [t4]; omega
    · show _ ≤ (1000002 : Int)
      rw [t4]; omega
  have f2 : 0 ≤ Int32.toInt (q2.1 0 55) ∧ Int32.toInt (q2.1 0 55) ≤ 1000002 := hT2.1 0 55
  refine dOk_G (dnz_ok (by omega)) (dOk_some ⟨hT2, ?_, ?_⟩)
  · show dFr [] [55] q q2
    rw [e2]; exact dFr.rf.f (by decide)
  · show 0 ≤ Int32.toInt (q2.1 0 55 - q2.1 0 55 / p1 * p1) ∧ _
    rw [show Int32.toInt (q2.1 0 55 - q2.1 0 55 / p1 * p1) = Int32.toInt (q2.1 0 55) % Int32.toInt p1 from ti_rem rfl rfl (by omega) (by omega)]
    exact ⟨Int.emod_nonneg _ (by omega), Int.emod_lt_of_pos _ (by omega)⟩
end
section
set_option maxHeartbeats 4000000 in
set_option maxRecDepth 100000 in
theorem ok_years (q : dS) (p1 : Int32) (p2 : Int32) (hT : TS q) : dOk (zX10_years q p1 p2) (fun (o : Int32 × dS) => (TS o.2) ∧ (dFk [1, 2, 5, 12, 13, 27] [0, 22, 23, 24, 25, 54, 55] q o.2)) := by
  unfold zX10_years
  refine dOk_V (ok_lies p1 0 1000000) (fun r_1 h_2 => ?_)
  replace h_2 : ((Int32.toInt r_1 = 1 ∧ (0 : Int) ≤ Int32.toInt p1 ∧ Int32.toInt p1 ≤ (1000000 : Int)) ∨ (Int32.toInt r_1 = 0 ∧ (Int32.toInt p1 < (0 : Int) ∨ (1000000 : Int) < Int32.toInt p1))) := h_2
  have i_3 := h_2
  refine dOk_eq (A := Int32.toInt r_1) (B := 0) rfl (by decide) (fun c_4z c_4 => ?_) (fun c_5z c_5 => ?_)
  · unfold zX10_years_20
    refine dOk_B (ok_refuses q (-1) hT (show (-6) ≤ (-1 : Int) by omega) (show (-1 : Int) ≤ 0 by omega)) (fun r_7 q_8 h_9 => ?_)
    replace h_9 : (TS q_8) ∧ (dFr [1] [0] q q_8) ∧ (Int32.toInt r_7 = (-1 : Int)) := h_9
    obtain ⟨i_10, i_11, i_12⟩ := h_9
    have hFq_8 : dFk [1, 2, 5, 12, 13, 27] [0, 22, 23, 24, 25, 54, 55] q q_8 := (dFk.rf (q := q)).tr i_11 (by decide) (by decide) (by decide)
    exact dOk_some (show (TS q_8) ∧ (dFk [1, 2, 5, 12, 13, 27] [0, 22, 23, 24, 25, 54, 55] q q_8) from ⟨i_10, hFq_8⟩)
  · refine dOk_V (ok_lies p2 1 60) (fun r_13 h_14 => ?_)
    replace h_14 : ((Int32.toInt r_13 = 1 ∧ (1 : Int) ≤ Int32.toInt p2 ∧ Int32.toInt p2 ≤ (60 : Int)) ∨ (Int32.toInt r_13 = 0 ∧ (Int32.toInt p2 < (1 : Int) ∨ (60 : Int) < Int32.toInt p2))) := h_14
    have i_15 := h_14
    refine dOk_eq (A := Int32.toInt r_13) (B := 0) rfl (by decide) (fun c_16z c_16 => ?_) (fun c_17z c_17 => ?_)
    · unfold zX10_years_20
      refine dOk_B (ok_refuses q (-1) hT (show (-6) ≤ (-1 : Int) by omega) (show (-1 : Int) ≤ 0 by omega)) (fun r_19 q_20 h_21 => ?_)
      replace h_21 : (TS q_20) ∧ (dFr [1] [0] q q_20) ∧ (Int32.toInt r_19 = (-1 : Int)) := h_21
      obtain ⟨i_22, i_23, i_24⟩ := h_21
      have hFq_20 : dFk [1, 2, 5, 12, 13, 27] [0, 22, 23, 24, 25, 54, 55] q q_20 := (dFk.rf (q := q)).tr i_23 (by decide) (by decide) (by decide)
      exact dOk_some (show (TS q_20) ∧ (dFk [1, 2, 5, 12, 13, 27] [0, 22, 23, 24, 25, 54, 55] q q_20) from ⟨i_22, hFq_20⟩)
    · refine dOk_B (ok_size q hT) (fun r_25 q_26 h_27 => ?_)
      replace h_27 : (q_26 = q) ∧ (Int32.toInt r_25 = Int32.toInt (q.1 2 29)) ∧ (0 ≤ Int32.toInt r_25 ∧ Int32.toInt r_25 ≤ 6) := h_27
      obtain ⟨i_28, i_29, i_30⟩ := h_27
      subst q_26
      have f_31 : 0 ≤ Int32.toInt (q.1 2 29) ∧ Int32.toInt (q.1 2 29) ≤ 6 := hT.1 2 29
      refine dOk_eq (A := Int32.toInt r_25) (B := 0) rfl (by decide) (fun c_32z c_32 => ?_) (fun c_33z c_33 => ?_)
      · refine dOk_B (ok_refuses q (-3) hT (show (-6) ≤ (-3 : Int) by omega) (show (-3 : Int) ≤ 0 by omega)) (fun r_35 q_36 h_37 => ?_)
        replace h_37 : (TS q_36) ∧ (dFr [1] [0] q q_36) ∧ (Int32.toInt r_35 = (-3 : Int)) := h_37
        obtain ⟨i_38, i_39, i_40⟩ := h_37
        have hFq_36 : dFk [1, 2, 5, 12, 13, 27] [0, 22, 23, 24, 25, 54, 55] q q_36 := (dFk.rf (q := q)).tr i_39 (by decide) (by decide) (by decide)
        exact dOk_some (show (TS q_36) ∧ (dFk [1, 2, 5, 12, 13, 27] [0, 22, 23, 24, 25, 54, 55] q q_36) from ⟨i_38, hFq_36⟩)
      · refine dOk_L (fun q_41 eq_41 => ?_)
        have hTq_41 : TS q_41 := by rw [eq_41]; exact ts_f hT (show 0 ≤ Int32.toInt p1 by omega) (show Int32.toInt p1 ≤ 1000002 by omega)
        have hFq_41 : dFk [1, 2, 5, 12, 13, 27] [0, 22, 23, 24, 25, 54, 55] q q_41 := by rw [eq_41]; exact (dFk.rf (q := q)).f (by decide)
        refine dOk_B (ok_size q_41 hTq_41) (fun r_42 q_43 h_44 => ?_)
        replace h_44 : (q_43 = q_41) ∧ (Int32.toInt r_42 = Int32.toInt (q_41.1 2 29)) ∧ (0 ≤ Int32.toInt r_42 ∧ Int32.toInt r_42 ≤ 6) := h_44
        obtain ⟨i_45, i_46, i_47⟩ := h_44
        subst q_43
        have f_48 : 0 ≤ Int32.toInt (q_41.1 2 29) ∧ Int32.toInt (q_41.1 2 29) ≤ 6 := hTq_41.1 2 29
        have w_49 : Int32.toInt (q_41.1 2 29) = Int32.toInt (q.1 2 29) := by rw [eq_41, dui_o (by decide)]
        refine dOk_L (fun q_50 eq_50 => ?_)
        have hTq_50 : TS q_50 := by rw [eq_50]; exact ts_f hTq_41 (show -1 ≤ Int32.toInt r_42 by omega) (show Int32.toInt r_42 ≤ 6 by omega)
        have hFq_50 : dFk [1, 2, 5, 12, 13, 27] [0, 22, 23, 24, 25, 54, 55] q q_50 := by rw [eq_50]; exact hFq_41.f (by decide)
        refine dOk_V (ok_laysAside q_50 0 hTq_50 (show 0 ≤ (0 : Int) by omega) (show (0 : Int) ≤ 1 by omega)) (fun q_51 h_52 => ?_)
        replace h_52 : (TS q_51) ∧ (dFr [5] [] q_50 q_51) := h_52
        obtain ⟨i_53, i_54⟩ := h_52
        have hFq_51 : dFk [1, 2, 5, 12, 13, 27] [0, 22, 23, 24, 25, 54, 55] q q_51 := hFq_50.tr i_54 (by decide) (by decide) (by decide)
        unfold zX10_years_69
        refine dFix_ok (fun (a : dS × Int32 × Int32 × Int32) => (TS a.1) ∧ (dFk [2, 12, 13] [22, 23, 24, 25, 55] q_51 a.1) ∧ (a.2.1 = p2) ∧ (a.2.2.1 = (q_51.1 2 12)) ∧ (0 ≤ Int32.toInt a.2.2.2) ∧ (Int32.toInt a.2.2.2 ≤ 60)) (fun (a : dS × Int32 × Int32 × Int32) => (60 - Int32.toInt a.2.2.2).toNat) ?_ _ ?_ _ (dF_gt ?_)
        · intro a ha k_56 hk_55
          obtain ⟨q_57, x2_58, x3_59, x4_60⟩ := a
          replace ha : (TS q_57) ∧ (dFk [2, 12, 13] [22, 23, 24, 25, 55] q_51 q_57) ∧ (x2_58 = p2) ∧ (x3_59 = (q_51.1 2 12)) ∧ (0 ≤ Int32.toInt x4_60) ∧ (Int32.toInt x4_60 ≤ 60) := ha
          obtain ⟨a_61, a_62, a_63, a_64, a_65, a_66⟩ := ha
          show dOk (zX10_years_69b  (fun q x2 x3 x4 => k_56 (q, x2, x3, x4)) q_57 x2_58 x3_59 x4_60) _
          unfold zX10_years_69b
          have hFq_57 : dFk [1, 2, 5, 12, 13, 27] [0, 22, 23, 24, 25, 54, 55] q q_57 := hFq_51.t a_62 (by decide) (by decide)
          subst x2_58
          subst x3_59
          have f_67 : 0 ≤ Int32.toInt (q_51.1 2 12) ∧ Int32.toInt (q_51.1 2 12) ≤ 9999 := i_53.1 2 12
          have f_68 : 0 ≤ Int32.toInt (q_50.1 2 12) ∧ Int32.toInt (q_50.1 2 12) ≤ 9999 := hTq_50.1 2 12
          have f_69 : 0 ≤ Int32.toInt (q_41.1 2 12) ∧ Int32.toInt (q_41.1 2 12) ≤ 9999 := hTq_41.1 2 12
          have f_70 : 0 ≤ Int32.toInt (q.1 2 12) ∧ Int32.toInt (q.1 2 12) ≤ 9999 := hT.1 2 12
          have w_71 : Int32.toInt (q_41.1 2 12) = Int32.toInt (q.1 2 12) := by rw [eq_41, dui_o (by decide)]
          have w_72 : Int32.toInt (q_50.1 2 12) = Int32.toInt (q_41.1 2 12) := by rw [eq_50, dui_o (by decide)]
          have w_73 : Int32.toInt (q_51.1 2 12) = Int32.toInt (q_50.1 2 12) := by rw [i_54.1 2 (by decide) (by decide)]
          refine dOk_le (A := Int32.toInt p2) (B := Int32.toInt x4_60) rfl rfl (fun c_74 => ?_) (fun c_75 => ?_)
          · unfold zX10_years_177
            unfold zX10_years_191
            refine dFix_ok (fun (a : dS × Int32 × Int32) => (TS a.1) ∧ (dFk [27] [] q_57 a.1) ∧ (a.2.1 = (q_57.1 2 12 - q_51.1 2 12)) ∧ (0 ≤ Int32.toInt a.2.2) ∧ (Int32.toInt a.2.2 ≤ 14)) (fun (a : dS × Int32 × Int32) => (14 - Int32.toInt a.2.2).toNat) ?_ _ ?_ _ (dF_gt ?_)
            · intro a ha k_77 hk_76
              obtain ⟨q_78, x4_79, x5_80⟩ := a
              replace ha : (TS q_78) ∧ (dFk [27] [] q_57 q_78) ∧ (x4_79 = (q_57.1 2 12 - q_51.1 2 12)) ∧ (0 ≤ Int32.toInt x5_80) ∧ (Int32.toInt x5_80 ≤ 14) := ha
              obtain ⟨a_81, a_82, a_83, a_84, a_85⟩ := ha
              show dOk (zX10_years_191b  (fun q x4 x5 => k_77 (q, x4, x5)) q_78 x4_79 x5_80) _
              unfold zX10_years_191b
              have hFq_78 : dFk [1, 2, 5, 12, 13, 27] [0, 22, 23, 24, 25, 54, 55] q q_78 := hFq_57.t a_82 (by decide) (by decide)
              subst x4_79
              have f_86 : 0 ≤ Int32.toInt (q_57.1 2 12) ∧ Int32.toInt (q_57.1 2 12) ≤ 9999 := a_61.1 2 12
              refine dOk_le (A := 14) (B := Int32.toInt x5_80) (by decide) rfl (fun c_87 => ?_) (fun c_88 => ?_)
              · refine dOk_V (ok_takesBack q_78 0 a_81 (show 0 ≤ (0 : Int) by omega) (show (0 : Int) ≤ 1 by omega)) (fun q_89 h_90 => ?_)
                replace h_90 : (TS q_89) ∧ (dFk [2] [] q_78 q_89) := h_90
                obtain ⟨i_91, i_92⟩ := h_90
                have hFq_89 : dFk [1, 2, 5, 12, 13, 27] [0, 22, 23, 24, 25, 54, 55] q q_89 := hFq_78.t i_92 (by decide) (by decide)
                try have t_93 : Int32.toInt (q_57.1 2 12 - q_51.1 2 12) = Int32.toInt (q_57.1 2 12) - Int32.toInt (q_51.1 2 12) := ti_sub rfl rfl (by omega) (by omega)
                refine dOk_B (ok_good q_89 (q_57.1 2 12 - q_51.1 2 12) i_91) (fun r_94 q_95 h_96 => ?_)
                replace h_96 : (TS q_95) ∧ (dFr [] [0] q_89 q_95) ∧ (Int32.toInt r_94 = Int32.toInt (q_57.1 2 12 - q_51.1 2 12)) := h_96
                obtain ⟨i_97, i_98, i_99⟩ := h_96
                have hFq_95 : dFk [1, 2, 5, 12, 13, 27] [0, 22, 23, 24, 25, 54, 55] q q_95 := hFq_89.tr i_98 (by decide) (by decide) (by decide)
                exact dOk_some (show (TS q_95) ∧ (dFk [1, 2, 5, 12, 13, 27] [0, 22, 23, 24, 25, 54, 55] q q_95) from ⟨i_97, hFq_95⟩)
              · refine dOk_G (dg_ok (show 0 ≤ Int32.toInt x5_80 by omega) (show Int32.toInt x5_80 < ((5640 : Nat) : Int) by omega)) ?_
                have n_100 : ((Int32.toNatClampNeg x5_80 : Nat) : Int) = Int32.toInt x5_80 := cl_eq (by omega)
                refine dOk_L (fun v_101 ev_101 => ?_)
                try have g_102 : klo (Int32.toNatClampNeg x5_80) ≤ Int32.toInt v_101 ∧ Int32.toInt v_101 ≤ khi (Int32.toNatClampNeg x5_80) := by rw [ev_101]; exact te_k a_81 _
                try have f_103 : 0 ≤ Int32.toInt v_101 ∧ Int32.toInt v_101 ≤ 5 := by rw [ev_101]; exact te_2r a_81 (by omega) (by omega)
                try have f_104 : 0 ≤ Int32.toInt v_101 ∧ Int32.toInt v_101 ≤ 1 := by rw [ev_101]; exact te_2h a_81 (by omega) (by omega)
                try have f_105 : 0 ≤ Int32.toInt v_101 ∧ Int32.toInt v_101 ≤ 5 := by rw [ev_101]; exact te_2s a_81 (by omega) (by omega)
                try have f_106 : 0 ≤ Int32.toInt v_101 ∧ Int32.toInt v_101 ≤ 400 := by rw [ev_101]; exact te_2z a_81 (by omega) (by omega)
                refine dOk_G (dg_ok (show 0 ≤ Int32.toInt x5_80 by omega) (show Int32.toInt x5_80 < ((14 : Nat) : Int) by omega)) ?_
                refine dOk_L (fun q_107 eq_107 => ?_)
                have hTq_107 : TS q_107 := by rw [eq_107]; first | exact ts_27 a_81 (show (Int32.toNatClampNeg x5_80) % 14 = Int32.toNatClampNeg x5_80 by omega) g_102 | exact ts_set a_81 (by decide) (by simp only [tlo, klo]; omega) (by simp only [thi, khi]; omega)
                have hFq_107 : dFk [1, 2, 5, 12, 13, 27] [0, 22, 23, 24, 25, 54, 55] q q_107 := by rw [eq_107]; exact hFq_78.i (by decide) (by decide) (by decide)
                try have t_108 : Int32.toInt (q_57.1 2 12 - q_51.1 2 12) = Int32.toInt (q_57.1 2 12) - Int32.toInt (q_51.1 2 12) := ti_sub rfl rfl (by omega) (by omega)
                try have t_109 : Int32.toInt (x5_80 + 1) = Int32.toInt x5_80 + 1 := ti_add rfl (by decide) (by omega) (by omega)
                exact hk_76 (q_107, (q_57.1 2 12 - q_51.1 2 12), (x5_80 + 1)) (show (TS q_107) ∧ (dFk [27] [] q_57 q_107) ∧ ((q_57.1 2 12 - q_51.1 2 12) = (q_57.1 2 12 - q_51.1 2 12)) ∧ (0 ≤ Int32.toInt (x5_80 + 1)) ∧ (Int32.toInt (x5_80 + 1) ≤ 14) from ⟨hTq_107, (by rw [eq_107]; exact (((dFk.rf : dFk [27] [] q_57 q_57).t a_82 (by decide) (by decide)) : dFk [27] [] q_57 q_78).i (by decide) (by decide) (by decide)), rfl, by omega, by omega⟩) (show (14 - Int32.toInt (x5_80 + 1)).toNat < (14 - Int32.toInt x5_80).toNat by omega)
            · have f_110 : 0 ≤ Int32.toInt (q_57.1 2 12) ∧ Int32.toInt (q_57.1 2 12) ≤ 9999 := a_61.1 2 12
              try have t_111 : Int32.toInt (q_57.1 2 12 - q_51.1 2 12) = Int32.toInt (q_57.1 2 12) - Int32.toInt (q_51.1 2 12) := ti_sub rfl rfl (by omega) (by omega)
              exact (show (TS q_57) ∧ (dFk [27] [] q_57 q_57) ∧ ((q_57.1 2 12 - q_51.1 2 12) = (q_57.1 2 12 - q_51.1 2 12)) ∧ (0 ≤ (0 : Int)) ∧ ((0 : Int) ≤ 14) from ⟨a_61, dFk.rf, rfl, by omega, by omega⟩)
            · have f_112 : 0 ≤ Int32.toInt (q_57.1 2 12) ∧ Int32.toInt (q_57.1 2 12) ≤ 9999 := a_61.1 2 12
              try have t_113 : Int32.toInt (q_57.1 2 12 - q_51.1 2 12) = Int32.toInt (q_57.1 2 12) - Int32.toInt (q_51.1 2 12) := ti_sub rfl rfl (by omega) (by omega)
              show (14 - (0 : Int)).toNat < 1000000000000
              omega
          · have f_114 : 0 ≤ Int32.toInt (q_57.1 2 13) ∧ Int32.toInt (q_57.1 2 13) ≤ 999 := a_61.1 2 13
            refine dOk_le (A := 999) (B := Int32.toInt (q_57.1 2 13)) (by decide) rfl (fun c_115 => ?_) (fun c_116 => ?_)
            · unfold zX10_years_177
              unfold zX10_years_191
              refine dFix_ok (fun (a : dS × Int32 × Int32) => (TS a.1) ∧ (dFk [27] [] q_57 a.1) ∧ (a.2.1 = (q_57.1 2 12 - q_51.1 2 12)) ∧ (0 ≤ Int32.toInt a.2.2) ∧ (Int32.toInt a.2.2 ≤ 14)) (fun (a : dS × Int32 × Int32) => (14 - Int32.toInt a.2.2).toNat) ?_ _ ?_ _ (dF_gt ?_)
              · intro a ha k_118 hk_117
                obtain ⟨q_119, x4_120, x5_121⟩ := a
                replace ha : (TS q_119) ∧ (dFk [27] [] q_57 q_119) ∧ (x4_120 = (q_57.1 2 12 - q_51.1 2 12)) ∧ (0 ≤ Int32.toInt x5_121) ∧ (Int32.toInt x5_121 ≤ 14) := ha
                obtain ⟨a_122, a_123, a_124, a_125, a_126⟩ := ha
                show dOk (zX10_years_191b  (fun q x4 x5 => k_118 (q, x4, x5)) q_119 x4_120 x5_121) _
                unfold zX10_years_191b
                have hFq_119 : dFk [1, 2, 5, 12, 13, 27] [0, 22, 23, 24, 25, 54, 55] q q_119 := hFq_57.t a_123 (by decide) (by decide)
                subst x4_120
                have f_127 : 0 ≤ Int32.toInt (q_57.1 2 12) ∧ Int32.toInt (q_57.1 2 12) ≤ 9999 := a_61.1 2 12
                refine dOk_le (A := 14) (B := Int32.toInt x5_121) (by decide) rfl (fun c_128 => ?_) (fun c_129 => ?_)
                · refine dOk_V (ok_takesBack q_119 0 a_122 (show 0 ≤ (0 : Int) by omega) (show (0 : Int) ≤ 1 by omega)) (fun q_130 h_131 => ?_)
                  replace h_131 : (TS q_130) ∧ (dFk [2] [] q_119 q_130) := h_131
                  obtain ⟨i_132, i_133⟩ := h_131
                  have hFq_130 : dFk [1, 2, 5, 12, 13, 27] [0, 22, 23, 24, 25, 54, 55] q q_130 := hFq_119.t i_133 (by decide) (by decide)
                  try have t_134 : Int32.toInt (q_57.1 2 12 - q_51.1 2 12) = Int32.toInt (q_57.1 2 12) - Int32.toInt (q_51.1 2 12) := ti_sub rfl rfl (by omega) (by omega)
                  refine dOk_B (ok_good q_130 (q_57.1 2 12 - q_51.1 2 12) i_132) (fun r_135 q_136 h_137 => ?_)
                  replace h_137 : (TS q_136) ∧ (dFr [] [0] q_130 q_136) ∧ (Int32.toInt r_135 = Int32.toInt (q_57.1 2 12 - q_51.1 2 12)) := h_137
                  obtain ⟨i_138, i_139, i_140⟩ := h_137
                  have hFq_136 : dFk [1, 2, 5, 12, 13, 27] [0, 22, 23, 24, 25, 54, 55] q q_136 := hFq_130.tr i_139 (by decide) (by decide) (by decide)
                  exact dOk_some (show (TS q_136) ∧ (dFk [1, 2, 5, 12, 13, 27] [0, 22, 23, 24, 25, 54, 55] q q_136) from ⟨i_138, hFq_136⟩)
                · refine dOk_G (dg_ok (show 0 ≤ Int32.toInt x5_121 by omega) (show Int32.toInt x5_121 < ((5640 : Nat) : Int) by omega)) ?_
                  have n_141 : ((Int32.toNatClampNeg x5_121 : Nat) : Int) = Int32.toInt x5_121 := cl_eq (by omega)
                  refine dOk_L (fun v_142 ev_142 => ?_)
                  try have g_143 : klo (Int32.toNatClampNeg x5_121) ≤ Int32.toInt v_142 ∧ Int32.toInt v_142 ≤ khi (Int32.toNatClampNeg x5_121) := by rw [ev_142]; exact te_k a_122 _
                  try have f_144 : 0 ≤ Int32.toInt v_142 ∧ Int32.toInt v_142 ≤ 5 := by rw [ev_142]; exact te_2r a_122 (by omega) (by omega)
                  try have f_145 : 0 ≤ Int32.toInt v_142 ∧ Int32.toInt v_142 ≤ 1 := by rw [ev_142]; exact te_2h a_122 (by omega) (by omega)
                  try have f_146 : 0 ≤ Int32.toInt v_142 ∧ Int32.toInt v_142 ≤ 5 := by rw [ev_142]; exact te_2s a_122 (by omega) (by omega)
                  try have f_147 : 0 ≤ Int32.toInt v_142 ∧ Int32.toInt v_142 ≤ 400 := by rw [ev_142]; exact te_2z a_122 (by omega) (by omega)
                  refine dOk_G (dg_ok (show 0 ≤ Int32.toInt x5_121 by omega) (show Int32.toInt x5_121 < ((14 : Nat) : Int) by omega)) ?_
                  refine dOk_L (fun q_148 eq_148 => ?_)
                  have hTq_148 : TS q_148 := by rw [eq_148]; first | exact ts_27 a_122 (show (Int32.toNatClampNeg x5_121) % 14 = Int32.toNatClampNeg x5_121 by omega) g_143 | exact ts_set a_122 (by decide) (by simp only [tlo, klo]; omega) (by simp only [thi, khi]; omega)
                  have hFq_148 : dFk [1, 2, 5, 12, 13, 27] [0, 22, 23, 24, 25, 54, 55] q q_148 := by rw [eq_148]; exact hFq_119.i (by decide) (by decide) (by decide)
                  try have t_149 : Int32.toInt (q_57.1 2 12 - q_51.1 2 12) = Int32.toInt (q_57.1 2 12) - Int32.toInt (q_51.1 2 12) := ti_sub rfl rfl (by omega) (by omega)
                  try have t_150 : Int32.toInt (x5_121 + 1) = Int32.toInt x5_121 + 1 := ti_add rfl (by decide) (by omega) (by omega)
                  exact hk_117 (q_148, (q_57.1 2 12 - q_51.1 2 12), (x5_121 + 1)) (show (TS q_148) ∧ (dFk [27] [] q_57 q_148) ∧ ((q_57.1 2 12 - q_51.1 2 12) = (q_57.1 2 12 - q_51.1 2 12)) ∧ (0 ≤ Int32.toInt (x5_121 + 1)) ∧ (Int32.toInt (x5_121 + 1) ≤ 14) from ⟨hTq_148, (by rw [eq_148]; exact (((dFk.rf : dFk [27] [] q_57 q_57).t a_123 (by decide) (by decide)) : dFk [27] [] q_57 q_119).i (by decide) (by decide) (by decide)), rfl, by omega, by omega⟩) (show (14 - Int32.toInt (x5_121 + 1)).toNat < (14 - Int32.toInt x5_121).toNat by omega)
              · have f_151 : 0 ≤ Int32.toInt (q_57.1 2 12) ∧ Int32.toInt (q_57.1 2 12) ≤ 9999 := a_61.1 2 12
                try have t_152 : Int32.toInt (q_57.1 2 12 - q_51.1 2 12) = Int32.toInt (q_57.1 2 12) - Int32.toInt (q_51.1 2 12) := ti_sub rfl rfl (by omega) (by omega)
                exact (show (TS q_57) ∧ (dFk [27] [] q_57 q_57) ∧ ((q_57.1 2 12 - q_51.1 2 12) = (q_57.1 2 12 - q_51.1 2 12)) ∧ (0 ≤ (0 : Int)) ∧ ((0 : Int) ≤ 14) from ⟨a_61, dFk.rf, rfl, by omega, by omega⟩)
              · have f_153 : 0 ≤ Int32.toInt (q_57.1 2 12) ∧ Int32.toInt (q_57.1 2 12) ≤ 9999 := a_61.1 2 12
                try have t_154 : Int32.toInt (q_57.1 2 12 - q_51.1 2 12) = Int32.toInt (q_57.1 2 12) - Int32.toInt (q_51.1 2 12) := ti_sub rfl rfl (by omega) (by omega)
                show (14 - (0 : Int)).toNat < 1000000000000
                omega
            · refine dOk_B (ok_draws q_57 6 a_61 (show 1 ≤ (6 : Int) by omega)) (fun r_155 q_156 h_157 => ?_)
              replace h_157 : (TS q_156) ∧ (dFr [] [55] q_57 q_156) ∧ (0 ≤ Int32.toInt r_155 ∧ Int32.toInt r_155 < (6 : Int)) := h_157
              obtain ⟨i_158, i_159, i_160⟩ := h_157
              have hFq_156 : dFk [1, 2, 5, 12, 13, 27] [0, 22, 23, 24, 25, 54, 55] q q_156 := hFq_57.tr i_159 (by decide) (by decide) (by decide)
              refine dOk_B (ok_draws q_156 3 i_158 (show 1 ≤ (3 : Int) by omega)) (fun r_161 q_162 h_163 => ?_)
              replace h_163 : (TS q_162) ∧ (dFr [] [55] q_156 q_162) ∧ (0 ≤ Int32.toInt r_161 ∧ Int32.toInt r_161 < (3 : Int)) := h_163
              obtain ⟨i_164, i_165, i_166⟩ := h_163
              have hFq_162 : dFk [1, 2, 5, 12, 13, 27] [0, 22, 23, 24, 25, 54, 55] q q_162 := hFq_156.tr i_165 (by decide) (by decide) (by decide)
              refine dOk_le (A := 2) (B := Int32.toInt r_161) (by decide) rfl (fun c_167 => ?_) (fun c_168 => ?_)
              · unfold zX10_years_129
                refine dOk_eq (A := Int32.toInt r_161) (B := 2) rfl (by decide) (fun c_169z c_169 => ?_) (fun c_170z c_170 => ?_)
                · refine dOk_B (ok_isPlace q_162 r_155 i_164) (fun r_172 q_173 h_174 => ?_)
                  replace h_174 : (q_173 = q_162) ∧ ((Int32.toInt r_172 = 1 ∧ 0 ≤ Int32.toInt r_155 ∧ Int32.toInt r_155 < Int32.toInt (q_162.1 2 29)) ∨ (Int32.toInt r_172 = 0 ∧ (Int32.toInt r_155 < 0 ∨ Int32.toInt (q_162.1 2 29) ≤ Int32.toInt r_155))) := h_174
                  obtain ⟨i_175, i_176⟩ := h_174
                  subst q_173
                  have f_177 : 0 ≤ Int32.toInt (q_162.1 2 29) ∧ Int32.toInt (q_162.1 2 29) ≤ 6 := i_164.1 2 29
                  have f_178 : 0 ≤ Int32.toInt (q_156.1 2 29) ∧ Int32.toInt (q_156.1 2 29) ≤ 6 := i_158.1 2 29
                  have f_179 : 0 ≤ Int32.toInt (q_57.1 2 29) ∧ Int32.toInt (q_57.1 2 29) ≤ 6 := a_61.1 2 29
                  have f_180 : 0 ≤ Int32.toInt (q_51.1 2 29) ∧ Int32.toInt (q_51.1 2 29) ≤ 6 := i_53.1 2 29
                  have f_181 : 0 ≤ Int32.toInt (q_50.1 2 29) ∧ Int32.toInt (q_50.1 2 29) ≤ 6 := hTq_50.1 2 29
                  have w_182 : Int32.toInt (q_50.1 2 29) = Int32.toInt (q_41.1 2 29) := by rw [eq_50, dui_o (by decide)]
                  have w_183 : Int32.toInt (q_51.1 2 29) = Int32.toInt (q_50.1 2 29) := by rw [i_54.1 2 (by decide) (by decide)]
                  have w_184 : Int32.toInt (q_57.1 2 29) = Int32.toInt (q_51.1 2 29) := by rw [a_62.2 29 (by decide)]
                  have w_185 : Int32.toInt (q_156.1 2 29) = Int32.toInt (q_57.1 2 29) := by rw [i_159.1 2 (by decide) (by decide)]
                  have w_186 : Int32.toInt (q_162.1 2 29) = Int32.toInt (q_156.1 2 29) := by rw [i_165.1 2 (by decide) (by decide)]
                  refine dOk_eq (A := Int32.toInt r_172) (B := 0) rfl (by decide) (fun c_187z c_187 => ?_) (fun c_188z c_188 => ?_)
                  · unfold zX10_years_166
                    have f_190 : 0 ≤ Int32.toInt (q_162.1 2 13) ∧ Int32.toInt (q_162.1 2 13) ≤ 999 := i_164.1 2 13
                    have f_191 : 0 ≤ Int32.toInt (q_156.1 2 13) ∧ Int32.toInt (q_156.1 2 13) ≤ 999 := i_158.1 2 13
                    have w_192 : Int32.toInt (q_156.1 2 13) = Int32.toInt (q_57.1 2 13) := by rw [i_159.1 2 (by decide) (by decide)]
                    have w_193 : Int32.toInt (q_162.1 2 13) = Int32.toInt (q_156.1 2 13) := by rw [i_165.1 2 (by decide) (by decide)]
                    refine dOk_B (ok_yearPasses q_162 i_164 (show Int32.toInt (q_162.1 2 13) < 999 by omega)) (fun r_194 q_195 h_196 => ?_)
                    replace h_196 : (TS q_195) ∧ (dFk [2, 12, 13] [22, 23, 24, 25] q_162 q_195) ∧ (0 ≤ Int32.toInt r_194) ∧ (Int32.toInt (q_195.1 2 29) = Int32.toInt (q_162.1 2 29)) := h_196
                    obtain ⟨i_197, i_198, i_199, i_200⟩ := h_196
                    have hFq_195 : dFk [1, 2, 5, 12, 13, 27] [0, 22, 23, 24, 25, 54, 55] q q_195 := hFq_162.t i_198 (by decide) (by decide)
                    have f_201 : 0 ≤ Int32.toInt (q_195.1 2 29) ∧ Int32.toInt (q_195.1 2 29) ≤ 6 := i_197.1 2 29
                    have w_202 : Int32.toInt (q_195.1 2 29) = Int32.toInt (q_162.1 2 29) := by rw [i_198.2 29 (by decide)]
                    try have t_203 : Int32.toInt (x4_60 + 1) = Int32.toInt x4_60 + 1 := ti_add rfl (by decide) (by omega) (by omega)
                    exact hk_55 (q_195, p2, (q_51.1 2 12), (x4_60 + 1)) (show (TS q_195) ∧ (dFk [2, 12, 13] [22, 23, 24, 25, 55] q_51 q_195) ∧ (p2 = p2) ∧ ((q_51.1 2 12) = (q_51.1 2 12)) ∧ (0 ≤ Int32.toInt (x4_60 + 1)) ∧ (Int32.toInt (x4_60 + 1) ≤ 60) from ⟨i_197, ((((((((dFk.rf : dFk [2, 12, 13] [22, 23, 24, 25, 55] q_51 q_51).t a_62 (by decide) (by decide)) : dFk [2, 12, 13] [22, 23, 24, 25, 55] q_51 q_57).tr i_159 (by decide) (by decide) (by decide)) : dFk [2, 12, 13] [22, 23, 24, 25, 55] q_51 q_156).tr i_165 (by decide) (by decide) (by decide)) : dFk [2, 12, 13] [22, 23, 24, 25, 55] q_51 q_162).t i_198 (by decide) (by decide)), rfl, rfl, by omega, by omega⟩) (show (60 - Int32.toInt (x4_60 + 1)).toNat < (60 - Int32.toInt x4_60).toNat by omega)
                  · try have t_204 : Int32.toInt (6 + r_155) = 6 + Int32.toInt r_155 := ti_add (by decide) rfl (by omega) (by omega)
                    refine dOk_G (dg_ok (show 0 ≤ Int32.toInt (6 + r_155) by omega) (show Int32.toInt (6 + r_155) < ((5640 : Nat) : Int) by omega)) ?_
                    have n_205 : ((Int32.toNatClampNeg (6 + r_155) : Nat) : Int) = Int32.toInt (6 + r_155) := cl_eq (by omega)
                    refine dOk_L (fun v_206 ev_206 => ?_)
                    try have g_207 : klo (Int32.toNatClampNeg (6 + r_155)) ≤ Int32.toInt v_206 ∧ Int32.toInt v_206 ≤ khi (Int32.toNatClampNeg (6 + r_155)) := by rw [ev_206]; exact te_k i_164 _
                    try have f_208 : 0 ≤ Int32.toInt v_206 ∧ Int32.toInt v_206 ≤ 5 := by rw [ev_206]; exact te_2r i_164 (by omega) (by omega)
                    try have f_209 : 0 ≤ Int32.toInt v_206 ∧ Int32.toInt v_206 ≤ 1 := by rw [ev_206]; exact te_2h i_164 (by omega) (by omega)
                    try have f_210 : 0 ≤ Int32.toInt v_206 ∧ Int32.toInt v_206 ≤ 5 := by rw [ev_206]; exact te_2s i_164 (by omega) (by omega)
                    try have f_211 : 0 ≤ Int32.toInt v_206 ∧ Int32.toInt v_206 ≤ 400 := by rw [ev_206]; exact te_2z i_164 (by omega) (by omega)
                    refine dOk_G (dg_ok (show 0 ≤ Int32.toInt (6 + r_155) by omega) (show Int32.toInt (6 + r_155) < ((5640 : Nat) : Int) by omega)) ?_
                    refine dOk_L (fun q_212 eq_212 => ?_)
                    try have t_213 : Int32.toInt (1 - v_206) = 1 - Int32.toInt v_206 := ti_sub (by decide) rfl (by omega) (by omega)
                    have hTq_212 : TS q_212 := by rw [eq_212]; exact ts_set2 i_164 (by omega) (show klo (Int32.toNatClampNeg (6 + r_155)) ≤ Int32.toInt (1 - v_206) by unfold klo; omega) (show Int32.toInt (1 - v_206) ≤ khi (Int32.toNatClampNeg (6 + r_155)) by unfold khi; omega)
                    have hFq_212 : dFk [1, 2, 5, 12, 13, 27] [0, 22, 23, 24, 25, 54, 55] q q_212 := by rw [eq_212]; exact hFq_162.k (by omega) (by decide)
                    unfold zX10_years_166
                    have f_214 : 0 ≤ Int32.toInt (q_212.1 2 13) ∧ Int32.toInt (q_212.1 2 13) ≤ 999 := hTq_212.1 2 13
                    have f_215 : 0 ≤ Int32.toInt (q_162.1 2 13) ∧ Int32.toInt (q_162.1 2 13) ≤ 999 := i_164.1 2 13
                    have f_216 : 0 ≤ Int32.toInt (q_156.1 2 13) ∧ Int32.toInt (q_156.1 2 13) ≤ 999 := i_158.1 2 13
                    have w_217 : Int32.toInt (q_156.1 2 13) = Int32.toInt (q_57.1 2 13) := by rw [i_159.1 2 (by decide) (by decide)]
                    have w_218 : Int32.toInt (q_162.1 2 13) = Int32.toInt (q_156.1 2 13) := by rw [i_165.1 2 (by decide) (by decide)]
                    try have w_219 : Int32.toInt (q_212.1 2 13) = Int32.toInt (q_162.1 2 13) := by rw [eq_212, dui_n (by omega)]
                    refine dOk_B (ok_yearPasses q_212 hTq_212 (show Int32.toInt (q_212.1 2 13) < 999 by omega)) (fun r_220 q_221 h_222 => ?_)
                    replace h_222 : (TS q_221) ∧ (dFk [2, 12, 13] [22, 23, 24, 25] q_212 q_221) ∧ (0 ≤ Int32.toInt r_220) ∧ (Int32.toInt (q_221.1 2 29) = Int32.toInt (q_212.1 2 29)) := h_222
                    obtain ⟨i_223, i_224, i_225, i_226⟩ := h_222
                    have hFq_221 : dFk [1, 2, 5, 12, 13, 27] [0, 22, 23, 24, 25, 54, 55] q q_221 := hFq_212.t i_224 (by decide) (by decide)
                    have f_227 : 0 ≤ Int32.toInt (q_221.1 2 29) ∧ Int32.toInt (q_221.1 2 29) ≤ 6 := i_223.1 2 29
                    have f_228 : 0 ≤ Int32.toInt (q_212.1 2 29) ∧ Int32.toInt (q_212.1 2 29) ≤ 6 := hTq_212.1 2 29
                    try have w_229 : Int32.toInt (q_212.1 2 29) = Int32.toInt (q_162.1 2 29) := by rw [eq_212, dui_n (by omega)]
                    have w_230 : Int32.toInt (q_221.1 2 29) = Int32.toInt (q_212.1 2 29) := by rw [i_224.2 29 (by decide)]
                    try have t_231 : Int32.toInt (x4_60 + 1) = Int32.toInt x4_60 + 1 := ti_add rfl (by decide) (by omega) (by omega)
                    exact hk_55 (q_221, p2, (q_51.1 2 12), (x4_60 + 1)) (show (TS q_221) ∧ (dFk [2, 12, 13] [22, 23, 24, 25, 55] q_51 q_221) ∧ (p2 = p2) ∧ ((q_51.1 2 12) = (q_51.1 2 12)) ∧ (0 ≤ Int32.toInt (x4_60 + 1)) ∧ (Int32.toInt (x4_60 + 1) ≤ 60) from ⟨i_223, (((by rw [eq_212]; exact (((((((dFk.rf : dFk [2, 12, 13] [22, 23, 24, 25, 55] q_51 q_51).t a_62 (by decide) (by decide)) : dFk [2, 12, 13] [22, 23, 24, 25, 55] q_51 q_57).tr i_159 (by decide) (by decide) (by decide)) : dFk [2, 12, 13] [22, 23, 24, 25, 55] q_51 q_156).tr i_165 (by decide) (by decide) (by decide)) : dFk [2, 12, 13] [22, 23, 24, 25, 55] q_51 q_162).k (by omega) (by decide)) : dFk [2, 12, 13] [22, 23, 24, 25, 55] q_51 q_212).t i_224 (by decide) (by decide)), rfl, rfl, by omega, by omega⟩) (show (60 - Int32.toInt (x4_60 + 1)).toNat < (60 - Int32.toInt x4_60).toNat by omega)
                · unfold zX10_years_166
                  have f_232 : 0 ≤ Int32.toInt (q_162.1 2 13) ∧ Int32.toInt (q_162.1 2 13) ≤ 999 := i_164.1 2 13
                  have f_233 : 0 ≤ Int32.toInt (q_156.1 2 13) ∧ Int32.toInt (q_156.1 2 13) ≤ 999 := i_158.1 2 13
                  have w_234 : Int32.toInt (q_156.1 2 13) = Int32.toInt (q_57.1 2 13) := by rw [i_159.1 2 (by decide) (by decide)]
                  have w_235 : Int32.toInt (q_162.1 2 13) = Int32.toInt (q_156.1 2 13) := by rw [i_165.1 2 (by decide) (by decide)]
                  refine dOk_B (ok_yearPasses q_162 i_164 (show Int32.toInt (q_162.1 2 13) < 999 by omega)) (fun r_236 q_237 h_238 => ?_)
                  replace h_238 : (TS q_237) ∧ (dFk [2, 12, 13] [22, 23, 24, 25] q_162 q_237) ∧ (0 ≤ Int32.toInt r_236) ∧ (Int32.toInt (q_237.1 2 29) = Int32.toInt (q_162.1 2 29)) := h_238
                  obtain ⟨i_239, i_240, i_241, i_242⟩ := h_238
                  have hFq_237 : dFk [1, 2, 5, 12, 13, 27] [0, 22, 23, 24, 25, 54, 55] q q_237 := hFq_162.t i_240 (by decide) (by decide)
                  have f_243 : 0 ≤ Int32.toInt (q_237.1 2 29) ∧ Int32.toInt (q_237.1 2 29) ≤ 6 := i_239.1 2 29
                  have f_244 : 0 ≤ Int32.toInt (q_162.1 2 29) ∧ Int32.toInt (q_162.1 2 29) ≤ 6 := i_164.1 2 29
                  have f_245 : 0 ≤ Int32.toInt (q_156.1 2 29) ∧ Int32.toInt (q_156.1 2 29) ≤ 6 := i_158.1 2 29
                  have f_246 : 0 ≤ Int32.toInt (q_57.1 2 29) ∧ Int32.toInt (q_57.1 2 29) ≤ 6 := a_61.1 2 29
                  have f_247 : 0 ≤ Int32.toInt (q_51.1 2 29) ∧ Int32.toInt (q_51.1 2 29) ≤ 6 := i_53.1 2 29
                  have f_248 : 0 ≤ Int32.toInt (q_50.1 2 29) ∧ Int32.toInt (q_50.1 2 29) ≤ 6 := hTq_50.1 2 29
                  have w_249 : Int32.toInt (q_50.1 2 29) = Int32.toInt (q_41.1 2 29) := by rw [eq_50, dui_o (by decide)]
                  have w_250 : Int32.toInt (q_51.1 2 29) = Int32.toInt (q_50.1 2 29) := by rw [i_54.1 2 (by decide) (by decide)]
                  have w_251 : Int32.toInt (q_57.1 2 29) = Int32.toInt (q_51.1 2 29) := by rw [a_62.2 29 (by decide)]
                  have w_252 : Int32.toInt (q_156.1 2 29) = Int32.toInt (q_57.1 2 29) := by rw [i_159.1 2 (by decide) (by decide)]
                  have w_253 : Int32.toInt (q_162.1 2 29) = Int32.toInt (q_156.1 2 29) := by rw [i_165.1 2 (by decide) (by decide)]
                  have w_254 : Int32.toInt (q_237.1 2 29) = Int32.toInt (q_162.1 2 29) := by rw [i_240.2 29 (by decide)]
                  try have t_255 : Int32.toInt (x4_60 + 1) = Int32.toInt x4_60 + 1 := ti_add rfl (by decide) (by omega) (by omega)
                  exact hk_55 (q_237, p2, (q_51.1 2 12), (x4_60 + 1)) (show (TS q_237) ∧ (dFk [2, 12, 13] [22, 23, 24, 25, 55] q_51 q_237) ∧ (p2 = p2) ∧ ((q_51.1 2 12) = (q_51.1 2 12)) ∧ (0 ≤ Int32.toInt (x4_60 + 1)) ∧ (Int32.toInt (x4_60 + 1) ≤ 60) from ⟨i_239, ((((((((dFk.rf : dFk [2, 12, 13] [22, 23, 24, 25, 55] q_51 q_51).t a_62 (by decide) (by decide)) : dFk [2, 12, 13] [22, 23, 24, 25, 55] q_51 q_57).tr i_159 (by decide) (by decide) (by decide)) : dFk [2, 12, 13] [22, 23, 24, 25, 55] q_51 q_156).tr i_165 (by decide) (by decide) (by decide)) : dFk [2, 12, 13] [22, 23, 24, 25, 55] q_51 q_162).t i_240 (by decide) (by decide)), rfl, rfl, by omega, by omega⟩) (show (60 - Int32.toInt (x4_60 + 1)).toNat < (60 - Int32.toInt x4_60).toNat by omega)
              · try have t_256 : Int32.toInt (r_155 + 1) = Int32.toInt r_155 + 1 := ti_add rfl (by decide) (by omega) (by omega)
                refine dOk_B (ok_canTurn q_162 (r_155 + 1) i_164 (show 1 ≤ Int32.toInt (r_155 + 1) by omega)) (fun r_257 q_258 h_259 => ?_)
                replace h_259 : (TS q_258) ∧ (dFr [12] [22, 23, 24, 25] q_162 q_258) ∧ ((Int32.toInt r_257 = 1 ∧ Int32.toInt (r_155 + 1) ≤ Int32.toInt (q_162.1 2 29)) ∨ Int32.toInt r_257 = 0) := h_259
                obtain ⟨i_260, i_261, i_262⟩ := h_259
                have hFq_258 : dFk [1, 2, 5, 12, 13, 27] [0, 22, 23, 24, 25, 54, 55] q q_258 := hFq_162.tr i_261 (by decide) (by decide) (by decide)
                have f_263 : 0 ≤ Int32.toInt (q_162.1 2 29) ∧ Int32.toInt (q_162.1 2 29) ≤ 6 := i_164.1 2 29
                have f_264 : 0 ≤ Int32.toInt (q_156.1 2 29) ∧ Int32.toInt (q_156.1 2 29) ≤ 6 := i_158.1 2 29
                have f_265 : 0 ≤ Int32.toInt (q_57.1 2 29) ∧ Int32.toInt (q_57.1 2 29) ≤ 6 := a_61.1 2 29
                have f_266 : 0 ≤ Int32.toInt (q_51.1 2 29) ∧ Int32.toInt (q_51.1 2 29) ≤ 6 := i_53.1 2 29
                have f_267 : 0 ≤ Int32.toInt (q_50.1 2 29) ∧ Int32.toInt (q_50.1 2 29) ≤ 6 := hTq_50.1 2 29
                have w_268 : Int32.toInt (q_50.1 2 29) = Int32.toInt (q_41.1 2 29) := by rw [eq_50, dui_o (by decide)]
                have w_269 : Int32.toInt (q_51.1 2 29) = Int32.toInt (q_50.1 2 29) := by rw [i_54.1 2 (by decide) (by decide)]
                have w_270 : Int32.toInt (q_57.1 2 29) = Int32.toInt (q_51.1 2 29) := by rw [a_62.2 29 (by decide)]
                have w_271 : Int32.toInt (q_156.1 2 29) = Int32.toInt (q_57.1 2 29) := by rw [i_159.1 2 (by decide) (by decide)]
                have w_272 : Int32.toInt (q_162.1 2 29) = Int32.toInt (q_156.1 2 29) := by rw [i_165.1 2 (by decide) (by decide)]
                refine dOk_eq (A := Int32.toInt r_257) (B := 0) rfl (by decide) (fun c_273z c_273 => ?_) (fun c_274z c_274 => ?_)
                · unfold zX10_years_129
                  refine dOk_eq (A := Int32.toInt r_161) (B := 2) rfl (by decide) (fun c_276z c_276 => ?_) (fun c_277z c_277 => ?_)
                  · refine dOk_B (ok_isPlace q_258 r_155 i_260) (fun r_279 q_280 h_281 => ?_)
                    replace h_281 : (q_280 = q_258) ∧ ((Int32.toInt r_279 = 1 ∧ 0 ≤ Int32.toInt r_155 ∧ Int32.toInt r_155 < Int32.toInt (q_258.1 2 29)) ∨ (Int32.toInt r_279 = 0 ∧ (Int32.toInt r_155 < 0 ∨ Int32.toInt (q_258.1 2 29) ≤ Int32.toInt r_155))) := h_281
                    obtain ⟨i_282, i_283⟩ := h_281
                    subst q_280
                    have f_284 : 0 ≤ Int32.toInt (q_258.1 2 29) ∧ Int32.toInt (q_258.1 2 29) ≤ 6 := i_260.1 2 29
                    have w_285 : Int32.toInt (q_258.1 2 29) = Int32.toInt (q_162.1 2 29) := by rw [i_261.1 2 (by decide) (by decide)]
                    refine dOk_eq (A := Int32.toInt r_279) (B := 0) rfl (by decide) (fun c_286z c_286 => ?_) (fun c_287z c_287 => ?_)
                    · unfold zX10_years_166
                      have f_289 : 0 ≤ Int32.toInt (q_258.1 2 13) ∧ Int32.toInt (q_258.1 2 13) ≤ 999 := i_260.1 2 13
                      have f_290 : 0 ≤ Int32.toInt (q_162.1 2 13) ∧ Int32.toInt (q_162.1 2 13) ≤ 999 := i_164.1 2 13
                      have f_291 : 0 ≤ Int32.toInt (q_156.1 2 13) ∧ Int32.toInt (q_156.1 2 13) ≤ 999 := i_158.1 2 13
                      have w_292 : Int32.toInt (q_156.1 2 13) = Int32.toInt (q_57.1 2 13) := by rw [i_159.1 2 (by decide) (by decide)]
                      have w_293 : Int32.toInt (q_162.1 2 13) = Int32.toInt (q_156.1 2 13) := by rw [i_165.1 2 (by decide) (by decide)]
                      have w_294 : Int32.toInt (q_258.1 2 13) = Int32.toInt (q_162.1 2 13) := by rw [i_261.1 2 (by decide) (by decide)]
                      refine dOk_B (ok_yearPasses q_258 i_260 (show Int32.toInt (q_258.1 2 13) < 999 by omega)) (fun r_295 q_296 h_297 => ?_)
                      replace h_297 : (TS q_296) ∧ (dFk [2, 12, 13] [22, 23, 24, 25] q_258 q_296) ∧ (0 ≤ Int32.toInt r_295) ∧ (Int32.toInt (q_296.1 2 29) = Int32.toInt (q_258.1 2 29)) := h_297
                      obtain ⟨i_298, i_299, i_300, i_301⟩ := h_297
                      have hFq_296 : dFk [1, 2, 5, 12, 13, 27] [0, 22, 23, 24, 25, 54, 55] q q_296 := hFq_258.t i_299 (by decide) (by decide)
                      have f_302 : 0 ≤ Int32.toInt (q_296.1 2 29) ∧ Int32.toInt (q_296.1 2 29) ≤ 6 := i_298.1 2 29
                      have w_303 : Int32.toInt (q_296.1 2 29) = Int32.toInt (q_258.1 2 29) := by rw [i_299.2 29 (by decide)]
                      try have t_304 : Int32.toInt (x4_60 + 1) = Int32.toInt x4_60 + 1 := ti_add rfl (by decide) (by omega) (by omega)
                      exact hk_55 (q_296, p2, (q_51.1 2 12), (x4_60 + 1)) (show (TS q_296) ∧ (dFk [2, 12, 13] [22, 23, 24, 25, 55] q_51 q_296) ∧ (p2 = p2) ∧ ((q_51.1 2 12) = (q_51.1 2 12)) ∧ (0 ≤ Int32.toInt (x4_60 + 1)) ∧ (Int32.toInt (x4_60 + 1) ≤ 60) from ⟨i_298, ((((((((((dFk.rf : dFk [2, 12, 13] [22, 23, 24, 25, 55] q_51 q_51).t a_62 (by decide) (by decide)) : dFk [2, 12, 13] [22, 23, 24, 25, 55] q_51 q_57).tr i_159 (by decide) (by decide) (by decide)) : dFk [2, 12, 13] [22, 23, 24, 25, 55] q_51 q_156).tr i_165 (by decide) (by decide) (by decide)) : dFk [2, 12, 13] [22, 23, 24, 25, 55] q_51 q_162).tr i_261 (by decide) (by decide) (by decide)) : dFk [2, 12, 13] [22, 23, 24, 25, 55] q_51 q_258).t i_299 (by decide) (by decide)), rfl, rfl, by omega, by omega⟩) (show (60 - Int32.toInt (x4_60 + 1)).toNat < (60 - Int32.toInt x4_60).toNat by omega)
                    · try have t_305 : Int32.toInt (6 + r_155) = 6 + Int32.toInt r_155 := ti_add (by decide) rfl (by omega) (by omega)
                      refine dOk_G (dg_ok (show 0 ≤ Int32.toInt (6 + r_155) by omega) (show Int32.toInt (6 + r_155) < ((5640 : Nat) : Int) by omega)) ?_
                      have n_306 : ((Int32.toNatClampNeg (6 + r_155) : Nat) : Int) = Int32.toInt (6 + r_155) := cl_eq (by omega)
                      refine dOk_L (fun v_307 ev_307 => ?_)
                      try have g_308 : klo (Int32.toNatClampNeg (6 + r_155)) ≤ Int32.toInt v_307 ∧ Int32.toInt v_307 ≤ khi (Int32.toNatClampNeg (6 + r_155)) := by rw [ev_307]; exact te_k i_260 _
                      try have f_309 : 0 ≤ Int32.toInt v_307 ∧ Int32.toInt v_307 ≤ 5 := by rw [ev_307]; exact te_2r i_260 (by omega) (by omega)
                      try have f_310 : 0 ≤ Int32.toInt v_307 ∧ Int32.toInt v_307 ≤ 1 := by rw [ev_307]; exact te_2h i_260 (by omega) (by omega)
                      try have f_311 : 0 ≤ Int32.toInt v_307 ∧ Int32.toInt v_307 ≤ 5 := by rw [ev_307]; exact te_2s i_260 (by omega) (by omega)
                      try have f_312 : 0 ≤ Int32.toInt v_307 ∧ Int32.toInt v_307 ≤ 400 := by rw [ev_307]; exact te_2z i_260 (by omega) (by omega)
                      refine dOk_G (dg_ok (show 0 ≤ Int32.toInt (6 + r_155) by omega) (show Int32.toInt (6 + r_155) < ((5640 : Nat) : Int) by omega)) ?_
                      refine dOk_L (fun q_313 eq_313 => ?_)
                      try have t_314 : Int32.toInt (1 - v_307) = 1 - Int32.toInt v_307 := ti_sub (by decide) rfl (by omega) (by omega)
                      have hTq_313 : TS q_313 := by rw [eq_313]; exact ts_set2 i_260 (by omega) (show klo (Int32.toNatClampNeg (6 + r_155)) ≤ Int32.toInt (1 - v_307) by unfold klo; omega) (show Int32.toInt (1 - v_307) ≤ khi (Int32.toNatClampNeg (6 + r_155)) by unfold khi; omega)
                      have hFq_313 : dFk [1, 2, 5, 12, 13, 27] [0, 22, 23, 24, 25, 54, 55] q q_313 := by rw [eq_313]; exact hFq_258.k (by omega) (by decide)
                      unfold zX10_years_166
                      have f_315 : 0 ≤ Int32.toInt (q_313.1 2 13) ∧ Int32.toInt (q_313.1 2 13) ≤ 999 := hTq_313.1 2 13
                      have f_316 : 0 ≤ Int32.toInt (q_258.1 2 13) ∧ Int32.toInt (q_258.1 2 13) ≤ 999 := i_260.1 2 13
                      have f_317 : 0 ≤ Int32.toInt (q_162.1 2 13) ∧ Int32.toInt (q_162.1 2 13) ≤ 999 := i_164.1 2 13
                      have f_318 : 0 ≤ Int32.toInt (q_156.1 2 13) ∧ Int32.toInt (q_156.1 2 13) ≤ 999 := i_158.1 2 13
                      have w_319 : Int32.toInt (q_156.1 2 13) = Int32.toInt (q_57.1 2 13) := by rw [i_159.1 2 (by decide) (by decide)]
                      have w_320 : Int32.toInt (q_162.1 2 13) = Int32.toInt (q_156.1 2 13) := by rw [i_165.1 2 (by decide) (by decide)]
                      have w_321 : Int32.toInt (q_258.1 2 13) = Int32.toInt (q_162.1 2 13) := by rw [i_261.1 2 (by decide) (by decide)]
                      try have w_322 : Int32.toInt (q_313.1 2 13) = Int32.toInt (q_258.1 2 13) := by rw [eq_313, dui_n (by omega)]
                      refine dOk_B (ok_yearPasses q_313 hTq_313 (show Int32.toInt (q_313.1 2 13) < 999 by omega)) (fun r_323 q_324 h_325 => ?_)
                      replace h_325 : (TS q_324) ∧ (dFk [2, 12, 13] [22, 23, 24, 25] q_313 q_324) ∧ (0 ≤ Int32.toInt r_323) ∧ (Int32.toInt (q_324.1 2 29) = Int32.toInt (q_313.1 2 29)) := h_325
                      obtain ⟨i_326, i_327, i_328, i_329⟩ := h_325
                      have hFq_324 : dFk [1, 2, 5, 12, 13, 27] [0, 22, 23, 24, 25, 54, 55] q q_324 := hFq_313.t i_327 (by decide) (by decide)
                      have f_330 : 0 ≤ Int32.toInt (q_324.1 2 29) ∧ Int32.toInt (q_324.1 2 29) ≤ 6 := i_326.1 2 29
                      have f_331 : 0 ≤ Int32.toInt (q_313.1 2 29) ∧ Int32.toInt (q_313.1 2 29) ≤ 6 := hTq_313.1 2 29
                      try have w_332 : Int32.toInt (q_313.1 2 29) = Int32.toInt (q_258.1 2 29) := by rw [eq_313, dui_n (by omega)]
                      have w_333 : Int32.toInt (q_324.1 2 29) = Int32.toInt (q_313.1 2 29) := by rw [i_327.2 29 (by decide)]
                      try have t_334 : Int32.toInt (x4_60 + 1) = Int32.toInt x4_60 + 1 := ti_add rfl (by decide) (by omega) (by omega)
                      exact hk_55 (q_324, p2, (q_51.1 2 12), (x4_60 + 1)) (show (TS q_324) ∧ (dFk [2, 12, 13] [22, 23, 24, 25, 55] q_51 q_324) ∧ (p2 = p2) ∧ ((q_51.1 2 12) = (q_51.1 2 12)) ∧ (0 ≤ Int32.toInt (x4_60 + 1)) ∧ (Int32.toInt (x4_60 + 1) ≤ 60) from ⟨i_326, (((by rw [eq_313]; exact (((((((((dFk.rf : dFk [2, 12, 13] [22, 23, 24, 25, 55] q_51 q_51).t a_62 (by decide) (by decide)) : dFk [2, 12, 13] [22, 23, 24, 25, 55] q_51 q_57).tr i_159 (by decide) (by decide) (by decide)) : dFk [2, 12, 13] [22, 23, 24, 25, 55] q_51 q_156).tr i_165 (by decide) (by decide) (by decide)) : dFk [2, 12, 13] [22, 23, 24, 25, 55] q_51 q_162).tr i_261 (by decide) (by decide) (by decide)) : dFk [2, 12, 13] [22, 23, 24, 25, 55] q_51 q_258).k (by omega) (by decide)) : dFk [2, 12, 13] [22, 23, 24, 25, 55] q_51 q_313).t i_327 (by decide) (by decide)), rfl, rfl, by omega, by omega⟩) (show (60 - Int32.toInt (x4_60 + 1)).toNat < (60 - Int32.toInt x4_60).toNat by omega)
                  · unfold zX10_years_166
                    have f_335 : 0 ≤ Int32.toInt (q_258.1 2 13) ∧ Int32.toInt (q_258.1 2 13) ≤ 999 := i_260.1 2 13
                    have f_336 : 0 ≤ Int32.toInt (q_162.1 2 13) ∧ Int32.toInt (q_162.1 2 13) ≤ 999 := i_164.1 2 13
                    have f_337 : 0 ≤ Int32.toInt (q_156.1 2 13) ∧ Int32.toInt (q_156.1 2 13) ≤ 999 := i_158.1 2 13
                    have w_338 : Int32.toInt (q_156.1 2 13) = Int32.toInt (q_57.1 2 13) := by rw [i_159.1 2 (by decide) (by decide)]
                    have w_339 : Int32.toInt (q_162.1 2 13) = Int32.toInt (q_156.1 2 13) := by rw [i_165.1 2 (by decide) (by decide)]
                    have w_340 : Int32.toInt (q_258.1 2 13) = Int32.toInt (q_162.1 2 13) := by rw [i_261.1 2 (by decide) (by decide)]
                    refine dOk_B (ok_yearPasses q_258 i_260 (show Int32.toInt (q_258.1 2 13) < 999 by omega)) (fun r_341 q_342 h_343 => ?_)
                    replace h_343 : (TS q_342) ∧ (dFk [2, 12, 13] [22, 23, 24, 25] q_258 q_342) ∧ (0 ≤ Int32.toInt r_341) ∧ (Int32.toInt (q_342.1 2 29) = Int32.toInt (q_258.1 2 29)) := h_343
                    obtain ⟨i_344, i_345, i_346, i_347⟩ := h_343
                    have hFq_342 : dFk [1, 2, 5, 12, 13, 27] [0, 22, 23, 24, 25, 54, 55] q q_342 := hFq_258.t i_345 (by decide) (by decide)
                    have f_348 : 0 ≤ Int32.toInt (q_342.1 2 29) ∧ Int32.toInt (q_342.1 2 29) ≤ 6 := i_344.1 2 29
                    have f_349 : 0 ≤ Int32.toInt (q_258.1 2 29) ∧ Int32.toInt (q_258.1 2 29) ≤ 6 := i_260.1 2 29
                    have w_350 : Int32.toInt (q_258.1 2 29) = Int32.toInt (q_162.1 2 29) := by rw [i_261.1 2 (by decide) (by decide)]
                    have w_351 : Int32.toInt (q_342.1 2 29) = Int32.toInt (q_258.1 2 29) := by rw [i_345.2 29 (by decide)]
                    try have t_352 : Int32.toInt (x4_60 + 1) = Int32.toInt x4_60 + 1 := ti_add rfl (by decide) (by omega) (by omega)
                    exact hk_55 (q_342, p2, (q_51.1 2 12), (x4_60 + 1)) (show (TS q_342) ∧ (dFk [2, 12, 13] [22, 23, 24, 25, 55] q_51 q_342) ∧ (p2 = p2) ∧ ((q_51.1 2 12) = (q_51.1 2 12)) ∧ (0 ≤ Int32.toInt (x4_60 + 1)) ∧ (Int32.toInt (x4_60 + 1) ≤ 60) from ⟨i_344, ((((((((((dFk.rf : dFk [2, 12, 13] [22, 23, 24, 25, 55] q_51 q_51).t a_62 (by decide) (by decide)) : dFk [2, 12, 13] [22, 23, 24, 25, 55] q_51 q_57).tr i_159 (by decide) (by decide) (by decide)) : dFk [2, 12, 13] [22, 23, 24, 25, 55] q_51 q_156).tr i_165 (by decide) (by decide) (by decide)) : dFk [2, 12, 13] [22, 23, 24, 25, 55] q_51 q_162).tr i_261 (by decide) (by decide) (by decide)) : dFk [2, 12, 13] [22, 23, 24, 25, 55] q_51 q_258).t i_345 (by decide) (by decide)), rfl, rfl, by omega, by omega⟩) (show (60 - Int32.toInt (x4_60 + 1)).toNat < (60 - Int32.toInt x4_60).toNat by omega)
                · have f_353 : 0 ≤ Int32.toInt (q_258.1 2 29) ∧ Int32.toInt (q_258.1 2 29) ≤ 6 := i_260.1 2 29
                  have w_354 : Int32.toInt (q_258.1 2 29) = Int32.toInt (q_162.1 2 29) := by rw [i_261.1 2 (by decide) (by decide)]
                  refine dOk_B (ok_turns q_258 (r_155 + 1) i_260 (show 1 ≤ Int32.toInt (r_155 + 1) by omega) (show Int32.toInt (r_155 + 1) ≤ Int32.toInt (q_258.1 2 29) by omega)) (fun r_355 q_356 h_357 => ?_)
                  replace h_357 : (TS q_356) ∧ (dFk [2, 12] [22, 23, 24, 25] q_258 q_356) ∧ (0 ≤ Int32.toInt r_355 ∧ Int32.toInt r_355 ≤ 99) ∧ (Int32.toInt (q_356.1 2 29) = Int32.toInt (q_258.1 2 29)) ∧ (Int32.toInt (q_356.1 2 13) = Int32.toInt (q_258.1 2 13)) := h_357
                  obtain ⟨i_358, i_359, i_360, i_361, i_362⟩ := h_357
                  have hFq_356 : dFk [1, 2, 5, 12, 13, 27] [0, 22, 23, 24, 25, 54, 55] q q_356 := hFq_258.t i_359 (by decide) (by decide)
                  have f_363 : 0 ≤ Int32.toInt (q_356.1 2 29) ∧ Int32.toInt (q_356.1 2 29) ≤ 6 := i_358.1 2 29
                  have w_364 : Int32.toInt (q_356.1 2 29) = Int32.toInt (q_258.1 2 29) := by rw [i_359.2 29 (by decide)]
                  have f_365 : 0 ≤ Int32.toInt (q_356.1 2 13) ∧ Int32.toInt (q_356.1 2 13) ≤ 999 := i_358.1 2 13
                  have f_366 : 0 ≤ Int32.toInt (q_258.1 2 13) ∧ Int32.toInt (q_258.1 2 13) ≤ 999 := i_260.1 2 13
                  have f_367 : 0 ≤ Int32.toInt (q_162.1 2 13) ∧ Int32.toInt (q_162.1 2 13) ≤ 999 := i_164.1 2 13
                  have f_368 : 0 ≤ Int32.toInt (q_156.1 2 13) ∧ Int32.toInt (q_156.1 2 13) ≤ 999 := i_158.1 2 13
                  have w_369 : Int32.toInt (q_156.1 2 13) = Int32.toInt (q_57.1 2 13) := by rw [i_159.1 2 (by decide) (by decide)]
                  have w_370 : Int32.toInt (q_162.1 2 13) = Int32.toInt (q_156.1 2 13) := by rw [i_165.1 2 (by decide) (by decide)]
                  have w_371 : Int32.toInt (q_258.1 2 13) = Int32.toInt (q_162.1 2 13) := by rw [i_261.1 2 (by decide) (by decide)]
                  unfold zX10_years_129
                  refine dOk_eq (A := Int32.toInt r_161) (B := 2) rfl (by decide) (fun c_372z c_372 => ?_) (fun c_373z c_373 => ?_)
                  · refine dOk_B (ok_isPlace q_356 r_155 i_358) (fun r_375 q_376 h_377 => ?_)
                    replace h_377 : (q_376 = q_356) ∧ ((Int32.toInt r_375 = 1 ∧ 0 ≤ Int32.toInt r_155 ∧ Int32.toInt r_155 < Int32.toInt (q_356.1 2 29)) ∨ (Int32.toInt r_375 = 0 ∧ (Int32.toInt r_155 < 0 ∨ Int32.toInt (q_356.1 2 29) ≤ Int32.toInt r_155))) := h_377
                    obtain ⟨i_378, i_379⟩ := h_377
                    subst q_376
                    refine dOk_eq (A := Int32.toInt r_375) (B := 0) rfl (by decide) (fun c_380z c_380 => ?_) (fun c_381z c_381 => ?_)
                    · unfold zX10_years_166
                      refine dOk_B (ok_yearPasses q_356 i_358 (show Int32.toInt (q_356.1 2 13) < 999 by omega)) (fun r_383 q_384 h_385 => ?_)
                      replace h_385 : (TS q_384) ∧ (dFk [2, 12, 13] [22, 23, 24, 25] q_356 q_384) ∧ (0 ≤ Int32.toInt r_383) ∧ (Int32.toInt (q_384.1 2 29) = Int32.toInt (q_356.1 2 29)) := h_385
                      obtain ⟨i_386, i_387, i_388, i_389⟩ := h_385
                      have hFq_384 : dFk [1, 2, 5, 12, 13, 27] [0, 22, 23, 24, 25, 54, 55] q q_384 := hFq_356.t i_387 (by decide) (by decide)
                      have f_390 : 0 ≤ Int32.toInt (q_384.1 2 29) ∧ Int32.toInt (q_384.1 2 29) ≤ 6 := i_386.1 2 29
                      have w_391 : Int32.toInt (q_384.1 2 29) = Int32.toInt (q_356.1 2 29) := by rw [i_387.2 29 (by decide)]
                      try have t_392 : Int32.toInt (x4_60 + 1) = Int32.toInt x4_60 + 1 := ti_add rfl (by decide) (by omega) (by omega)
                      exact hk_55 (q_384, p2, (q_51.1 2 12), (x4_60 + 1)) (show (TS q_384) ∧ (dFk [2, 12, 13] [22, 23, 24, 25, 55] q_51 q_384) ∧ (p2 = p2) ∧ ((q_51.1 2 12) = (q_51.1 2 12)) ∧ (0 ≤ Int32.toInt (x4_60 + 1)) ∧ (Int32.toInt (x4_60 + 1) ≤ 60) from ⟨i_386, ((((((((((((dFk.rf : dFk [2, 12, 13] [22, 23, 24, 25, 55] q_51 q_51).t a_62 (by decide) (by decide)) : dFk [2, 12, 13] [22, 23, 24, 25, 55] q_51 q_57).tr i_159 (by decide) (by decide) (by decide)) : dFk [2, 12, 13] [22, 23, 24, 25, 55] q_51 q_156).tr i_165 (by decide) (by decide) (by decide)) : dFk [2, 12, 13] [22, 23, 24, 25, 55] q_51 q_162).tr i_261 (by decide) (by decide) (by decide)) : dFk [2, 12, 13] [22, 23, 24, 25, 55] q_51 q_258).t i_359 (by decide) (by decide)) : dFk [2, 12, 13] [22, 23, 24, 25, 55] q_51 q_356).t i_387 (by decide) (by decide)), rfl, rfl, by omega, by omega⟩) (show (60 - Int32.toInt (x4_60 + 1)).toNat < (60 - Int32.toInt x4_60).toNat by omega)
                    · try have t_393 : Int32.toInt (6 + r_155) = 6 + Int32.toInt r_155 := ti_add (by decide) rfl (by omega) (by omega)
                      refine dOk_G (dg_ok (show 0 ≤ Int32.toInt (6 + r_155) by omega) (show Int32.toInt (6 + r_155) < ((5640 : Nat) : Int) by omega)) ?_
                      have n_394 : ((Int32.toNatClampNeg (6 + r_155) : Nat) : Int) = Int32.toInt (6 + r_155) := cl_eq (by omega)
                      refine dOk_L (fun v_395 ev_395 => ?_)
                      try have g_396 : klo (Int32.toNatClampNeg (6 + r_155)) ≤ Int32.toInt v_395 ∧ Int32.toInt v_395 ≤ khi (Int32.toNatClampNeg (6 + r_155)) := by rw [ev_395]; exact te_k i_358 _
                      try have f_397 : 0 ≤ Int32.toInt v_395 ∧ Int32.toInt v_395 ≤ 5 := by rw [ev_395]; exact te_2r i_358 (by omega) (by omega)
                      try have f_398 : 0 ≤ Int32.toInt v_395 ∧ Int32.toInt v_395 ≤ 1 := by rw [ev_395]; exact te_2h i_358 (by omega) (by omega)
                      try have f_399 : 0 ≤ Int32.toInt v_395 ∧ Int32.toInt v_395 ≤ 5 := by rw [ev_395]; exact te_2s i_358 (by omega) (by omega)
                      try have f_400 : 0 ≤ Int32.toInt v_395 ∧ Int32.toInt v_395 ≤ 400 := by rw [ev_395]; exact te_2z i_358 (by omega) (by omega)
                      refine dOk_G (dg_ok (show 0 ≤ Int32.toInt (6 + r_155) by omega) (show Int32.toInt (6 + r_155) < ((5640 : Nat) : Int) by omega)) ?_
                      refine dOk_L (fun q_401 eq_401 => ?_)
                      try have t_402 : Int32.toInt (1 - v_395) = 1 - Int32.toInt v_395 := ti_sub (by decide) rfl (by omega) (by omega)
                      have hTq_401 : TS q_401 := by rw [eq_401]; exact ts_set2 i_358 (by omega) (show klo (Int32.toNatClampNeg (6 + r_155)) ≤ Int32.toInt (1 - v_395) by unfold klo; omega) (show Int32.toInt (1 - v_395) ≤ khi (Int32.toNatClampNeg (6 + r_155)) by unfold khi; omega)
                      have hFq_401 : dFk [1, 2, 5, 12, 13, 27] [0, 22, 23, 24, 25, 54, 55] q q_401 := by rw [eq_401]; exact hFq_356.k (by omega) (by decide)
                      unfold zX10_years_166
                      have f_403 : 0 ≤ Int32.toInt (q_401.1 2 13) ∧ Int32.toInt (q_401.1 2 13) ≤ 999 := hTq_401.1 2 13
                      try have w_404 : Int32.toInt (q_401.1 2 13) = Int32.toInt (q_356.1 2 13) := by rw [eq_401, dui_n (by omega)]
                      refine dOk_B (ok_yearPasses q_401 hTq_401 (show Int32.toInt (q_401.1 2 13) < 999 by omega)) (fun r_405 q_406 h_407 => ?_)
                      replace h_407 : (TS q_406) ∧ (dFk [2, 12, 13] [22, 23, 24, 25] q_401 q_406) ∧ (0 ≤ Int32.toInt r_405) ∧ (Int32.toInt (q_406.1 2 29) = Int32.toInt (q_401.1 2 29)) := h_407
                      obtain ⟨i_408, i_409, i_410, i_411⟩ := h_407
                      have hFq_406 : dFk [1, 2, 5, 12, 13, 27] [0, 22, 23, 24, 25, 54, 55] q q_406 := hFq_401.t i_409 (by decide) (by decide)
                      have f_412 : 0 ≤ Int32.toInt (q_406.1 2 29) ∧ Int32.toInt (q_406.1 2 29) ≤ 6 := i_408.1 2 29
                      have f_413 : 0 ≤ Int32.toInt (q_401.1 2 29) ∧ Int32.toInt (q_401.1 2 29) ≤ 6 := hTq_401.1 2 29
                      try have w_414 : Int32.toInt (q_401.1 2 29) = Int32.toInt (q_356.1 2 29) := by rw [eq_401, dui_n (by omega)]
                      have w_415 : Int32.toInt (q_406.1 2 29) = Int32.toInt (q_401.1 2 29) := by rw [i_409.2 29 (by decide)]
                      try have t_416 : Int32.toInt (x4_60 + 1) = Int32.toInt x4_60 + 1 := ti_add rfl (by decide) (by omega) (by omega)
                      exact hk_55 (q_406, p2, (q_51.1 2 12), (x4_60 + 1)) (show (TS q_406) ∧ (dFk [2, 12, 13] [22, 23, 24, 25, 55] q_51 q_406) ∧ (p2 = p2) ∧ ((q_51.1 2 12) = (q_51.1 2 12)) ∧ (0 ≤ Int32.toInt (x4_60 + 1)) ∧ (Int32.toInt (x4_60 + 1) ≤ 60) from ⟨i_408, (((by rw [eq_401]; exact (((((((((((dFk.rf : dFk [2, 12, 13] [22, 23, 24, 25, 55] q_51 q_51).t a_62 (by decide) (by decide)) : dFk [2, 12, 13] [22, 23, 24, 25, 55] q_51 q_57).tr i_159 (by decide) (by decide) (by decide)) : dFk [2, 12, 13] [22, 23, 24, 25, 55] q_51 q_156).tr i_165 (by decide) (by decide) (by decide)) : dFk [2, 12, 13] [22, 23, 24, 25, 55] q_51 q_162).tr i_261 (by decide) (by decide) (by decide)) : dFk [2, 12, 13] [22, 23, 24, 25, 55] q_51 q_258).t i_359 (by decide) (by decide)) : dFk [2, 12, 13] [22, 23, 24, 25, 55] q_51 q_356).k (by omega) (by decide)) : dFk [2, 12, 13] [22, 23, 24, 25, 55] q_51 q_401).t i_409 (by decide) (by decide)), rfl, rfl, by omega, by omega⟩) (show (60 - Int32.toInt (x4_60 + 1)).toNat < (60 - Int32.toInt x4_60).toNat by omega)
                  · unfold zX10_years_166
                    refine dOk_B (ok_yearPasses q_356 i_358 (show Int32.toInt (q_356.1 2 13) < 999 by omega)) (fun r_417 q_418 h_419 => ?_)
                    replace h_419 : (TS q_418) ∧ (dFk [2, 12, 13] [22, 23, 24, 25] q_356 q_418) ∧ (0 ≤ Int32.toInt r_417) ∧ (Int32.toInt (q_418.1 2 29) = Int32.toInt (q_356.1 2 29)) := h_419
                    obtain ⟨i_420, i_421, i_422, i_423⟩ := h_419
                    have hFq_418 : dFk [1, 2, 5, 12, 13, 27] [0, 22, 23, 24, 25, 54, 55] q q_418 := hFq_356.t i_421 (by decide) (by decide)
                    have f_424 : 0 ≤ Int32.toInt (q_418.1 2 29) ∧ Int32.toInt (q_418.1 2 29) ≤ 6 := i_420.1 2 29
                    have w_425 : Int32.toInt (q_418.1 2 29) = Int32.toInt (q_356.1 2 29) := by rw [i_421.2 29 (by decide)]
                    try have t_426 : Int32.toInt (x4_60 + 1) = Int32.toInt x4_60 + 1 := ti_add rfl (by decide) (by omega) (by omega)
                    exact hk_55 (q_418, p2, (q_51.1 2 12), (x4_60 + 1)) (show (TS q_418) ∧ (dFk [2, 12, 13] [22, 23, 24, 25, 55] q_51 q_418) ∧ (p2 = p2) ∧ ((q_51.1 2 12) = (q_51.1 2 12)) ∧ (0 ≤ Int32.toInt (x4_60 + 1)) ∧ (Int32.toInt (x4_60 + 1) ≤ 60) from ⟨i_420, ((((((((((((dFk.rf : dFk [2, 12, 13] [22, 23, 24, 25, 55] q_51 q_51).t a_62 (by decide) (by decide)) : dFk [2, 12, 13] [22, 23, 24, 25, 55] q_51 q_57).tr i_159 (by decide) (by decide) (by decide)) : dFk [2, 12, 13] [22, 23, 24, 25, 55] q_51 q_156).tr i_165 (by decide) (by decide) (by decide)) : dFk [2, 12, 13] [22, 23, 24, 25, 55] q_51 q_162).tr i_261 (by decide) (by decide) (by decide)) : dFk [2, 12, 13] [22, 23, 24, 25, 55] q_51 q_258).t i_359 (by decide) (by decide)) : dFk [2, 12, 13] [22, 23, 24, 25, 55] q_51 q_356).t i_421 (by decide) (by decide)), rfl, rfl, by omega, by omega⟩) (show (60 - Int32.toInt (x4_60 + 1)).toNat < (60 - Int32.toInt x4_60).toNat by omega)
        · have f_427 : 0 ≤ Int32.toInt (q_51.1 2 12) ∧ Int32.toInt (q_51.1 2 12) ≤ 9999 := i_53.1 2 12
          have f_428 : 0 ≤ Int32.toInt (q_50.1 2 12) ∧ Int32.toInt (q_50.1 2 12) ≤ 9999 := hTq_50.1 2 12
          have f_429 : 0 ≤ Int32.toInt (q_41.1 2 12) ∧ Int32.toInt (q_41.1 2 12) ≤ 9999 := hTq_41.1 2 12
          have f_430 : 0 ≤ Int32.toInt (q.1 2 12) ∧ Int32.toInt (q.1 2 12) ≤ 9999 := hT.1 2 12
          have w_431 : Int32.toInt (q_41.1 2 12) = Int32.toInt (q.1 2 12) := by rw [eq_41, dui_o (by decide)]
          have w_432 : Int32.toInt (q_50.1 2 12) = Int32.toInt (q_41.1 2 12) := by rw [eq_50, dui_o (by decide)]
          have w_433 : Int32.toInt (q_51.1 2 12) = Int32.toInt (q_50.1 2 12) := by rw [i_54.1 2 (by decide) (by decide)]
          exact (show (TS q_51) ∧ (dFk [2, 12, 13] [22, 23, 24, 25, 55] q_51 q_51) ∧ (p2 = p2) ∧ ((q_51.1 2 12) = (q_51.1 2 12)) ∧ (0 ≤ (0 : Int)) ∧ ((0 : Int) ≤ 60) from ⟨i_53, dFk.rf, rfl, rfl, by omega, by omega⟩)
        · have f_434 : 0 ≤ Int32.toInt (q_51.1 2 12) ∧ Int32.toInt (q_51.1 2 12) ≤ 9999 := i_53.1 2 12
          have f_435 : 0 ≤ Int32.toInt (q_50.1 2 12) ∧ Int32.toInt (q_50.1 2 12) ≤ 9999 := hTq_50.1 2 12
          have f_436 : 0 ≤ Int32.toInt (q_41.1 2 12) ∧ Int32.toInt (q_41.1 2 12) ≤ 9999 := hTq_41.1 2 12
          have f_437 : 0 ≤ Int32.toInt (q.1 2 12) ∧ Int32.toInt (q.1 2 12) ≤ 9999 := hT.1 2 12
          have w_438 : Int32.toInt (q_41.1 2 12) = Int32.toInt (q.1 2 12) := by rw [eq_41, dui_o (by decide)]
          have w_439 : Int32.toInt (q_50.1 2 12) = Int32.toInt (q_41.1 2 12) := by rw [eq_50, dui_o (by decide)]
          have w_440 : Int32.toInt (q_51.1 2 12) = Int32.toInt (q_50.1 2 12) := by rw [i_54.1 2 (by decide) (by decide)]
          show (60 - (0 : Int)).toNat < 1000000000000
          omega
end
section
set_option maxHeartbeats 4000000 in
set_option maxRecDepth 100000 in
theorem ok_small (p1 : Int64) : dOk (zX10_small p1) (fun (o : Int32) => (True)) := by
  unfold zX10_small
  refine dOk_lt rfl rfl (fun c9 => ?_) (fun c9 => ?_)
  · unfold zX10_small_14
    unfold zX10_small_20
    exact dOk_some (show (True) from trivial)
  · refine dOk_le rfl rfl (fun c9 => ?_) (fun c9 => ?_)
    · unfold zX10_small_20
      exact dOk_some (show (True) from trivial)
    · unfold zX10_small_14
      unfold zX10_small_20
      exact dOk_some (show (True) from trivial)

set_option maxHeartbeats 4000000 in
set_option maxRecDepth 100000 in
theorem ok_obeys (q : dS) (hT : TS q) : dOk (zX10_obeys q) (fun (o : Int32 × dS) => (TS o.2) ∧ (dFk [2, 12, 13, 14] [22, 23, 24, 25, 28, 32] q o.2) ∧ (-3 ≤ Int32.toInt o.1)) := by
  unfold zX10_obeys
  refine dOk_eq (A := Int32.toInt (q.1 0 49)) (B := 23) rfl (by decide) (fun c_1z c_1 => ?_) (fun c_2z c_2 => ?_)
  · refine dOk_V (ok_small (q.2 0 52)) (fun r_4 h_5 => ?_)
    replace h_5 : (True) := h_5
    have i_6 := h_5
    refine dOk_B (ok_rightsKept q r_4 hT) (fun r_7 q_8 h_9 => ?_)
    replace h_9 : (TS q_8) ∧ (dFk [2, 14] [32] q q_8) ∧ (-3 ≤ Int32.toInt r_7 ∧ Int32.toInt r_7 ≤ 99) := h_9
    obtain ⟨i_10, i_11, i_12⟩ := h_9
    have hFq_8 : dFk [2, 12, 13, 14] [22, 23, 24, 25, 28, 32] q q_8 := (dFk.rf (q := q)).t i_11 (by decide) (by decide)
    exact dOk_some (show (TS q_8) ∧ (dFk [2, 12, 13, 14] [22, 23, 24, 25, 28, 32] q q_8) ∧ (-3 ≤ Int32.toInt r_7) from ⟨i_10, hFq_8, by omega⟩)
  · refine dOk_eq (A := Int32.toInt (q.1 0 49)) (B := 24) rfl (by decide) (fun c_13z c_13 => ?_) (fun c_14z c_14 => ?_)
    · refine dOk_V (ok_small (q.2 0 52)) (fun r_16 h_17 => ?_)
      replace h_17 : (True) := h_17
      have i_18 := h_17
      refine dOk_B (ok_swapsKept q r_16 hT) (fun r_19 q_20 h_21 => ?_)
      replace h_21 : (TS q_20) ∧ (dFk [2, 14] [32] q q_20) ∧ (-3 ≤ Int32.toInt r_19 ∧ Int32.toInt r_19 ≤ 99) := h_21
      obtain ⟨i_22, i_23, i_24⟩ := h_21
      have hFq_20 : dFk [2, 12, 13, 14] [22, 23, 24, 25, 28, 32] q q_20 := (dFk.rf (q := q)).t i_23 (by decide) (by decide)
      exact dOk_some (show (TS q_20) ∧ (dFk [2, 12, 13, 14] [22, 23, 24, 25, 28, 32] q q_20) ∧ (-3 ≤ Int32.toInt r_19) from ⟨i_22, hFq_20, by omega⟩)
    · refine dOk_eq (A := Int32.toInt (q.1 0 49)) (B := 25) rfl (by decide) (fun c_25z c_25 => ?_) (fun c_26z c_26 => ?_)
      · refine dOk_B (ok_passesKept q hT) (fun r_28 q_29 h_30 => ?_)
        replace h_30 : (TS q_29) ∧ (dFk [2, 12, 13, 14] [22, 23, 24, 25, 32] q q_29) ∧ (-3 ≤ Int32.toInt r_28) := h_30
        obtain ⟨i_31, i_32, i_33⟩ := h_30
        have hFq_29 : dFk [2, 12, 13, 14] [22, 23, 24, 25, 28, 32] q q_29 := (dFk.rf (q := q)).t i_32 (by decide) (by decide)
        exact dOk_some (show (TS q_29) ∧ (dFk [2, 12, 13, 14] [22, 23, 24, 25, 28, 32] q q_29) ∧ (-3 ≤ Int32.toInt r_28) from ⟨i_31, hFq_29, by omega⟩)
      · refine dOk_V (ok_small (q.2 0 52)) (fun r_34 h_35 => ?_)
        replace h_35 : (True) := h_35
        have i_36 := h_35
        refine dOk_B (ok_turnsKept q r_34 hT) (fun r_37 q_38 h_39 => ?_)
        replace h_39 : (TS q_38) ∧ (dFk [2, 12, 14] [22, 23, 24, 25, 32] q q_38) ∧ (-3 ≤ Int32.toInt r_37 ∧ Int32.toInt r_37 ≤ 99) := h_39
        obtain ⟨i_40, i_41, i_42⟩ := h_39
        have hFq_38 : dFk [2, 12, 13, 14] [22, 23, 24, 25, 28, 32] q q_38 := (dFk.rf (q := q)).t i_41 (by decide) (by decide)
        refine dOk_le (A := 0) (B := Int32.toInt r_37) (by decide) rfl (fun c_43 => ?_) (fun c_44 => ?_)
        · unfold zX10_obeys_86
          refine dOk_L (fun q_45 eq_45 => ?_)
          have hTq_45 : TS q_45 := by rw [eq_45]; exact ts_f i_40 (ti_rg _).1 (ti_rg _).2
          have hFq_45 : dFk [2, 12, 13, 14] [22, 23, 24, 25, 28, 32] q q_45 := by rw [eq_45]; exact hFq_38.f (by decide)
          exact dOk_some (show (TS q_45) ∧ (dFk [2, 12, 13, 14] [22, 23, 24, 25, 28, 32] q q_45) ∧ (-3 ≤ Int32.toInt r_37) from ⟨hTq_45, hFq_45, by omega⟩)
        · unfold zX10_obeys_86
          refine dOk_L (fun q_46 eq_46 => ?_)
          have w_47 : Int32.toInt (q_38.1 0 28) = Int32.toInt (q.1 0 28) := by rw [i_41.1.2 28 (by decide)]
          have hTq_46 : TS q_46 := by rw [eq_46]; exact ts_f i_40 (ti_rg _).1 (ti_rg _).2
          have hFq_46 : dFk [2, 12, 13, 14] [22, 23, 24, 25, 28, 32] q q_46 := by rw [eq_46]; exact hFq_38.f (by decide)
          exact dOk_some (show (TS q_46) ∧ (dFk [2, 12, 13, 14] [22, 23, 24, 25, 28, 32] q q_46) ∧ (-3 ≤ Int32.toInt r_37) from ⟨hTq_46, hFq_46, by omega⟩)
end
section
def usB (u : Nat) : Nat → Nat
  | 0 => 0
  | r + 1 => usB u r + (if u.testBit r then 1 else 0)
theorem isIn_bit : ∀ u : Nat, u < 64 → ∀ r : Nat, r < 7 → decide (((nI u >>> (nI r &&& 31)) &&& 1 : Int32) = 1) = u.testBit r := by decide +kernel
theorem or_bit : ∀ u : Nat, u < 64 → ∀ r : Nat, r < 6 → u.testBit r = false → ((nI u ||| (1 <<< (nI r &&& 31)) : Int32) = nI (u ||| 2 ^ r) ∧ u ||| 2 ^ r < 64 ∧ usB (u ||| 2 ^ r) 6 = usB u 6 + 1) := by decide +kernel
theorem isIn_eq {u r : Nat} (hu : u < 64) (hr : r < 7) : dOk (zX10_isIn (nI u) (nI r)) (fun o => (o = 1 ∧ u.testBit r = true) ∨ (o = 0 ∧ u.testBit r = false)) := by
  have h := isIn_bit u hu r hr
  unfold zX10_isIn zX10_isIn_14
  by_cases c : ((nI u >>> (nI r &&& 31)) &&& 1 : Int32) = 1
  · rw [if_pos c]
    rw [decide_eq_true c] at h
    exact dOk_G (by decide) (dOk_some (Or.inl ⟨rfl, h.symm⟩))
  · rw [if_neg c]
    rw [decide_eq_false c] at h
    exact dOk_G (by decide) (dOk_some (Or.inr ⟨rfl, h.symm⟩))
theorem skip_le {n a x r7 : Int} (hn : n ≤ 6) (ha0 : 0 ≤ a) (ha : a < n) (hx : 0 ≤ x) (hx2 : x < facI (n - a)) (hr : ((n - 1 - a ≤ 1 ∧ r7 = 1) ∨ (n - 1 - a = 2 ∧ r7 = 2) ∨ (n - 1 - a = 3 ∧ r7 = 6) ∨ (n - 1 - a = 4 ∧ r7 = 24) ∨ (n - 1 - a = 5 ∧ r7 = 120) ∨ (n - 1 - a = 6 ∧ r7 = 720))) : 0 < r7 ∧ 0 ≤ x / r7 ∧ x / r7 ≤ n - 1 - a ∧ 0 ≤ x % r7 ∧ x % r7 < facI (n - (a + 1)) := by
  unfold facI at *
  rcases hr with ⟨h1, rfl⟩ | ⟨h1, rfl⟩ | ⟨h1, rfl⟩ | ⟨h1, rfl⟩ | ⟨h1, rfl⟩ | ⟨h1, rfl⟩ <;> omega
theorem usB_le (u r : Nat) : usB u r ≤ r := by
  induction r with
  | zero => exact Nat.le_refl 0
  | succ r ih =>
    unfold usB
    by_cases c : u.testBit r = true
    · rw [if_pos c]; omega
    · rw [if_neg c]; omega
theorem ok_laysOrder (q : dS) (p1 : Int32) (hT : TS q) (hp0 : 0 ≤ Int32.toInt p1) (hp1 : Int32.toInt p1 < facI (Int32.toInt (q.1 2 29))) : dOk (zX10_laysOrder q p1) (fun (o : dS) => (TS o) ∧ (dFr [16] [] q o)) := by
  have fs : 0 ≤ Int32.toInt (q.1 2 29) ∧ Int32.toInt (q.1 2 29) ≤ 6 := hT.1 2 29
  have hp2 : Int32.toInt p1 < 720 := by unfold facI at hp1; omega
  unfold zX10_laysOrder zX10_laysOrder_7
  refine dFix_ok (fun (a : dS × Int32 × Int32 × Int32 × Int32) => TS a.1 ∧ dFr [16] [] q a.1 ∧ a.2.1 = p1 ∧ (∃ u : Nat, u < 64 ∧ a.2.2.1 = nI u ∧ (usB u 6 : Int) = a.2.2.2.2.toInt) ∧ 0 ≤ a.2.2.2.1.toInt ∧ a.2.2.2.1.toInt < facI (Int32.toInt (q.1 2 29) - a.2.2.2.2.toInt) ∧ 0 ≤ a.2.2.2.2.toInt ∧ a.2.2.2.2.toInt ≤ Int32.toInt (q.1 2 29)) (fun (a : dS × Int32 × Int32 × Int32 × Int32) => (6 - a.2.2.2.2.toInt).toNat) ?_ _ ?_ _ (dF_gt ?_)
  · intro a ha k7 hk7
    obtain ⟨qa, x1, x2, x3, x4⟩ := a
    obtain ⟨hT, hF, e1, ⟨u, hu, eu, hus⟩, hx0, hx1, h40, h41⟩ := ha
    replace hT : TS qa := hT
    replace hF : dFr [16] [] q qa := hF
    replace e1 : x1 = p1 := e1
    replace eu : x2 = nI u := eu
    replace hus : (usB u 6 : Int) = x4.toInt := hus
    replace hx0 : 0 ≤ x3.toInt := hx0
    replace hx1 : x3.toInt < facI (Int32.toInt (q.1 2 29) - x4.toInt) := hx1
    replace h40 : 0 ≤ x4.toInt := h40
    replace h41 : x4.toInt ≤ Int32.toInt (q.1 2 29) := h41
    have w29 : Int32.toInt (qa.1 2 29) = Int32.toInt (q.1 2 29) := by rw [hF.1 2 (by decide) (by decide)]
    subst e1 eu
    show dOk (zX10_laysOrder_7b (fun q x1 x2 x3 x4 => k7 (q, x1, x2, x3, x4)) qa x1 (nI u) x3 x4) _
    unfold zX10_laysOrder_7b
    refine dOk_B (ok_size qa hT) (fun r1 q3 hr => ?_)
    have e3 : q3 = qa := hr.1
    have hr1 : Int32.toInt r1 = Int32.toInt (qa.1 2 29) := hr.2.1
    subst e3
    refine dOk_le rfl rfl (fun _ => dOk_some ⟨hT, hF⟩) (fun c => ?_)
    refine dOk_B (ok_size q3 hT) (fun r4 q6 hr4 => ?_)
    have e6 : q6 = q3 := hr4.1
    have hr4' : Int32.toInt r4 = Int32.toInt (q3.1 2 29) := hr4.2.1
    subst e6
    have t1 : Int32.toInt (r4 - 1) = Int32.toInt r4 - 1 := ti_sub rfl (by decide) (by omega) (by omega)
    have t2 : Int32.toInt (r4 - 1 - x4) = Int32.toInt r4 - 1 - x4.toInt := ti_sub t1 rfl (by omega) (by omega)
    refine dOk_V (ok_allOrders (r4 - 1 - x4) (by omega)) (fun r7 hr7 => ?_)
    have hr7 := (show ((Int32.toInt (r4 - 1 - x4) ≤ 1 ∧ Int32.toInt r7 = 1) ∨ (Int32.toInt (r4 - 1 - x4) = 2 ∧ Int32.toInt r7 = 2) ∨ (Int32.toInt (r4 - 1 - x4) = 3 ∧ Int32.toInt r7 = 6) ∨ (Int32.toInt (r4 - 1 - x4) = 4 ∧ Int32.toInt r7 = 24) ∨ (Int32.toInt (r4 - 1 - x4) = 5 ∧ Int32.toInt r7 = 120) ∨ (Int32.toInt (r4 - 1 - x4) = 6 ∧ Int32.toInt r7 = 720)) from hr7)
    obtain ⟨k1, k2, k3, k4, k5⟩ := skip_le (n := Int32.toInt (q.1 2 29)) (a := x4.toInt) (x := x3.toInt) (r7 := r7.toInt) (by omega) h40 (by omega) hx0 hx1 (by omega)
    have t3 : Int32.toInt (x3 / r7) = x3.toInt / r7.toInt := ti_div rfl rfl hx0 k1
    have t4 : Int32.toInt (x3 - x3 / r7 * r7) = x3.toInt % r7.toInt := ti_rem rfl rfl hx0 k1
    refine dOk_G (dnz_ok (by omega)) (dOk_G (dnz_ok (by omega)) ?_)
    generalize x3 / r7 = s0 at *
    generalize x3 - s0 * r7 = rest at *
    unfold zX10_laysOrder_44
    refine dFix_ok (fun (a : dS × Int32 × Int32 × Int32 × Int32 × Int32 × Int32) => a.1 = q6 ∧ a.2.1 = x1 ∧ a.2.2.1 = nI u ∧ a.2.2.2.1 = rest ∧ a.2.2.2.2.1 = x4 ∧ ∃ r : Nat, r ≤ 6 ∧ a.2.2.2.2.2.2 = nI r ∧ 0 ≤ a.2.2.2.2.2.1.toInt ∧ a.2.2.2.2.2.1.toInt + (r : Int) - (usB u r : Int) = s0.toInt) (fun (a : dS × Int32 × Int32 × Int32 × Int32 × Int32 × Int32) => (6 - a.2.2.2.2.2.2.toInt).toNat) ?_ _ ?_ _ (dF_gt ?_)
    · intro a ha k44 hk44
      obtain ⟨qb, y1, y2, y3, y4, y6, y7⟩ := a
      obtain ⟨e1, e2, e3, e4, e5, r, hr6, e7, hs, hsum⟩ := ha
      replace e1 : qb = q6 := e1
      replace e2 : y1 = x1 := e2
      replace e3 : y2 = nI u := e3
      replace e4 : y3 = rest := e4
      replace e5 : y4 = x4 := e5
      replace e7 : y7 = nI r := e7
      replace hs : 0 ≤ y6.toInt := hs
      replace hsum : y6.toInt + (r : Int) - (usB u r : Int) = s0.toInt := hsum
      subst e1 e2 e3 e4 e5 e7
      have hr5 : r ≤ 5 := by
        rcases Nat.lt_or_ge r 6 with z | z
        · omega
        · have : r = 6 := by omega
          subst this
          omega
      have tr : Int32.toInt (nI r) = (r : Int) := nI_toInt (by omega)
      have tr1 : Int32.toInt (nI r + 1) = (r : Int) + 1 := ti_add tr (by decide) (by omega) (by omega)
      have e_r1 : nI r + 1 = nI (r + 1) := nI_1 r
      show dOk (zX10_laysOrder_44b _ (fun q x1 x2 x3 x4 x6 x7 => k44 (q, x1, x2, x3, x4, x6, x7)) qb y1 (nI u) y3 y4 y6 (nI r)) _
      have h74 : ∀ y0 : Int32, ((y0.toInt = 1 ∧ u.testBit r = false ∧ 0 < y6.toInt) ∨ (y0.toInt = 0 ∧ u.testBit r = true)) → dOk (zX10_laysOrder_74 (fun q x1 x2 x3 x4 => k7 (q, x1, x2, x3, x4)) (fun q x1 x2 x3 x4 x6 x7 => k44 (q, x1, x2, x3, x4, x6, x7)) qb y1 (nI u) y3 y4 (nI r) y0 y6) (fun (o : dS) => (TS o) ∧ (dFr [16] [] q o)) := by
        intro y0 hy
        unfold zX10_laysOrder_74
        have ty : Int32.toInt (y6 - y0) = y6.toInt - y0.toInt := ti_sub rfl rfl (by omega) (by have := ti_rg y6; omega)
        refine hk44 (qb, y1, nI u, y3, y4, y6 - y0, nI r + 1) ⟨rfl, rfl, rfl, rfl, rfl, r + 1, by omega, e_r1, ?_, ?_⟩ ?_
        · show 0 ≤ Int32.toInt (y6 - y0)
          omega
        · show Int32.toInt (y6 - y0) + ((r + 1 : Nat) : Int) - (usB u (r + 1) : Int) = s0.toInt
          unfold usB
          rcases hy with ⟨h1, h2, h3⟩ | ⟨h1, h2⟩
          · rw [h2, if_neg (by decide)]; omega
          · rw [h2, if_pos rfl]; omega
        · show (6 - Int32.toInt (nI r + 1)).toNat < (6 - Int32.toInt (nI r)).toNat
          omega
      have h58 : (u.testBit r = true ∨ 0 < y6.toInt) → dOk (zX10_laysOrder_58 (fun q x1 x2 x3 x4 => k7 (q, x1, x2, x3, x4)) (fun q x1 x2 x3 x4 x6 x7 => k44 (q, x1, x2, x3, x4, x6, x7)) qb y1 (nI u) y3 y4 y6 (nI r)) (fun (o : dS) => (TS o) ∧ (dFr [16] [] q o)) := by
        intro hh
        unfold zX10_laysOrder_58
        refine dOk_V (isIn_eq hu (by omega)) (fun o ho => ?_)
        rcases ho with ⟨rfl, hb⟩ | ⟨rfl, hb⟩
        · rw [if_neg (by decide)]
          exact h74 0 (Or.inr ⟨by decide, hb⟩)
        · rw [if_pos rfl]
          refine h74 1 (Or.inl ⟨by decide, hb, ?_⟩)
          rcases hh with hh | hh
          · rw [hb] at hh; cases hh
          · exact hh
      unfold zX10_laysOrder_44b
      refine dOk_V (isIn_eq hu (by omega)) (fun o ho => ?_)
      rcases ho with ⟨rfl, hb⟩ | ⟨rfl, hb⟩
      · rw [if_neg (by decide)]
        exact h58 (Or.inl hb)
      · rw [if_pos rfl]
        refine dOk_le (A := y6.toInt) (B := 0) rfl (by decide) (fun c2 => ?_) (fun c2 => h58 (Or.inr c2))
        have m1 : Int32.toInt (6 * y1) = 6 * y1.toInt := ti_mul (by decide) rfl (by omega) (by omega)
        have m2 : Int32.toInt (6 * y1 + y4) = 6 * y1.toInt + y4.toInt := ti_add m1 rfl (by omega) (by omega)
        refine dOk_G (dg_ok (by omega) (by omega)) (dOk_L (fun q4 e4 => ?_))
        obtain ⟨o1, o2, o3⟩ := or_bit u hu r (by omega) hb
        have t5 : Int32.toInt (y4 + 1) = y4.toInt + 1 := ti_add rfl (by decide) (by omega) (by omega)
        refine hk7 (q4, y1, nI u ||| (1 <<< (nI r &&& 31)), y3, y4 + 1) ⟨?_, ?_, rfl, ⟨u ||| 2 ^ r, o2, o1, ?_⟩, ?_, ?_, ?_, ?_⟩ ?_
        · show TS q4
          rw [e4]; exact ts_set hT (by decide) (show (0 : Int) ≤ Int32.toInt (nI r) by omega) (show Int32.toInt (nI r) ≤ 5 by omega)
        · show dFr [16] [] q q4
          rw [e4]; exact hF.i (by decide) (by decide)
        · show (usB (u ||| 2 ^ r) 6 : Int) = Int32.toInt (y4 + 1)
          rw [o3]; omega
        · show 0 ≤ y3.toInt
          omega
        · show y3.toInt < facI (Int32.toInt (q.1 2 29) - Int32.toInt (y4 + 1))
          rw [t5]; omega
        · show 0 ≤ Int32.toInt (y4 + 1)
          omega
        · show Int32.toInt (y4 + 1) ≤ Int32.toInt (q.1 2 29)
          omega
        · show (6 - Int32.toInt (y4 + 1)).toNat < (6 - y4.toInt).toNat
          omega
    · exact ⟨rfl, rfl, rfl, rfl, rfl, 0, by omega, rfl, (show 0 ≤ s0.toInt by omega), (show s0.toInt + ((0 : Nat) : Int) - (usB u 0 : Int) = s0.toInt by unfold usB; omega)⟩
    · show (6 - Int32.toInt 0).toNat < 1000000000000
      decide
  · exact ⟨hT, dFr.rf, rfl, ⟨0, by decide, rfl, by show ((usB 0 6 : Nat) : Int) = Int32.toInt 0; decide⟩, hp0, (show Int32.toInt p1 < facI (Int32.toInt (q.1 2 29) - Int32.toInt 0) by rw [show Int32.toInt 0 = (0 : Int) by decide, Int.sub_zero]; exact hp1), (show (0 : Int) ≤ Int32.toInt 0 by decide), (show Int32.toInt 0 ≤ Int32.toInt (q.1 2 29) by rw [show Int32.toInt 0 = (0 : Int) by decide]; omega)⟩
  · show (6 - Int32.toInt 0).toNat < 1000000000000
    decide
end
