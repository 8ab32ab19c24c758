set_option maxHeartbeats 4000000 in
set_option maxRecDepth 100000 in
theorem ok_towerNow (q : dS) (hT : TS q) : dOk (zX10_towerNow q) (fun (o : Int32 × dS) => (TS o.2) ∧ (dFr [19] [] q o.2) ∧ (0 ≤ Int32.toInt o.1 ∧ Int32.toInt o.1 ≤ 46079) ∧ (Int32.toInt o.1 < 64 * facI (Int32.toInt (q.1 2 29)))) := by
  unfold zX10_towerNow
  unfold zX10_towerNow_4
  refine dFix_ok (fun (a : dS × Int32 × Int32) => (TS a.1) ∧ (dFr [19] [] q a.1) ∧ (0 ≤ Int32.toInt a.2.2) ∧ (Int32.toInt a.2.2 ≤ 6) ∧ (0 ≤ Int32.toInt a.2.1 ∧ Int32.toInt a.2.1 ≤ 63)) (fun (a : dS × Int32 × Int32) => (6 - Int32.toInt a.2.2).toNat) ?_ _ ?_ _ (dF_gt ?_)
  · intro a ha k_2 hk_1
    obtain ⟨q_3, x1_4, x2_5⟩ := a
    replace ha : (TS q_3) ∧ (dFr [19] [] q q_3) ∧ (0 ≤ Int32.toInt x2_5) ∧ (Int32.toInt x2_5 ≤ 6) ∧ (0 ≤ Int32.toInt x1_4 ∧ Int32.toInt x1_4 ≤ 63) := ha
    obtain ⟨a_6, a_7, a_8, a_9, a_10⟩ := ha
    show dOk (zX10_towerNow_4b  (fun q x1 x2 => k_2 (q, x1, x2)) q_3 x1_4 x2_5) _
    unfold zX10_towerNow_4b
    have hFq_3 : dFr [19] [] q q_3 := (dFr.rf (q := q)).t a_7 (by decide) (by decide)
    refine dOk_B (ok_size q_3 a_6) (fun r_11 q_12 h_13 => ?_)
    replace h_13 : (q_12 = q_3) ∧ (Int32.toInt r_11 = Int32.toInt (q_3.1 2 29)) ∧ (0 ≤ Int32.toInt r_11 ∧ Int32.toInt r_11 ≤ 6) := h_13
    obtain ⟨i_14, i_15, i_16⟩ := h_13
    subst q_12
    have f_17 : 0 ≤ Int32.toInt (q_3.1 2 29) ∧ Int32.toInt (q_3.1 2 29) ≤ 6 := a_6.1 2 29
    have f_18 : 0 ≤ Int32.toInt (q.1 2 29) ∧ Int32.toInt (q.1 2 29) ≤ 6 := hT.1 2 29
    have w_19 : Int32.toInt (q_3.1 2 29) = Int32.toInt (q.1 2 29) := by rw [a_7.1 2 (by decide) (by decide)]
    refine dOk_le (A := Int32.toInt r_11) (B := Int32.toInt x2_5) rfl rfl (fun c_20 => ?_) (fun c_21 => ?_)
    · refine dOk_B (ok_numberOf q_3 a_6) (fun r_22 q_23 h_24 => ?_)
      replace h_24 : (q_23 = q_3) ∧ (NB (Int32.toInt (q_3.1 2 29)) (Int32.toInt (q_3.1 2 29)) (Int32.toInt r_22)) ∧ (0 ≤ Int32.toInt r_22 ∧ Int32.toInt r_22 ≤ 719) := h_24
      obtain ⟨i_25, i_26, i_27⟩ := h_24
      subst q_23
      have zf := NB_fac ‹NB _ _ (Int32.toInt r_22)›
      have zg : facI (Int32.toInt (q_3.1 2 29)) = facI (Int32.toInt (q.1 2 29)) := by rw [show Int32.toInt (q_3.1 2 29) = Int32.toInt (q.1 2 29) by omega]
      try have t_28 : Int32.toInt (64 * r_22) = 64 * Int32.toInt r_22 := ti_mul (by decide) rfl (by omega) (by omega)
      try have t_29 : Int32.toInt (64 * r_22 + x1_4) = Int32.toInt (64 * r_22) + Int32.toInt x1_4 := ti_add rfl rfl (by omega) (by omega)
      exact dOk_some (show (TS q_3) ∧ (dFr [19] [] q q_3) ∧ (0 ≤ Int32.toInt (64 * r_22 + x1_4) ∧ Int32.toInt (64 * r_22 + x1_4) ≤ 46079) ∧ (Int32.toInt (64 * r_22 + x1_4) < 64 * facI (Int32.toInt (q.1 2 29))) from ⟨a_6, hFq_3, by omega, by omega⟩)
    · try have t_30 : Int32.toInt (0 + x2_5) = 0 + Int32.toInt x2_5 := ti_add (by decide) rfl (by omega) (by omega)
      refine dOk_G (dg_ok (show 0 ≤ Int32.toInt (0 + x2_5) by omega) (show Int32.toInt (0 + x2_5) < ((5640 : Nat) : Int) by omega)) ?_
      have n_31 : ((Int32.toNatClampNeg (0 + x2_5) : Nat) : Int) = Int32.toInt (0 + x2_5) := cl_eq (by omega)
      refine dOk_L (fun v_32 ev_32 => ?_)
      try have g_33 : klo (Int32.toNatClampNeg (0 + x2_5)) ≤ Int32.toInt v_32 ∧ Int32.toInt v_32 ≤ khi (Int32.toNatClampNeg (0 + x2_5)) := by rw [ev_32]; exact te_k a_6 _
      try have f_34 : 0 ≤ Int32.toInt v_32 ∧ Int32.toInt v_32 ≤ 5 := by rw [ev_32]; exact te_2r a_6 (by omega) (by omega)
      try have f_35 : 0 ≤ Int32.toInt v_32 ∧ Int32.toInt v_32 ≤ 1 := by rw [ev_32]; exact te_2h a_6 (by omega) (by omega)
      try have f_36 : 0 ≤ Int32.toInt v_32 ∧ Int32.toInt v_32 ≤ 5 := by rw [ev_32]; exact te_2s a_6 (by omega) (by omega)
      try have f_37 : 0 ≤ Int32.toInt v_32 ∧ Int32.toInt v_32 ≤ 400 := by rw [ev_32]; exact te_2z a_6 (by omega) (by omega)
      refine dOk_B (ok_lessThan q_3 v_32 a_6) (fun r_38 q_39 h_40 => ?_)
      replace h_40 : (q_39 = q_3) ∧ (0 ≤ Int32.toInt r_38 ∧ Int32.toInt r_38 ≤ 6) := h_40
      obtain ⟨i_41, i_42⟩ := h_40
      subst q_39
      refine dOk_G (dg_ok (show 0 ≤ Int32.toInt x2_5 by omega) (show Int32.toInt x2_5 < ((6 : Nat) : Int) by omega)) ?_
      have n_43 : ((Int32.toNatClampNeg x2_5 : Nat) : Int) = Int32.toInt x2_5 := cl_eq (by omega)
      refine dOk_L (fun q_44 eq_44 => ?_)
      have hTq_44 : TS q_44 := by rw [eq_44]; exact ts_any a_6 rfl
      have hFq_44 : dFr [19] [] q q_44 := by rw [eq_44]; exact hFq_3.i (by decide) (by decide)
      try have t_45 : Int32.toInt (6 + x2_5) = 6 + Int32.toInt x2_5 := ti_add (by decide) rfl (by omega) (by omega)
      refine dOk_G (dg_ok (show 0 ≤ Int32.toInt (6 + x2_5) by omega) (show Int32.toInt (6 + x2_5) < ((5640 : Nat) : Int) by omega)) ?_
      have n_46 : ((Int32.toNatClampNeg (6 + x2_5) : Nat) : Int) = Int32.toInt (6 + x2_5) := cl_eq (by omega)
      refine dOk_L (fun v_47 ev_47 => ?_)
      try have g_48 : klo (Int32.toNatClampNeg (6 + x2_5)) ≤ Int32.toInt v_47 ∧ Int32.toInt v_47 ≤ khi (Int32.toNatClampNeg (6 + x2_5)) := by rw [ev_47]; exact te_k hTq_44 _
      try have f_49 : 0 ≤ Int32.toInt v_47 ∧ Int32.toInt v_47 ≤ 5 := by rw [ev_47]; exact te_2r hTq_44 (by omega) (by omega)
      try have f_50 : 0 ≤ Int32.toInt v_47 ∧ Int32.toInt v_47 ≤ 1 := by rw [ev_47]; exact te_2h hTq_44 (by omega) (by omega)
      try have f_51 : 0 ≤ Int32.toInt v_47 ∧ Int32.toInt v_47 ≤ 5 := by rw [ev_47]; exact te_2s hTq_44 (by omega) (by omega)
      try have f_52 : 0 ≤ Int32.toInt v_47 ∧ Int32.toInt v_47 ≤ 400 := by rw [ev_47]; exact te_2z hTq_44 (by omega) (by omega)
      try have t_53 := ti_shl5 (x := v_47) (s := x2_5) (by omega) (by omega) (by omega) (by omega)
      try have t_54 := ti_shl6 (x := v_47) (s := x2_5) (by omega) (by omega) (by omega) (by omega)
      try have t_55 := ti_or (x := x1_4) (y := v_47 <<< ((x2_5 : Int32) &&& 31)) 6 (by decide) (by omega) (by omega) (by omega) (by omega)
      try have t_56 : Int32.toInt (x2_5 + 1) = Int32.toInt x2_5 + 1 := ti_add rfl (by decide) (by omega) (by omega)
      exact hk_1 (q_44, (x1_4 ||| v_47 <<< ((x2_5 : Int32) &&& 31)), (x2_5 + 1)) (show (TS q_44) ∧ (dFr [19] [] q q_44) ∧ (0 ≤ Int32.toInt (x2_5 + 1)) ∧ (Int32.toInt (x2_5 + 1) ≤ 6) ∧ (0 ≤ Int32.toInt (x1_4 ||| v_47 <<< ((x2_5 : Int32) &&& 31)) ∧ Int32.toInt (x1_4 ||| v_47 <<< ((x2_5 : Int32) &&& 31)) ≤ 63) from ⟨hTq_44, (by rw [eq_44]; exact (((dFr.rf : dFr [19] [] q q).t a_7 (by decide) (by decide)) : dFr [19] [] q q_3).i (by decide) (by decide)), by omega, by omega, by omega⟩) (show (6 - Int32.toInt (x2_5 + 1)).toNat < (6 - Int32.toInt x2_5).toNat by omega)
  · exact (show (TS q) ∧ (dFr [19] [] q q) ∧ (0 ≤ (0 : Int)) ∧ ((0 : Int) ≤ 6) ∧ (0 ≤ (0 : Int) ∧ (0 : Int) ≤ 63) from ⟨hT, dFr.rf, by omega, by omega, by omega⟩)
  · show (6 - (0 : Int)).toNat < 1000000000000
    omega
