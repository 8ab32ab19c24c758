set_option maxHeartbeats 4000000 in
set_option maxRecDepth 100000 in
theorem ok_X1_anyHolds_s20 (q : dK) (p1 : Int32) (hT : TC q) : dOk (zX1_anyHolds_s20 q p1) (fun (o : Int32 × dK) => (TC o.2) ∧ (cFr [19] [(18, 1)] q o.2) ∧ ((Int32.toInt o.1 = 0 ∨ Int32.toInt o.1 = 1))) := by
  unfold zX1_anyHolds_s20
  have f_1 : 0 ≤ Int32.toInt (q.1 20 2) ∧ Int32.toInt (q.1 20 2) ≤ 2147483647 := rg_20_2 hT
  have k_2 : Int32.toInt (q.1 20 2) ≤ (q.2.2.length : Int) := hT.2.1.1
  refine dOk_eq (A := Int32.toInt (q.1 20 2)) (B := 0) rfl (by decide) (fun c_3z c_3 => ?_) (fun c_4z c_4 => ?_)
  · exact dOk_some (show (TC q) ∧ (cFr [19] [(18, 1)] q q) ∧ (((0 : Int) = 0 ∨ (0 : Int) = 1)) from ⟨hT, (cFr.rf (q := q)), by omega⟩)
  · unfold zX1_anyHolds_s20_11
    refine dFix_ok (fun (a : dK × Int32 × Int32) => (TC a.1) ∧ (cFr [19] [(18, 1)] q a.1) ∧ (a.2.1 = p1) ∧ (0 ≤ Int32.toInt a.2.2) ∧ (Int32.toInt a.2.2 ≤ 12)) (fun (a : dK × Int32 × Int32) => (12 - Int32.toInt a.2.2).toNat) ?_ _ ?_ _ (dF_gt ?_)
    · intro a ha k_7 hk_6
      obtain ⟨q_8, x1_9, x2_10⟩ := a
      replace ha : (TC q_8) ∧ (cFr [19] [(18, 1)] q q_8) ∧ (x1_9 = p1) ∧ (0 ≤ Int32.toInt x2_10) ∧ (Int32.toInt x2_10 ≤ 12) := ha
      obtain ⟨a_11, a_12, a_13, a_14, a_15⟩ := ha
      show dOk (zX1_anyHolds_s20_11b  (fun q x1 x2 => k_7 (q, x1, x2)) q_8 x1_9 x2_10) _
      unfold zX1_anyHolds_s20_11b
      simp only [txC_r, txL_r, txN_r, txK_r, txR_r]
      have hFq_8 : cFr [19] [(18, 1)] q q_8 := (cFr.rf (q := q)).t a_12 (by decide) (by decide)
      subst x1_9
      have f_16 : 0 ≤ Int32.toInt (q_8.1 20 2) ∧ Int32.toInt (q_8.1 20 2) ≤ 2147483647 := rg_20_2 a_11
      have n_17 : q_8.2.2.length = q.2.2.length := (congrArg List.length a_12.2)
      have k_18 : Int32.toInt (q_8.1 20 2) ≤ (q_8.2.2.length : Int) := a_11.2.1.1
      have w_19 : Int32.toInt (q_8.1 20 2) = Int32.toInt (q.1 20 2) := by rw [a_12.1 20 2 (by decide) (by decide)]
      have g_20 : dlg q_8 (q_8.1 20 2) = true := tc_dlg a_11 (show ¬ Int32.toInt (q_8.1 20 2) = 0 by omega) (show 0 ≤ Int32.toInt (q_8.1 20 2) by omega) (show Int32.toInt (q_8.1 20 2) ≤ (q_8.2.2.length : Int) by omega)
      refine dOk_G g_20 ?_
      refine dOk_G g_20 ?_
      have f_21 : 0 ≤ Int32.toInt (txC q_8 (q_8.1 20 2)) ∧ Int32.toInt (txC q_8 (q_8.1 20 2)) ≤ 12 := tx_C a_11 g_20
      have w_22 : Int32.toInt (txC q_8 (q_8.1 20 2)) = Int32.toInt (txC q (q.1 20 2)) := by rw [a_12.1 20 2 (by decide) (by decide)]; exact tx_eqC a_12.2
      refine dOk_le (A := Int32.toInt (txC q_8 (q_8.1 20 2))) (B := Int32.toInt x2_10) rfl rfl (fun c_23 => ?_) (fun c_24 => ?_)
      · exact dOk_some (show (TC q_8) ∧ (cFr [19] [(18, 1)] q q_8) ∧ (((0 : Int) = 0 ∨ (0 : Int) = 1)) from ⟨a_11, hFq_8, by omega⟩)
      · refine dOk_G g_20 ?_
        refine dOk_G g_20 ?_
        refine dOk_G g_20 ?_
        have f_25 : 0 ≤ Int32.toInt (txN q_8 (q_8.1 20 2)) ∧ Int32.toInt (txN q_8 (q_8.1 20 2)) ≤ 12 := tx_N a_11 g_20
        have w_26 : Int32.toInt (txN q_8 (q_8.1 20 2)) = Int32.toInt (txC q_8 (q_8.1 20 2)) := tx_N2 a_11 g_20
        have w_27 : Int32.toInt (txN q_8 (q_8.1 20 2)) = Int32.toInt (txN q (q.1 20 2)) := by rw [a_12.1 20 2 (by decide) (by decide)]; exact tx_eqN a_12.2
        refine dOk_G (dg_ok (show 0 ≤ Int32.toInt x2_10 by omega) (show Int32.toInt x2_10 < ((Int32.toNatClampNeg (txN q_8 (q_8.1 20 2)) : Nat) : Int) by rw [cl_eq (show 0 ≤ Int32.toInt (txN q_8 (q_8.1 20 2)) by omega)]; omega)) ?_
        refine dOk_L (fun v_28 ev_28 => ?_)
        refine dOk_eq (A := Int32.toInt v_28) (B := Int32.toInt p1) rfl rfl (fun c_29z c_29 => ?_) (fun c_30z c_30 => ?_)
        · refine dOk_G g_20 ?_
          refine dOk_G g_20 ?_
          refine dOk_G g_20 ?_
          refine dOk_G g_20 ?_
          refine dOk_G (dg_ok (show 0 ≤ Int32.toInt x2_10 by omega) (show Int32.toInt x2_10 < ((Int32.toNatClampNeg (txN q_8 (q_8.1 20 2)) : Nat) : Int) by rw [cl_eq (show 0 ≤ Int32.toInt (txN q_8 (q_8.1 20 2)) by omega)]; omega)) ?_
          refine dOk_L (fun v_32 ev_32 => ?_)
          have f_33 : 0 ≤ Int32.toInt v_32 := by rw [ev_32]; exact tx_R a_11 g_20 _ _ (by decide)
          refine dOk_G g_20 ?_
          refine dOk_G g_20 ?_
          refine dOk_G g_20 ?_
          refine dOk_G (dg_ok (show 0 ≤ Int32.toInt x2_10 by omega) (show Int32.toInt x2_10 < ((Int32.toNatClampNeg (txN q_8 (q_8.1 20 2)) : Nat) : Int) by rw [cl_eq (show 0 ≤ Int32.toInt (txN q_8 (q_8.1 20 2)) by omega)]; omega)) ?_
          refine dOk_L (fun v_34 ev_34 => ?_)
          have f_35 : 0 ≤ Int32.toInt v_34 := by rw [ev_34]; exact tx_R a_11 g_20 _ _ (by decide)
          refine dOk_B (ok_X2_valueOf_s18_l_s21 q_8 (q_8.1 20 2) v_32 v_34 a_11 (show ¬ Int32.toInt (q_8.1 20 2) = 0 by omega) (show 0 ≤ Int32.toInt (q_8.1 20 2) by omega) (show Int32.toInt (q_8.1 20 2) ≤ (q_8.2.2.length : Int) by omega) (show 0 ≤ Int32.toInt v_32 by omega)) (fun r_36 q_37 h_38 => ?_)
          replace h_38 : (TC q_37) ∧ (cFr [19] [(18, 1)] q_8 q_37) := h_38
          obtain ⟨i_39, i_40⟩ := h_38
          have hFq_37 : cFr [19] [(18, 1)] q q_37 := hFq_8.t i_40 (by decide) (by decide)
          refine dOk_eq (A := Int32.toInt r_36) (B := 1) rfl (by decide) (fun c_41z c_41 => ?_) (fun c_42z c_42 => ?_)
          · exact dOk_some (show (TC q_37) ∧ (cFr [19] [(18, 1)] q q_37) ∧ (((1 : Int) = 0 ∨ (1 : Int) = 1)) from ⟨i_39, hFq_37, by omega⟩)
          · unfold zX1_anyHolds_s20_74
            try have t_44 : Int32.toInt (x2_10 + 1) = Int32.toInt x2_10 + 1 := ti_add rfl (by decide) (by omega) (by omega)
            exact hk_6 (q_37, p1, (x2_10 + 1)) (show (TC q_37) ∧ (cFr [19] [(18, 1)] q q_37) ∧ (p1 = p1) ∧ (0 ≤ Int32.toInt (x2_10 + 1)) ∧ (Int32.toInt (x2_10 + 1) ≤ 12) from ⟨i_39, ((((cFr.rf : cFr [19] [(18, 1)] q q).t a_12 (by decide) (by decide)) : cFr [19] [(18, 1)] q q_8).t i_40 (by decide) (by decide)), rfl, by omega, by omega⟩) (show (12 - Int32.toInt (x2_10 + 1)).toNat < (12 - Int32.toInt x2_10).toNat by omega)
        · unfold zX1_anyHolds_s20_74
          try have t_45 : Int32.toInt (x2_10 + 1) = Int32.toInt x2_10 + 1 := ti_add rfl (by decide) (by omega) (by omega)
          exact hk_6 (q_8, p1, (x2_10 + 1)) (show (TC q_8) ∧ (cFr [19] [(18, 1)] q q_8) ∧ (p1 = p1) ∧ (0 ≤ Int32.toInt (x2_10 + 1)) ∧ (Int32.toInt (x2_10 + 1) ≤ 12) from ⟨a_11, ((cFr.rf : cFr [19] [(18, 1)] q q).t a_12 (by decide) (by decide)), rfl, by omega, by omega⟩) (show (12 - Int32.toInt (x2_10 + 1)).toNat < (12 - Int32.toInt x2_10).toNat by omega)
    · exact (show (TC q) ∧ (cFr [19] [(18, 1)] q q) ∧ (p1 = p1) ∧ (0 ≤ (0 : Int)) ∧ ((0 : Int) ≤ 12) from ⟨hT, cFr.rf, rfl, by omega, by omega⟩)
    · show (12 - (0 : Int)).toNat < 1000000000000
      omega

set_option maxHeartbeats 4000000 in
set_option maxRecDepth 100000 in
theorem ok_X1_pay_s20 (q : dK) (hT : TC q) (hp0 : 0 ≤ Int32.toInt (q.1 21 0)) (hp1 : Int32.toInt (q.1 21 0) ≤ 99) : dOk (zX1_pay_s20 q) (fun (o : Int32 × dK) => (TC o.2) ∧ (cFr [19] [(18, 1)] q o.2) ∧ (0 ≤ Int32.toInt o.1 ∧ Int32.toInt o.1 ≤ 99)) := by
  unfold zX1_pay_s20
  simp only [txC_r, txL_r, txN_r, txK_r, txR_r]
  have f_1 : 0 ≤ Int32.toInt (q.1 20 2) ∧ Int32.toInt (q.1 20 2) ≤ 2147483647 := rg_20_2 hT
  have k_2 : Int32.toInt (q.1 20 2) ≤ (q.2.2.length : Int) := hT.2.1.1
  refine dOk_eq (A := Int32.toInt (q.1 20 2)) (B := 0) rfl (by decide) (fun c_3z c_3 => ?_) (fun c_4z c_4 => ?_)
  · exact dOk_some (show (TC q) ∧ (cFr [19] [(18, 1)] q q) ∧ (0 ≤ Int32.toInt (q.1 21 0) ∧ Int32.toInt (q.1 21 0) ≤ 99) from ⟨hT, (cFr.rf (q := q)), by omega⟩)
  · have g_6 : dlg q (q.1 20 2) = true := tc_dlg hT (show ¬ Int32.toInt (q.1 20 2) = 0 by omega) (show 0 ≤ Int32.toInt (q.1 20 2) by omega) (show Int32.toInt (q.1 20 2) ≤ (q.2.2.length : Int) by omega)
    refine dOk_G g_6 ?_
    refine dOk_G g_6 ?_
    unfold zX1_pay_s20_24
    refine dFix_ok (fun (a : dK × Int32) => (TC a.1) ∧ (cFr [19] [(18, 1)] q a.1) ∧ (-1 ≤ Int32.toInt a.2) ∧ (Int32.toInt a.2 < Int32.toInt (txC a.1 (a.1.1 20 2))) ∧ (¬ Int32.toInt (a.1.1 20 2) = 0)) (fun (a : dK × Int32) => (Int32.toInt a.2 + 1).toNat) ?_ _ ?_ _ (dF_gt ?_)
    · intro a ha k_8 hk_7
      obtain ⟨q_9, x1_10⟩ := a
      replace ha : (TC q_9) ∧ (cFr [19] [(18, 1)] q q_9) ∧ (-1 ≤ Int32.toInt x1_10) ∧ (Int32.toInt x1_10 < Int32.toInt (txC q_9 (q_9.1 20 2))) ∧ (¬ Int32.toInt (q_9.1 20 2) = 0) := ha
      obtain ⟨a_11, a_12, a_13, a_14, a_15⟩ := ha
      show dOk (zX1_pay_s20_24b  (fun q x1 => k_8 (q, x1)) q_9 x1_10) _
      unfold zX1_pay_s20_24b
      simp only [txC_r, txL_r, txN_r, txK_r, txR_r]
      have hFq_9 : cFr [19] [(18, 1)] q q_9 := (cFr.rf (q := q)).t a_12 (by decide) (by decide)
      have f_16 : 0 ≤ Int32.toInt (q_9.1 20 2) ∧ Int32.toInt (q_9.1 20 2) ≤ 2147483647 := rg_20_2 a_11
      have n_17 : q_9.2.2.length = q.2.2.length := (congrArg List.length a_12.2)
      have k_18 : Int32.toInt (q_9.1 20 2) ≤ (q_9.2.2.length : Int) := a_11.2.1.1
      have w_19 : Int32.toInt (q_9.1 20 2) = Int32.toInt (q.1 20 2) := by rw [a_12.1 20 2 (by decide) (by decide)]
      have f_20 : 0 ≤ Int32.toInt (txC q (q.1 20 2)) ∧ Int32.toInt (txC q (q.1 20 2)) ≤ 12 := tx_C hT g_6
      have w_21 : Int32.toInt (txC q_9 (q_9.1 20 2)) = Int32.toInt (txC q (q.1 20 2)) := by rw [a_12.1 20 2 (by decide) (by decide)]; exact tx_eqC a_12.2
      refine dOk_lt (A := Int32.toInt x1_10) (B := 0) rfl (by decide) (fun c_22 => ?_) (fun c_23 => ?_)
      · have w_24 : Int32.toInt (q_9.1 21 0) = Int32.toInt (q.1 21 0) := by rw [a_12.1 21 0 (by decide) (by decide)]
        exact dOk_some (show (TC q_9) ∧ (cFr [19] [(18, 1)] q q_9) ∧ (0 ≤ Int32.toInt (q_9.1 21 0) ∧ Int32.toInt (q_9.1 21 0) ≤ 99) from ⟨a_11, hFq_9, by omega⟩)
      · have g_25 : dlg q_9 (q_9.1 20 2) = true := tc_dlg a_11 (show ¬ Int32.toInt (q_9.1 20 2) = 0 by omega) (show 0 ≤ Int32.toInt (q_9.1 20 2) by omega) (show Int32.toInt (q_9.1 20 2) ≤ (q_9.2.2.length : Int) by omega)
        refine dOk_G g_25 ?_
        refine dOk_G g_25 ?_
        refine dOk_G g_25 ?_
        have f_26 : 0 ≤ Int32.toInt (txN q_9 (q_9.1 20 2)) ∧ Int32.toInt (txN q_9 (q_9.1 20 2)) ≤ 12 := tx_N a_11 g_25
        have w_27 : Int32.toInt (txN q_9 (q_9.1 20 2)) = Int32.toInt (txC q_9 (q_9.1 20 2)) := tx_N2 a_11 g_25
        have f_28 : 0 ≤ Int32.toInt (txN q (q.1 20 2)) ∧ Int32.toInt (txN q (q.1 20 2)) ≤ 12 := tx_N hT g_6
        have w_29 : Int32.toInt (txN q (q.1 20 2)) = Int32.toInt (txC q (q.1 20 2)) := tx_N2 hT g_6
        have w_30 : Int32.toInt (txN q_9 (q_9.1 20 2)) = Int32.toInt (txN q (q.1 20 2)) := by rw [a_12.1 20 2 (by decide) (by decide)]; exact tx_eqN a_12.2
        refine dOk_G (dg_ok (show 0 ≤ Int32.toInt x1_10 by omega) (show Int32.toInt x1_10 < ((Int32.toNatClampNeg (txN q_9 (q_9.1 20 2)) : Nat) : Int) by rw [cl_eq (show 0 ≤ Int32.toInt (txN q_9 (q_9.1 20 2)) by omega)]; omega)) ?_
        refine dOk_L (fun v_31 ev_31 => ?_)
        refine dOk_eq (A := Int32.toInt v_31) (B := 0) rfl (by decide) (fun c_32z c_32 => ?_) (fun c_33z c_33 => ?_)
        · refine dOk_G g_25 ?_
          refine dOk_G g_25 ?_
          refine dOk_G g_25 ?_
          refine dOk_G g_25 ?_
          refine dOk_G (dg_ok (show 0 ≤ Int32.toInt x1_10 by omega) (show Int32.toInt x1_10 < ((Int32.toNatClampNeg (txN q_9 (q_9.1 20 2)) : Nat) : Int) by rw [cl_eq (show 0 ≤ Int32.toInt (txN q_9 (q_9.1 20 2)) by omega)]; omega)) ?_
          refine dOk_L (fun v_35 ev_35 => ?_)
          have f_36 : 0 ≤ Int32.toInt v_35 := by rw [ev_35]; exact tx_R a_11 g_25 _ _ (by decide)
          refine dOk_G g_25 ?_
          refine dOk_G g_25 ?_
          refine dOk_G g_25 ?_
          refine dOk_G (dg_ok (show 0 ≤ Int32.toInt x1_10 by omega) (show Int32.toInt x1_10 < ((Int32.toNatClampNeg (txN q_9 (q_9.1 20 2)) : Nat) : Int) by rw [cl_eq (show 0 ≤ Int32.toInt (txN q_9 (q_9.1 20 2)) by omega)]; omega)) ?_
          refine dOk_L (fun v_37 ev_37 => ?_)
          have f_38 : 0 ≤ Int32.toInt v_37 := by rw [ev_37]; exact tx_R a_11 g_25 _ _ (by decide)
          refine dOk_B (ok_X2_valueOf_s18_l_s21 q_9 (q_9.1 20 2) v_35 v_37 a_11 (show ¬ Int32.toInt (q_9.1 20 2) = 0 by omega) (show 0 ≤ Int32.toInt (q_9.1 20 2) by omega) (show Int32.toInt (q_9.1 20 2) ≤ (q_9.2.2.length : Int) by omega) (show 0 ≤ Int32.toInt v_35 by omega)) (fun r_39 q_40 h_41 => ?_)
          replace h_41 : (TC q_40) ∧ (cFr [19] [(18, 1)] q_9 q_40) := h_41
          obtain ⟨i_42, i_43⟩ := h_41
          have hFq_40 : cFr [19] [(18, 1)] q q_40 := hFq_9.t i_43 (by decide) (by decide)
          refine dOk_eq (A := Int32.toInt r_39) (B := 1) rfl (by decide) (fun c_44z c_44 => ?_) (fun c_45z c_45 => ?_)
          · have f_47 : 0 ≤ Int32.toInt (q_40.1 20 2) ∧ Int32.toInt (q_40.1 20 2) ≤ 2147483647 := rg_20_2 i_42
            have n_48 : q_40.2.2.length = q_9.2.2.length := (congrArg List.length i_43.2)
            have k_49 : Int32.toInt (q_40.1 20 2) ≤ (q_40.2.2.length : Int) := i_42.2.1.1
            have w_50 : Int32.toInt (q_40.1 20 2) = Int32.toInt (q_9.1 20 2) := by rw [i_43.1 20 2 (by decide) (by decide)]
            have g_51 : dlg q_40 (q_40.1 20 2) = true := tc_dlg i_42 (show ¬ Int32.toInt (q_40.1 20 2) = 0 by omega) (show 0 ≤ Int32.toInt (q_40.1 20 2) by omega) (show Int32.toInt (q_40.1 20 2) ≤ (q_40.2.2.length : Int) by omega)
            refine dOk_G g_51 ?_
            refine dOk_G g_51 ?_
            refine dOk_G g_51 ?_
            refine dOk_G g_51 ?_
            have f_52 : 0 ≤ Int32.toInt (txN q_40 (q_40.1 20 2)) ∧ Int32.toInt (txN q_40 (q_40.1 20 2)) ≤ 12 := tx_N i_42 g_51
            have w_53 : Int32.toInt (txN q_40 (q_40.1 20 2)) = Int32.toInt (txC q_40 (q_40.1 20 2)) := tx_N2 i_42 g_51
            have w_54 : Int32.toInt (txN q_40 (q_40.1 20 2)) = Int32.toInt (txN q_9 (q_9.1 20 2)) := by rw [i_43.1 20 2 (by decide) (by decide)]; exact tx_eqN i_43.2
            refine dOk_G (dg_ok (show 0 ≤ Int32.toInt x1_10 by omega) (show Int32.toInt x1_10 < ((Int32.toNatClampNeg (txN q_40 (q_40.1 20 2)) : Nat) : Int) by rw [cl_eq (show 0 ≤ Int32.toInt (txN q_40 (q_40.1 20 2)) by omega)]; omega)) ?_
            refine dOk_L (fun v_55 ev_55 => ?_)
            have f_56 : 0 ≤ Int32.toInt v_55 := by rw [ev_55]; exact tx_R i_42 g_51 _ _ (by decide)
            refine dOk_G g_51 ?_
            refine dOk_G g_51 ?_
            refine dOk_G g_51 ?_
            refine dOk_G (dg_ok (show 0 ≤ Int32.toInt x1_10 by omega) (show Int32.toInt x1_10 < ((Int32.toNatClampNeg (txN q_40 (q_40.1 20 2)) : Nat) : Int) by rw [cl_eq (show 0 ≤ Int32.toInt (txN q_40 (q_40.1 20 2)) by omega)]; omega)) ?_
            refine dOk_L (fun v_57 ev_57 => ?_)
            have f_58 : 0 ≤ Int32.toInt v_57 := by rw [ev_57]; exact tx_R i_42 g_51 _ _ (by decide)
            refine dOk_B (ok_X2_valueOf_s18_l_s21 q_40 (q_40.1 20 2) v_55 v_57 i_42 (show ¬ Int32.toInt (q_40.1 20 2) = 0 by omega) (show 0 ≤ Int32.toInt (q_40.1 20 2) by omega) (show Int32.toInt (q_40.1 20 2) ≤ (q_40.2.2.length : Int) by omega) (show 0 ≤ Int32.toInt v_55 by omega)) (fun r_59 q_60 h_61 => ?_)
            replace h_61 : (TC q_60) ∧ (cFr [19] [(18, 1)] q_40 q_60) := h_61
            obtain ⟨i_62, i_63⟩ := h_61
            have hFq_60 : cFr [19] [(18, 1)] q q_60 := hFq_40.t i_63 (by decide) (by decide)
            have f_64 : 0 ≤ Int32.toInt (q_60.1 18 1) ∧ Int32.toInt (q_60.1 18 1) ≤ 1 := rg_18_1 i_62
            refine dOk_eq (A := Int32.toInt (q_60.1 18 1)) (B := 0) rfl (by decide) (fun c_65z c_65 => ?_) (fun c_66z c_66 => ?_)
            · have f_68 : 0 ≤ Int32.toInt (mxI 0 (mnI 99 r_59)) ∧ Int32.toInt (mxI 0 (mnI 99 r_59)) ≤ 99 := mxmn _
              exact dOk_some (show (TC q_60) ∧ (cFr [19] [(18, 1)] q q_60) ∧ (0 ≤ Int32.toInt (mxI 0 (mnI 99 r_59)) ∧ Int32.toInt (mxI 0 (mnI 99 r_59)) ≤ 99) from ⟨i_62, hFq_60, by omega⟩)
            · unfold zX1_pay_s20_132
              obtain ⟨y_69, hy_69⟩ : ∃ y : Int32, x1_10 + (-1) = y := ⟨_, rfl⟩
              have t_70 : Int32.toInt y_69 = Int32.toInt x1_10 + (-1) := by rw [← hy_69]; exact ti_add rfl (by decide) (by omega) (by omega)
              rw [hy_69]
              clear hy_69
              have f_71 : 0 ≤ Int32.toInt (q_60.1 20 2) ∧ Int32.toInt (q_60.1 20 2) ≤ 2147483647 := rg_20_2 i_62
              have n_72 : q_60.2.2.length = q_40.2.2.length := (congrArg List.length i_63.2)
              have k_73 : Int32.toInt (q_60.1 20 2) ≤ (q_60.2.2.length : Int) := i_62.2.1.1
              have w_74 : Int32.toInt (q_60.1 20 2) = Int32.toInt (q_40.1 20 2) := by rw [i_63.1 20 2 (by decide) (by decide)]
              have f_75 : 0 ≤ Int32.toInt (txC q_40 (q_40.1 20 2)) ∧ Int32.toInt (txC q_40 (q_40.1 20 2)) ≤ 12 := tx_C i_42 g_51
              have w_76 : Int32.toInt (txC q_40 (q_40.1 20 2)) = Int32.toInt (txC q_9 (q_9.1 20 2)) := by rw [i_43.1 20 2 (by decide) (by decide)]; exact tx_eqC i_43.2
              have w_77 : Int32.toInt (txC q_60 (q_60.1 20 2)) = Int32.toInt (txC q_40 (q_40.1 20 2)) := by rw [i_63.1 20 2 (by decide) (by decide)]; exact tx_eqC i_63.2
              exact hk_7 (q_60, y_69) (show (TC q_60) ∧ (cFr [19] [(18, 1)] q q_60) ∧ (-1 ≤ Int32.toInt y_69) ∧ (Int32.toInt y_69 < Int32.toInt (txC q_60 (q_60.1 20 2))) ∧ (¬ Int32.toInt (q_60.1 20 2) = 0) from ⟨i_62, ((((((cFr.rf : cFr [19] [(18, 1)] q q).t a_12 (by decide) (by decide)) : cFr [19] [(18, 1)] q q_9).t i_43 (by decide) (by decide)) : cFr [19] [(18, 1)] q q_40).t i_63 (by decide) (by decide)), by omega, by omega, by omega⟩) (show (Int32.toInt y_69 + 1).toNat < (Int32.toInt x1_10 + 1).toNat by omega)
          · unfold zX1_pay_s20_132
            obtain ⟨y_78, hy_78⟩ : ∃ y : Int32, x1_10 + (-1) = y := ⟨_, rfl⟩
            have t_79 : Int32.toInt y_78 = Int32.toInt x1_10 + (-1) := by rw [← hy_78]; exact ti_add rfl (by decide) (by omega) (by omega)
            rw [hy_78]
            clear hy_78
            have f_80 : 0 ≤ Int32.toInt (q_40.1 20 2) ∧ Int32.toInt (q_40.1 20 2) ≤ 2147483647 := rg_20_2 i_42
            have n_81 : q_40.2.2.length = q_9.2.2.length := (congrArg List.length i_43.2)
            have k_82 : Int32.toInt (q_40.1 20 2) ≤ (q_40.2.2.length : Int) := i_42.2.1.1
            have w_83 : Int32.toInt (q_40.1 20 2) = Int32.toInt (q_9.1 20 2) := by rw [i_43.1 20 2 (by decide) (by decide)]
            have w_84 : Int32.toInt (txC q_40 (q_40.1 20 2)) = Int32.toInt (txC q_9 (q_9.1 20 2)) := by rw [i_43.1 20 2 (by decide) (by decide)]; exact tx_eqC i_43.2
            exact hk_7 (q_40, y_78) (show (TC q_40) ∧ (cFr [19] [(18, 1)] q q_40) ∧ (-1 ≤ Int32.toInt y_78) ∧ (Int32.toInt y_78 < Int32.toInt (txC q_40 (q_40.1 20 2))) ∧ (¬ Int32.toInt (q_40.1 20 2) = 0) from ⟨i_42, ((((cFr.rf : cFr [19] [(18, 1)] q q).t a_12 (by decide) (by decide)) : cFr [19] [(18, 1)] q q_9).t i_43 (by decide) (by decide)), by omega, by omega, by omega⟩) (show (Int32.toInt y_78 + 1).toNat < (Int32.toInt x1_10 + 1).toNat by omega)
        · unfold zX1_pay_s20_132
          obtain ⟨y_85, hy_85⟩ : ∃ y : Int32, x1_10 + (-1) = y := ⟨_, rfl⟩
          have t_86 : Int32.toInt y_85 = Int32.toInt x1_10 + (-1) := by rw [← hy_85]; exact ti_add rfl (by decide) (by omega) (by omega)
          rw [hy_85]
          clear hy_85
          exact hk_7 (q_9, y_85) (show (TC q_9) ∧ (cFr [19] [(18, 1)] q q_9) ∧ (-1 ≤ Int32.toInt y_85) ∧ (Int32.toInt y_85 < Int32.toInt (txC q_9 (q_9.1 20 2))) ∧ (¬ Int32.toInt (q_9.1 20 2) = 0) from ⟨a_11, ((cFr.rf : cFr [19] [(18, 1)] q q).t a_12 (by decide) (by decide)), by omega, by omega, by omega⟩) (show (Int32.toInt y_85 + 1).toNat < (Int32.toInt x1_10 + 1).toNat by omega)
    · have f_87 : 0 ≤ Int32.toInt (txC q (q.1 20 2)) ∧ Int32.toInt (txC q (q.1 20 2)) ≤ 12 := tx_C hT g_6
      try have t_88 : Int32.toInt (txC q (q.1 20 2) - 1) = Int32.toInt (txC q (q.1 20 2)) - 1 := ti_sub rfl (by decide) (by omega) (by omega)
      exact (show (TC q) ∧ (cFr [19] [(18, 1)] q q) ∧ (-1 ≤ Int32.toInt (txC q (q.1 20 2) - 1)) ∧ (Int32.toInt (txC q (q.1 20 2) - 1) < Int32.toInt (txC q (q.1 20 2))) ∧ (¬ Int32.toInt (q.1 20 2) = 0) from ⟨hT, cFr.rf, by omega, by omega, by omega⟩)
    · have f_89 : 0 ≤ Int32.toInt (txC q (q.1 20 2)) ∧ Int32.toInt (txC q (q.1 20 2)) ≤ 12 := tx_C hT g_6
      try have t_90 : Int32.toInt (txC q (q.1 20 2) - 1) = Int32.toInt (txC q (q.1 20 2)) - 1 := ti_sub rfl (by decide) (by omega) (by omega)
      show (Int32.toInt (txC q (q.1 20 2) - 1) + 1).toNat < 1000000000000
      omega

set_option maxHeartbeats 4000000 in
set_option maxRecDepth 100000 in
theorem ok_X1_bars_s20_s2 (q : dK) (p2 : Int32) (hT : TC q) : dOk (zX1_bars_s20_s2 q p2) (fun (o : Int32 × dK) => (TC o.2) ∧ (cFr [19, 21] [(18, 1)] q o.2) ∧ ((Int32.toInt o.1 = 0 ∨ Int32.toInt o.1 = 1))) := by
  unfold zX1_bars_s20_s2
  refine dOk_V (ok_X1_setTurn_s20_s2 q p2 hT) (fun q_1 h_2 => ?_)
  replace h_2 : (TC q_1) ∧ (cFr [21] [] q q_1) ∧ (Int32.toInt (q_1.1 21 0) = Int32.toInt p2) := h_2
  obtain ⟨i_3, i_4, i_5⟩ := h_2
  have hFq_1 : cFr [19, 21] [(18, 1)] q q_1 := (cFr.rf (q := q)).t i_4 (by decide) (by decide)
  refine dOk_B (ok_X1_anyHolds_s20 q_1 1 i_3) (fun r_6 q_7 h_8 => ?_)
  replace h_8 : (TC q_7) ∧ (cFr [19] [(18, 1)] q_1 q_7) ∧ ((Int32.toInt r_6 = 0 ∨ Int32.toInt r_6 = 1)) := h_8
  obtain ⟨i_9, i_10, i_11⟩ := h_8
  have hFq_7 : cFr [19, 21] [(18, 1)] q q_7 := hFq_1.t i_10 (by decide) (by decide)
  refine dOk_G (dbl_ok (show Int32.toInt r_6 = 0 ∨ Int32.toInt r_6 = 1 by omega)) ?_
  exact dOk_some (show (TC q_7) ∧ (cFr [19, 21] [(18, 1)] q q_7) ∧ ((Int32.toInt r_6 = 0 ∨ Int32.toInt r_6 = 1)) from ⟨i_9, hFq_7, by omega⟩)

set_option maxHeartbeats 4000000 in
set_option maxRecDepth 100000 in
theorem ok_X1_payOf_s20_s2 (q : dK) (p2 : Int32) (hT : TC q) (hp0 : 0 ≤ Int32.toInt p2 ∧ Int32.toInt p2 ≤ 99) : dOk (zX1_payOf_s20_s2 q p2) (fun (o : Int32 × dK) => (TC o.2) ∧ (cFr [19, 21] [(18, 1)] q o.2) ∧ (0 ≤ Int32.toInt o.1 ∧ Int32.toInt o.1 ≤ 99)) := by
  unfold zX1_payOf_s20_s2
  refine dOk_V (ok_X1_setTurn_s20_s2 q p2 hT) (fun q_1 h_2 => ?_)
  replace h_2 : (TC q_1) ∧ (cFr [21] [] q q_1) ∧ (Int32.toInt (q_1.1 21 0) = Int32.toInt p2) := h_2
  obtain ⟨i_3, i_4, i_5⟩ := h_2
  have hFq_1 : cFr [19, 21] [(18, 1)] q q_1 := (cFr.rf (q := q)).t i_4 (by decide) (by decide)
  refine dOk_B (ok_X1_pay_s20 q_1 i_3 (show 0 ≤ Int32.toInt (q_1.1 21 0) by omega) (show Int32.toInt (q_1.1 21 0) ≤ 99 by omega)) (fun r_6 q_7 h_8 => ?_)
  replace h_8 : (TC q_7) ∧ (cFr [19] [(18, 1)] q_1 q_7) ∧ (0 ≤ Int32.toInt r_6 ∧ Int32.toInt r_6 ≤ 99) := h_8
  obtain ⟨i_9, i_10, i_11⟩ := h_8
  have hFq_7 : cFr [19, 21] [(18, 1)] q q_7 := hFq_1.t i_10 (by decide) (by decide)
  exact dOk_some (show (TC q_7) ∧ (cFr [19, 21] [(18, 1)] q q_7) ∧ (0 ≤ Int32.toInt r_6 ∧ Int32.toInt r_6 ≤ 99) from ⟨i_9, hFq_7, by omega⟩)

set_option maxHeartbeats 4000000 in
set_option maxRecDepth 100000 in
theorem ok_X1_tips_s20_s2 (q : dK) (p2 : Int32) (hT : TC q) : dOk (zX1_tips_s20_s2 q p2) (fun (o : Int32 × dK) => (TC o.2) ∧ (cFr [19, 21] [(18, 1)] q o.2) ∧ ((Int32.toInt o.1 = 0 ∨ Int32.toInt o.1 = 1))) := by
  unfold zX1_tips_s20_s2
  refine dOk_B (ok_X8_isFloor_s2 q p2 hT) (fun r_1 q_2 h_3 => ?_)
  replace h_3 : (q_2 = q) ∧ ((Int32.toInt r_1 = 1 ∧ 0 ≤ Int32.toInt p2 ∧ Int32.toInt p2 < Int32.toInt (q.1 2 2)) ∨ (Int32.toInt r_1 = 0 ∧ (Int32.toInt p2 < 0 ∨ Int32.toInt (q.1 2 2) ≤ Int32.toInt p2))) := h_3
  obtain ⟨i_4, i_5⟩ := h_3
  subst q_2
  have f_6 : 0 ≤ Int32.toInt (q.1 2 2) ∧ Int32.toInt (q.1 2 2) ≤ 6 := rg_2_2 hT
  refine dOk_eq (A := Int32.toInt r_1) (B := 0) rfl (by decide) (fun c_7z c_7 => ?_) (fun c_8z c_8 => ?_)
  · exact dOk_some (show (TC q) ∧ (cFr [19, 21] [(18, 1)] q q) ∧ (((0 : Int) = 0 ∨ (0 : Int) = 1)) from ⟨hT, (cFr.rf (q := q)), by omega⟩)
  · have f_10 : 0 ≤ Int32.toInt (q.1 2 4) ∧ Int32.toInt (q.1 2 4) ≤ 1023 := rg_2_4 hT
    refine dOk_V (ok_X1_setCommon_s20 q (q.1 2 2) (q.1 2 4) hT) (fun q_11 h_12 => ?_)
    replace h_12 : (TC q_11) ∧ (cFr [21] [] q q_11) := h_12
    obtain ⟨i_13, i_14⟩ := h_12
    have hFq_11 : cFr [19, 21] [(18, 1)] q q_11 := (cFr.rf (q := q)).t i_14 (by decide) (by decide)
    refine dOk_L (fun q_15 eq_15 => ?_)
    have hTq_15 : TC q_15 := by rw [eq_15]; exact sa_21 i_13
    have hFq_15 : cFr [19, 21] [(18, 1)] q q_15 := by rw [eq_15]; exact hFq_11.i (by decide)
    refine dOk_L (fun q_16 eq_16 => ?_)
    have hTq_16 : TC q_16 := by rw [eq_16]; exact sa_21 hTq_15
    have hFq_16 : cFr [19, 21] [(18, 1)] q q_16 := by rw [eq_16]; exact hFq_15.i (by decide)
    refine dOk_L (fun q_17 eq_17 => ?_)
    have hTq_17 : TC q_17 := by rw [eq_17]; exact sa_21 hTq_16
    have hFq_17 : cFr [19, 21] [(18, 1)] q q_17 := by rw [eq_17]; exact hFq_16.i (by decide)
    refine dOk_G (dg_ok (show 0 ≤ Int32.toInt p2 by omega) (show Int32.toInt p2 < ((6 : Nat) : Int) by omega)) ?_
    have n_18 : ((Int32.toNatClampNeg p2 : Nat) : Int) = Int32.toInt p2 := cl_eq (by omega)
    refine dOk_L (fun v_19 ev_19 => ?_)
    have f_20 : 0 ≤ Int32.toInt v_19 ∧ Int32.toInt v_19 ≤ 1 := by rw [ev_19]; exact rg_4 hTq_17 _
    refine dOk_L (fun q_21 eq_21 => ?_)
    have hTq_21 : TC q_21 := by rw [eq_21]; exact sa_21 hTq_17
    have hFq_21 : cFr [19, 21] [(18, 1)] q q_21 := by rw [eq_21]; exact hFq_17.i (by decide)
    refine dOk_G (dg_ok (show 0 ≤ Int32.toInt p2 by omega) (show Int32.toInt p2 < ((6 : Nat) : Int) by omega)) ?_
    refine dOk_L (fun v_22 ev_22 => ?_)
    have f_23 : 0 ≤ Int32.toInt v_22 ∧ Int32.toInt v_22 ≤ 7 := by rw [ev_22]; exact rg_3 hTq_21 _
    refine dOk_L (fun q_24 eq_24 => ?_)
    have hTq_24 : TC q_24 := by rw [eq_24]; exact sa_21 hTq_21
    have hFq_24 : cFr [19, 21] [(18, 1)] q q_24 := by rw [eq_24]; exact hFq_21.i (by decide)
    refine dOk_L (fun q_25 eq_25 => ?_)
    have hTq_25 : TC q_25 := by rw [eq_25]; exact sa_21 hTq_24
    have hFq_25 : cFr [19, 21] [(18, 1)] q q_25 := by rw [eq_25]; exact hFq_24.i (by decide)
    refine dOk_B (ok_X1_anyHolds_s20 q_25 2 hTq_25) (fun r_26 q_27 h_28 => ?_)
    replace h_28 : (TC q_27) ∧ (cFr [19] [(18, 1)] q_25 q_27) ∧ ((Int32.toInt r_26 = 0 ∨ Int32.toInt r_26 = 1)) := h_28
    obtain ⟨i_29, i_30, i_31⟩ := h_28
    have hFq_27 : cFr [19, 21] [(18, 1)] q q_27 := hFq_25.t i_30 (by decide) (by decide)
    refine dOk_G (dbl_ok (show Int32.toInt r_26 = 0 ∨ Int32.toInt r_26 = 1 by omega)) ?_
    exact dOk_some (show (TC q_27) ∧ (cFr [19, 21] [(18, 1)] q q_27) ∧ ((Int32.toInt r_26 = 0 ∨ Int32.toInt r_26 = 1)) from ⟨i_29, hFq_27, by omega⟩)

set_option maxHeartbeats 4000000 in
set_option maxRecDepth 100000 in
theorem ok_X8_turnTop_s2_s20 (q : dK) (p1 : Int32) (hT : TC q) : dOk (zX8_turnTop_s2_s20 q p1) (fun (o : Int32 × dK) => (TC o.2) ∧ (cFr [3, 4, 19, 21] [(2, 3), (18, 1)] q o.2) ∧ (-3 ≤ Int32.toInt o.1 ∧ Int32.toInt o.1 ≤ 99)) := by
  unfold zX8_turnTop_s2_s20
  refine dOk_lt (A := Int32.toInt p1) (B := 1) rfl (by decide) (fun c_1 => ?_) (fun c_2 => ?_)
  · unfold zX8_turnTop_s2_s20_11
    exact dOk_some (show (TC q) ∧ (cFr [3, 4, 19, 21] [(2, 3), (18, 1)] q q) ∧ (-3 ≤ (-1 : Int) ∧ (-1 : Int) ≤ 99) from ⟨hT, (cFr.rf (q := q)), by omega⟩)
  · refine dOk_le (A := Int32.toInt p1) (B := 6) rfl (by decide) (fun c_3 => ?_) (fun c_4 => ?_)
    · have f_5 : 0 ≤ Int32.toInt (q.1 2 2) ∧ Int32.toInt (q.1 2 2) ≤ 6 := rg_2_2 hT
      refine dOk_lt (A := Int32.toInt (q.1 2 2)) (B := Int32.toInt p1) rfl rfl (fun c_6 => ?_) (fun c_7 => ?_)
      · unfold zX8_turnTop_s2_s20_30
        exact dOk_some (show (TC q) ∧ (cFr [3, 4, 19, 21] [(2, 3), (18, 1)] q q) ∧ (-3 ≤ (-3 : Int) ∧ (-3 : Int) ≤ 99) from ⟨hT, (cFr.rf (q := q)), by omega⟩)
      · refine dOk_B (ok_X1_bars_s20_s2 q p1 hT) (fun r_8 q_9 h_10 => ?_)
        replace h_10 : (TC q_9) ∧ (cFr [19, 21] [(18, 1)] q q_9) ∧ ((Int32.toInt r_8 = 0 ∨ Int32.toInt r_8 = 1)) := h_10
        obtain ⟨i_11, i_12, i_13⟩ := h_10
        have hFq_9 : cFr [3, 4, 19, 21] [(2, 3), (18, 1)] q q_9 := (cFr.rf (q := q)).t i_12 (by decide) (by decide)
        refine dOk_eq (A := Int32.toInt r_8) (B := 0) rfl (by decide) (fun c_14z c_14 => ?_) (fun c_15z c_15 => ?_)
        · refine dOk_B (ok_X1_payOf_s20_s2 q_9 p1 i_11 (show 0 ≤ Int32.toInt p1 ∧ Int32.toInt p1 ≤ 99 by omega)) (fun r_17 q_18 h_19 => ?_)
          replace h_19 : (TC q_18) ∧ (cFr [19, 21] [(18, 1)] q_9 q_18) ∧ (0 ≤ Int32.toInt r_17 ∧ Int32.toInt r_17 ≤ 99) := h_19
          obtain ⟨i_20, i_21, i_22⟩ := h_19
          have hFq_18 : cFr [3, 4, 19, 21] [(2, 3), (18, 1)] q q_18 := hFq_9.t i_21 (by decide) (by decide)
          unfold zX8_turnTop_s2_s20_48
          refine dFix_ok (fun (a : dK × Int32 × Int32 × Int32 × Int32) => (TC a.1) ∧ (cFr [3, 4] [] q_18 a.1) ∧ (a.2.1 = p1) ∧ (a.2.2.1 = r_17) ∧ (0 ≤ Int32.toInt a.2.2.2.1) ∧ (Int32.toInt a.2.2.2.1 ≤ 6) ∧ (-1 ≤ Int32.toInt a.2.2.2.2) ∧ (Int32.toInt a.2.2.2.2 ≤ 5)) (fun (a : dK × Int32 × Int32 × Int32 × Int32) => (Int32.toInt a.2.2.2.2 - Int32.toInt a.2.2.2.1 + 8).toNat) ?_ _ ?_ _ (dF_gt ?_)
          · intro a ha k_24 hk_23
            obtain ⟨q_25, x1_26, x3_27, x4_28, x5_29⟩ := a
            replace ha : (TC q_25) ∧ (cFr [3, 4] [] q_18 q_25) ∧ (x1_26 = p1) ∧ (x3_27 = r_17) ∧ (0 ≤ Int32.toInt x4_28) ∧ (Int32.toInt x4_28 ≤ 6) ∧ (-1 ≤ Int32.toInt x5_29) ∧ (Int32.toInt x5_29 ≤ 5) := ha
            obtain ⟨a_30, a_31, a_32, a_33, a_34, a_35, a_36, a_37⟩ := ha
            show dOk (zX8_turnTop_s2_s20_48b  (fun q x1 x3 x4 x5 => k_24 (q, x1, x3, x4, x5)) q_25 x1_26 x3_27 x4_28 x5_29) _
            unfold zX8_turnTop_s2_s20_48b
            have hFq_25 : cFr [3, 4, 19, 21] [(2, 3), (18, 1)] q q_25 := hFq_18.t a_31 (by decide) (by decide)
            subst x1_26
            subst x3_27
            refine dOk_le (A := Int32.toInt x5_29) (B := Int32.toInt x4_28) rfl rfl (fun c_38 => ?_) (fun c_39 => ?_)
            · unfold zX8_turnTop_s2_s20_75
              refine dFix_ok (fun (a : dK × Int32 × Int32 × Int32) => (TC a.1) ∧ (cFr [4] [] q_25 a.1) ∧ (a.2.1 = p1) ∧ (a.2.2.1 = r_17) ∧ (0 ≤ Int32.toInt a.2.2.2) ∧ (Int32.toInt a.2.2.2 ≤ 6)) (fun (a : dK × Int32 × Int32 × Int32) => (6 - Int32.toInt a.2.2.2).toNat) ?_ _ ?_ _ (dF_gt ?_)
              · intro a ha k_41 hk_40
                obtain ⟨q_42, x1_43, x3_44, x4_45⟩ := a
                replace ha : (TC q_42) ∧ (cFr [4] [] q_25 q_42) ∧ (x1_43 = p1) ∧ (x3_44 = r_17) ∧ (0 ≤ Int32.toInt x4_45) ∧ (Int32.toInt x4_45 ≤ 6) := ha
                obtain ⟨a_46, a_47, a_48, a_49, a_50, a_51⟩ := ha
                show dOk (zX8_turnTop_s2_s20_75b  (fun q x1 x3 x4 => k_41 (q, x1, x3, x4)) q_42 x1_43 x3_44 x4_45) _
                unfold zX8_turnTop_s2_s20_75b
                have hFq_42 : cFr [3, 4, 19, 21] [(2, 3), (18, 1)] q q_42 := hFq_25.t a_47 (by decide) (by decide)
                subst x1_43
                subst x3_44
                refine dOk_le (A := Int32.toInt p1) (B := Int32.toInt x4_45) rfl rfl (fun c_52 => ?_) (fun c_53 => ?_)
                · refine dOk_L (fun q_54 eq_54 => ?_)
                  have f_55 : 0 ≤ Int32.toInt (q_42.1 2 3) ∧ Int32.toInt (q_42.1 2 3) ≤ 16383 := rg_2_3 a_46
                  have f_56 : 0 ≤ Int32.toInt (q_25.1 2 3) ∧ Int32.toInt (q_25.1 2 3) ≤ 16383 := rg_2_3 a_30
                  have f_57 : 0 ≤ Int32.toInt (q_18.1 2 3) ∧ Int32.toInt (q_18.1 2 3) ≤ 16383 := rg_2_3 i_20
                  have f_58 : 0 ≤ Int32.toInt (q_9.1 2 3) ∧ Int32.toInt (q_9.1 2 3) ≤ 16383 := rg_2_3 i_11
                  have f_59 : 0 ≤ Int32.toInt (q.1 2 3) ∧ Int32.toInt (q.1 2 3) ≤ 16383 := rg_2_3 hT
                  have w_60 : Int32.toInt (q_9.1 2 3) = Int32.toInt (q.1 2 3) := by rw [i_12.1 2 3 (by decide) (by decide)]
                  have w_61 : Int32.toInt (q_18.1 2 3) = Int32.toInt (q_9.1 2 3) := by rw [i_21.1 2 3 (by decide) (by decide)]
                  have w_62 : Int32.toInt (q_25.1 2 3) = Int32.toInt (q_18.1 2 3) := by rw [a_31.1 2 3 (by decide) (by decide)]
                  have w_63 : Int32.toInt (q_42.1 2 3) = Int32.toInt (q_25.1 2 3) := by rw [a_47.1 2 3 (by decide) (by decide)]
                  try have t_64 : Int32.toInt (q_42.1 2 3 + r_17) = Int32.toInt (q_42.1 2 3) + Int32.toInt r_17 := ti_add rfl rfl (by omega) (by omega)
                  have t_65 : Int32.toInt (mnI 9999 (q_42.1 2 3 + r_17)) ≤ 9999 ∧ Int32.toInt (mnI 9999 (q_42.1 2 3 + r_17)) ≤ Int32.toInt (q_42.1 2 3 + r_17) ∧ (Int32.toInt (mnI 9999 (q_42.1 2 3 + r_17)) = 9999 ∨ Int32.toInt (mnI 9999 (q_42.1 2 3 + r_17)) = Int32.toInt (q_42.1 2 3 + r_17)) := mn_k (by decide)
                  have hTq_54 : TC q_54 := by rw [eq_54]; exact st_2_3 a_46 (show (0 : Int) ≤ Int32.toInt (mnI 9999 (q_42.1 2 3 + r_17)) by omega) (show Int32.toInt (mnI 9999 (q_42.1 2 3 + r_17)) ≤ (16383 : Int) by omega)
                  have hFq_54 : cFr [3, 4, 19, 21] [(2, 3), (18, 1)] q q_54 := by rw [eq_54]; exact hFq_42.f (by decide)
                  exact dOk_some (show (TC q_54) ∧ (cFr [3, 4, 19, 21] [(2, 3), (18, 1)] q q_54) ∧ (-3 ≤ Int32.toInt r_17 ∧ Int32.toInt r_17 ≤ 99) from ⟨hTq_54, hFq_54, by omega⟩)
                · refine dOk_G (dg_ok (show 0 ≤ Int32.toInt x4_45 by omega) (show Int32.toInt x4_45 < ((6 : Nat) : Int) by omega)) ?_
                  have n_66 : ((Int32.toNatClampNeg x4_45 : Nat) : Int) = Int32.toInt x4_45 := cl_eq (by omega)
                  refine dOk_L (fun v_67 ev_67 => ?_)
                  have f_68 : 0 ≤ Int32.toInt v_67 ∧ Int32.toInt v_67 ≤ 1 := by rw [ev_67]; exact rg_4 a_46 _
                  refine dOk_G (dg_ok (show 0 ≤ Int32.toInt x4_45 by omega) (show Int32.toInt x4_45 < ((6 : Nat) : Int) by omega)) ?_
                  refine dOk_L (fun q_69 eq_69 => ?_)
                  try have t_70 : Int32.toInt (1 - v_67) = 1 - Int32.toInt v_67 := ti_sub (by decide) rfl (by omega) (by omega)
                  have hTq_69 : TC q_69 := by rw [eq_69]; exact st_4 a_46 (show (0 : Int) ≤ Int32.toInt (1 - v_67) by omega) (show Int32.toInt (1 - v_67) ≤ (1 : Int) by omega)
                  have hFq_69 : cFr [3, 4, 19, 21] [(2, 3), (18, 1)] q q_69 := by rw [eq_69]; exact hFq_42.i (by decide)
                  try have t_71 : Int32.toInt (x4_45 + 1) = Int32.toInt x4_45 + 1 := ti_add rfl (by decide) (by omega) (by omega)
                  exact hk_40 (q_69, p1, r_17, (x4_45 + 1)) (show (TC q_69) ∧ (cFr [4] [] q_25 q_69) ∧ (p1 = p1) ∧ (r_17 = r_17) ∧ (0 ≤ Int32.toInt (x4_45 + 1)) ∧ (Int32.toInt (x4_45 + 1) ≤ 6) from ⟨hTq_69, (by rw [eq_69]; exact (((cFr.rf : cFr [4] [] q_25 q_25).t a_47 (by decide) (by decide)) : cFr [4] [] q_25 q_42).i (by decide)), rfl, rfl, by omega, by omega⟩) (show (6 - Int32.toInt (x4_45 + 1)).toNat < (6 - Int32.toInt x4_45).toNat by omega)
              · exact (show (TC q_25) ∧ (cFr [4] [] q_25 q_25) ∧ (p1 = p1) ∧ (r_17 = r_17) ∧ (0 ≤ (0 : Int)) ∧ ((0 : Int) ≤ 6) from ⟨a_30, cFr.rf, rfl, rfl, by omega, by omega⟩)
              · show (6 - (0 : Int)).toNat < 1000000000000
                omega
            · refine dOk_V (ok_X8_exchange_s2 q_25 x4_28 x5_29 a_30 (show 0 ≤ Int32.toInt x4_28 ∧ Int32.toInt x4_28 ≤ 5 by omega) (show 0 ≤ Int32.toInt x5_29 ∧ Int32.toInt x5_29 ≤ 5 by omega)) (fun q_72 h_73 => ?_)
              replace h_73 : (TC q_72) ∧ (cFr [3, 4] [] q_25 q_72) := h_73
              obtain ⟨i_74, i_75⟩ := h_73
              have hFq_72 : cFr [3, 4, 19, 21] [(2, 3), (18, 1)] q q_72 := hFq_25.t i_75 (by decide) (by decide)
              try have t_76 : Int32.toInt (x4_28 + 1) = Int32.toInt x4_28 + 1 := ti_add rfl (by decide) (by omega) (by omega)
              try have t_77 : Int32.toInt (x5_29 + (-1)) = Int32.toInt x5_29 + (-1) := ti_add rfl (by decide) (by omega) (by omega)
              exact hk_23 (q_72, p1, r_17, (x4_28 + 1), (x5_29 + (-1))) (show (TC q_72) ∧ (cFr [3, 4] [] q_18 q_72) ∧ (p1 = p1) ∧ (r_17 = r_17) ∧ (0 ≤ Int32.toInt (x4_28 + 1)) ∧ (Int32.toInt (x4_28 + 1) ≤ 6) ∧ (-1 ≤ Int32.toInt (x5_29 + (-1))) ∧ (Int32.toInt (x5_29 + (-1)) ≤ 5) from ⟨i_74, ((((cFr.rf : cFr [3, 4] [] q_18 q_18).t a_31 (by decide) (by decide)) : cFr [3, 4] [] q_18 q_25).t i_75 (by decide) (by decide)), rfl, rfl, by omega, by omega, by omega, by omega⟩) (show (Int32.toInt (x5_29 + (-1)) - Int32.toInt (x4_28 + 1) + 8).toNat < (Int32.toInt x5_29 - Int32.toInt x4_28 + 8).toNat by omega)
          · try have t_78 : Int32.toInt (p1 - 1) = Int32.toInt p1 - 1 := ti_sub rfl (by decide) (by omega) (by omega)
            exact (show (TC q_18) ∧ (cFr [3, 4] [] q_18 q_18) ∧ (p1 = p1) ∧ (r_17 = r_17) ∧ (0 ≤ (0 : Int)) ∧ ((0 : Int) ≤ 6) ∧ (-1 ≤ Int32.toInt (p1 - 1)) ∧ (Int32.toInt (p1 - 1) ≤ 5) from ⟨i_20, cFr.rf, rfl, rfl, by omega, by omega, by omega, by omega⟩)
          · try have t_79 : Int32.toInt (p1 - 1) = Int32.toInt p1 - 1 := ti_sub rfl (by decide) (by omega) (by omega)
            show (Int32.toInt (p1 - 1) - (0 : Int) + 8).toNat < 1000000000000
            omega
        · unfold zX8_turnTop_s2_s20_30
          exact dOk_some (show (TC q_9) ∧ (cFr [3, 4, 19, 21] [(2, 3), (18, 1)] q q_9) ∧ (-3 ≤ (-3 : Int) ∧ (-3 : Int) ≤ 99) from ⟨i_11, hFq_9, by omega⟩)
    · unfold zX8_turnTop_s2_s20_11
      exact dOk_some (show (TC q) ∧ (cFr [3, 4, 19, 21] [(2, 3), (18, 1)] q q) ∧ (-3 ≤ (-1 : Int) ∧ (-1 : Int) ≤ 99) from ⟨hT, (cFr.rf (q := q)), by omega⟩)
