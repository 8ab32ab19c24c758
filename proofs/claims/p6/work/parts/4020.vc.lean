set_option maxHeartbeats 4000000 in
set_option maxRecDepth 100000 in
theorem ok_mostAlike (q : dS) (p1 : Int32) (p2 : Int32) (hT : TS q) (hp0 : 0 ≤ Int32.toInt p2 ∧ Int32.toInt p2 < Int32.toInt (q.1 2 29)) : dOk (zX10_mostAlike q p1 p2) (fun (o : Int32 × dS) => (TS o.2) ∧ (dFr [25] [] q o.2)) := by
  unfold zX10_mostAlike
  unfold zX10_mostAlike_2
  refine dFix_ok (fun (a : dS × Int32 × Int32 × Int32) => (TS a.1) ∧ (dFr [25] [] q a.1) ∧ (a.2.1 = p1) ∧ (a.2.2.1 = p2) ∧ (0 ≤ Int32.toInt a.2.2.2) ∧ (Int32.toInt a.2.2.2 ≤ 6)) (fun (a : dS × Int32 × Int32 × Int32) => (6 - Int32.toInt a.2.2.2).toNat) ?_ _ ?_ _ (dF_gt ?_)
  · intro a ha k_2 hk_1
    obtain ⟨q_3, x1_4, x2_5, x3_6⟩ := a
    replace ha : (TS q_3) ∧ (dFr [25] [] q q_3) ∧ (x1_4 = p1) ∧ (x2_5 = p2) ∧ (0 ≤ Int32.toInt x3_6) ∧ (Int32.toInt x3_6 ≤ 6) := ha
    obtain ⟨a_7, a_8, a_9, a_10, a_11, a_12⟩ := ha
    show dOk (zX10_mostAlike_2b  (fun q x1 x2 x3 => k_2 (q, x1, x2, x3)) q_3 x1_4 x2_5 x3_6) _
    unfold zX10_mostAlike_2b
    have hFq_3 : dFr [25] [] q q_3 := (dFr.rf (q := q)).t a_8 (by decide) (by decide)
    subst x1_4
    subst x2_5
    refine dOk_le (A := 6) (B := Int32.toInt x3_6) (by decide) rfl (fun c_13 => ?_) (fun c_14 => ?_)
    · unfold zX10_mostAlike_26
      refine dFix_ok (fun (a : dS × Int32 × Int32 × Int32 × Int32) => (TS a.1) ∧ (dFr [25] [] q_3 a.1) ∧ (a.2.1 = p1) ∧ (a.2.2.1 = p2) ∧ (1 ≤ Int32.toInt a.2.2.2.2) ∧ (Int32.toInt a.2.2.2.2 ≤ 7)) (fun (a : dS × Int32 × Int32 × Int32 × Int32) => (7 - Int32.toInt a.2.2.2.2).toNat) ?_ _ ?_ _ (dF_gt ?_)
      · intro a ha k_16 hk_15
        obtain ⟨q_17, x1_18, x2_19, x3_20, x4_21⟩ := a
        replace ha : (TS q_17) ∧ (dFr [25] [] q_3 q_17) ∧ (x1_18 = p1) ∧ (x2_19 = p2) ∧ (1 ≤ Int32.toInt x4_21) ∧ (Int32.toInt x4_21 ≤ 7) := ha
        obtain ⟨a_22, a_23, a_24, a_25, a_26, a_27⟩ := ha
        show dOk (zX10_mostAlike_26b  (fun q x1 x2 x3 x4 => k_16 (q, x1, x2, x3, x4)) q_17 x1_18 x2_19 x3_20 x4_21) _
        unfold zX10_mostAlike_26b
        have hFq_17 : dFr [25] [] q q_17 := hFq_3.t a_23 (by decide) (by decide)
        subst x1_18
        subst x2_19
        refine dOk_B (ok_size q_17 a_22) (fun r_28 q_29 h_30 => ?_)
        replace h_30 : (q_29 = q_17) ∧ (Int32.toInt r_28 = Int32.toInt (q_17.1 2 29)) ∧ (0 ≤ Int32.toInt r_28 ∧ Int32.toInt r_28 ≤ 6) := h_30
        obtain ⟨i_31, i_32, i_33⟩ := h_30
        subst q_29
        have f_34 : 0 ≤ Int32.toInt (q_17.1 2 29) ∧ Int32.toInt (q_17.1 2 29) ≤ 6 := a_22.1 2 29
        have f_35 : 0 ≤ Int32.toInt (q_3.1 2 29) ∧ Int32.toInt (q_3.1 2 29) ≤ 6 := a_7.1 2 29
        have f_36 : 0 ≤ Int32.toInt (q.1 2 29) ∧ Int32.toInt (q.1 2 29) ≤ 6 := hT.1 2 29
        have w_37 : Int32.toInt (q_3.1 2 29) = Int32.toInt (q.1 2 29) := by rw [a_8.1 2 (by decide) (by decide)]
        have w_38 : Int32.toInt (q_17.1 2 29) = Int32.toInt (q_3.1 2 29) := by rw [a_23.1 2 (by decide) (by decide)]
        refine dOk_lt (A := Int32.toInt r_28) (B := Int32.toInt x4_21) rfl rfl (fun c_39 => ?_) (fun c_40 => ?_)
        · exact dOk_some (show (TS q_17) ∧ (dFr [25] [] q q_17) from ⟨a_22, hFq_17⟩)
        · refine dOk_V (ok_isIn p1 x4_21) (fun r_41 h_42 => ?_)
          replace h_42 : ((Int32.toInt r_41 = 0 ∨ Int32.toInt r_41 = 1)) := h_42
          have i_43 := h_42
          refine dOk_eq (A := Int32.toInt r_41) (B := 0) rfl (by decide) (fun c_44z c_44 => ?_) (fun c_45z c_45 => ?_)
          · unfold zX10_mostAlike_79
            try have t_47 : Int32.toInt (x4_21 + 1) = Int32.toInt x4_21 + 1 := ti_add rfl (by decide) (by omega) (by omega)
            exact hk_15 (q_17, p1, p2, x3_20, (x4_21 + 1)) (show (TS q_17) ∧ (dFr [25] [] q_3 q_17) ∧ (p1 = p1) ∧ (p2 = p2) ∧ (1 ≤ Int32.toInt (x4_21 + 1)) ∧ (Int32.toInt (x4_21 + 1) ≤ 7) from ⟨a_22, ((dFr.rf : dFr [25] [] q_3 q_3).t a_23 (by decide) (by decide)), rfl, rfl, by omega, by omega⟩) (show (7 - Int32.toInt (x4_21 + 1)).toNat < (7 - Int32.toInt x4_21).toNat by omega)
          · refine dOk_B (ok_rankBehind q_17 x4_21 p2 a_22 (show 1 ≤ Int32.toInt x4_21 ∧ Int32.toInt x4_21 ≤ Int32.toInt (q_17.1 2 29) by omega)) (fun r_48 q_49 h_50 => ?_)
            replace h_50 : (q_49 = q_17) ∧ ((0 ≤ Int32.toInt p2 ∧ Int32.toInt p2 < Int32.toInt (q_17.1 2 29) ∧ 0 ≤ Int32.toInt r_48 ∧ Int32.toInt r_48 ≤ 5) ∨ ((Int32.toInt p2 < 0 ∨ Int32.toInt (q_17.1 2 29) ≤ Int32.toInt p2) ∧ Int32.toInt r_48 = -1)) := h_50
            obtain ⟨i_51, i_52⟩ := h_50
            subst q_49
            refine dOk_G (dg_ok (show 0 ≤ Int32.toInt r_48 by omega) (show Int32.toInt r_48 < ((6 : Nat) : Int) by omega)) ?_
            have n_53 : ((Int32.toNatClampNeg r_48 : Nat) : Int) = Int32.toInt r_48 := cl_eq (by omega)
            refine dOk_L (fun v_54 ev_54 => ?_)
            refine dOk_G (dg_ok (show 0 ≤ Int32.toInt r_48 by omega) (show Int32.toInt r_48 < ((6 : Nat) : Int) by omega)) ?_
            refine dOk_L (fun q_55 eq_55 => ?_)
            have hTq_55 : TS q_55 := by rw [eq_55]; exact ts_any a_22 rfl
            have hFq_55 : dFr [25] [] q q_55 := by rw [eq_55]; exact hFq_17.i (by decide) (by decide)
            refine dOk_G (dg_ok (show 0 ≤ Int32.toInt r_48 by omega) (show Int32.toInt r_48 < ((6 : Nat) : Int) by omega)) ?_
            refine dOk_L (fun v_56 ev_56 => ?_)
            refine dOk_V (ok_greater x3_20 v_56) (fun r_57 h_58 => ?_)
            replace h_58 : (Int32.toInt x3_20 ≤ Int32.toInt r_57 ∧ Int32.toInt v_56 ≤ Int32.toInt r_57 ∧ (Int32.toInt r_57 = Int32.toInt x3_20 ∨ Int32.toInt r_57 = Int32.toInt v_56)) := h_58
            have i_59 := h_58
            unfold zX10_mostAlike_79
            try have t_60 : Int32.toInt (x4_21 + 1) = Int32.toInt x4_21 + 1 := ti_add rfl (by decide) (by omega) (by omega)
            exact hk_15 (q_55, p1, p2, r_57, (x4_21 + 1)) (show (TS q_55) ∧ (dFr [25] [] q_3 q_55) ∧ (p1 = p1) ∧ (p2 = p2) ∧ (1 ≤ Int32.toInt (x4_21 + 1)) ∧ (Int32.toInt (x4_21 + 1) ≤ 7) from ⟨hTq_55, (by rw [eq_55]; exact (((dFr.rf : dFr [25] [] q_3 q_3).t a_23 (by decide) (by decide)) : dFr [25] [] q_3 q_17).i (by decide) (by decide)), rfl, rfl, by omega, by omega⟩) (show (7 - Int32.toInt (x4_21 + 1)).toNat < (7 - Int32.toInt x4_21).toNat by omega)
      · exact (show (TS q_3) ∧ (dFr [25] [] q_3 q_3) ∧ (p1 = p1) ∧ (p2 = p2) ∧ (1 ≤ (1 : Int)) ∧ ((1 : Int) ≤ 7) from ⟨a_7, dFr.rf, rfl, rfl, by omega, by omega⟩)
      · show (7 - (1 : Int)).toNat < 1000000000000
        omega
    · refine dOk_G (dg_ok (show 0 ≤ Int32.toInt x3_6 by omega) (show Int32.toInt x3_6 < ((6 : Nat) : Int) by omega)) ?_
      have n_61 : ((Int32.toNatClampNeg x3_6 : Nat) : Int) = Int32.toInt x3_6 := cl_eq (by omega)
      refine dOk_L (fun q_62 eq_62 => ?_)
      have hTq_62 : TS q_62 := by rw [eq_62]; exact ts_any a_7 rfl
      have hFq_62 : dFr [25] [] q q_62 := by rw [eq_62]; exact hFq_3.i (by decide) (by decide)
      try have t_63 : Int32.toInt (x3_6 + 1) = Int32.toInt x3_6 + 1 := ti_add rfl (by decide) (by omega) (by omega)
      exact hk_1 (q_62, p1, p2, (x3_6 + 1)) (show (TS q_62) ∧ (dFr [25] [] q q_62) ∧ (p1 = p1) ∧ (p2 = p2) ∧ (0 ≤ Int32.toInt (x3_6 + 1)) ∧ (Int32.toInt (x3_6 + 1) ≤ 6) from ⟨hTq_62, (by rw [eq_62]; exact (((dFr.rf : dFr [25] [] q q).t a_8 (by decide) (by decide)) : dFr [25] [] q q_3).i (by decide) (by decide)), rfl, rfl, by omega, by omega⟩) (show (6 - Int32.toInt (x3_6 + 1)).toNat < (6 - Int32.toInt x3_6).toNat by omega)
  · exact (show (TS q) ∧ (dFr [25] [] q q) ∧ (p1 = p1) ∧ (p2 = p2) ∧ (0 ≤ (0 : Int)) ∧ ((0 : Int) ≤ 6) from ⟨hT, dFr.rf, rfl, rfl, by omega, by omega⟩)
  · show (6 - (0 : Int)).toNat < 1000000000000
    omega

set_option maxHeartbeats 4000000 in
set_option maxRecDepth 100000 in
theorem ok_few (q : dS) (p1 : Int32) (p2 : Int32) (hT : TS q) : dOk (zX10_few q p1 p2) (fun (o : Int64 × dS) => (TS o.2) ∧ (dFr [] [] q o.2)) := by
  unfold zX10_few
  refine dOk_V (ok_lies p1 1 20) (fun r_1 h_2 => ?_)
  replace h_2 : ((Int32.toInt r_1 = 1 ∧ (1 : Int) ≤ Int32.toInt p1 ∧ Int32.toInt p1 ≤ (20 : Int)) ∨ (Int32.toInt r_1 = 0 ∧ (Int32.toInt p1 < (1 : Int) ∨ (20 : Int) < Int32.toInt p1))) := h_2
  have i_3 := h_2
  refine dOk_eq (A := Int32.toInt r_1) (B := 0) rfl (by decide) (fun c_4z c_4 => ?_) (fun c_5z c_5 => ?_)
  · unfold zX10_few_20
    exact dOk_some (show (TS q) ∧ (dFr [] [] q q) from ⟨hT, (dFr.rf (q := q))⟩)
  · refine dOk_V (ok_lies p2 0 99) (fun r_7 h_8 => ?_)
    replace h_8 : ((Int32.toInt r_7 = 1 ∧ (0 : Int) ≤ Int32.toInt p2 ∧ Int32.toInt p2 ≤ (99 : Int)) ∨ (Int32.toInt r_7 = 0 ∧ (Int32.toInt p2 < (0 : Int) ∨ (99 : Int) < Int32.toInt p2))) := h_8
    have i_9 := h_8
    refine dOk_eq (A := Int32.toInt r_7) (B := 0) rfl (by decide) (fun c_10z c_10 => ?_) (fun c_11z c_11 => ?_)
    · unfold zX10_few_20
      exact dOk_some (show (TS q) ∧ (dFr [] [] q q) from ⟨hT, (dFr.rf (q := q))⟩)
    · unfold zX10_few_26
      refine dFix_ok (fun (a : dS × Int32 × Int32 × Int32) => (TS a.1) ∧ (dFr [] [] q a.1) ∧ (a.2.1 = p1) ∧ (a.2.2.1 = p2) ∧ (0 ≤ Int32.toInt a.2.2.2) ∧ (Int32.toInt a.2.2.2 ≤ 21)) (fun (a : dS × Int32 × Int32 × Int32) => (21 - Int32.toInt a.2.2.2).toNat) ?_ _ ?_ _ (dF_gt ?_)
      · intro a ha k_14 hk_13
        obtain ⟨q_15, x1_16, x2_17, x3_18⟩ := a
        replace ha : (TS q_15) ∧ (dFr [] [] q q_15) ∧ (x1_16 = p1) ∧ (x2_17 = p2) ∧ (0 ≤ Int32.toInt x3_18) ∧ (Int32.toInt x3_18 ≤ 21) := ha
        obtain ⟨a_19, a_20, a_21, a_22, a_23, a_24⟩ := ha
        show dOk (zX10_few_26b  (fun q x1 x2 x3 => k_14 (q, x1, x2, x3)) q_15 x1_16 x2_17 x3_18) _
        unfold zX10_few_26b
        have hFq_15 : dFr [] [] q q_15 := (dFr.rf (q := q)).t a_20 (by decide) (by decide)
        subst x1_16
        subst x2_17
        refine dOk_lt (A := 20) (B := Int32.toInt x3_18) (by decide) rfl (fun c_25 => ?_) (fun c_26 => ?_)
        · unfold zX10_few_57
          refine dFix_ok (fun (a : dS × Int32 × Int32 × Int32) => (TS a.1) ∧ (dFr [] [] q_15 a.1) ∧ (a.2.1 = p1) ∧ (a.2.2.1 = p2) ∧ (0 ≤ Int32.toInt a.2.2.2) ∧ (Int32.toInt a.2.2.2 ≤ 99)) (fun (a : dS × Int32 × Int32 × Int32) => (99 - Int32.toInt a.2.2.2).toNat) ?_ _ ?_ _ (dF_gt ?_)
          · intro a ha k_28 hk_27
            obtain ⟨q_29, x1_30, x2_31, x3_32⟩ := a
            replace ha : (TS q_29) ∧ (dFr [] [] q_15 q_29) ∧ (x1_30 = p1) ∧ (x2_31 = p2) ∧ (0 ≤ Int32.toInt x3_32) ∧ (Int32.toInt x3_32 ≤ 99) := ha
            obtain ⟨a_33, a_34, a_35, a_36, a_37, a_38⟩ := ha
            show dOk (zX10_few_57b  (fun q x1 x2 x3 => k_28 (q, x1, x2, x3)) q_29 x1_30 x2_31 x3_32) _
            unfold zX10_few_57b
            have hFq_29 : dFr [] [] q q_29 := hFq_15.t a_34 (by decide) (by decide)
            subst x1_30
            subst x2_31
            refine dOk_le (A := Int32.toInt p2) (B := Int32.toInt x3_32) rfl rfl (fun c_39 => ?_) (fun c_40 => ?_)
            · unfold zX10_few_151
              refine dFix_ok (fun (a : dS × Int32 × Int64 × Int32) => (a.1 = q_29) ∧ (a.2.1 = p1) ∧ (0 ≤ Int32.toInt a.2.2.2) ∧ (Int32.toInt a.2.2.2 ≤ 20)) (fun (a : dS × Int32 × Int64 × Int32) => (20 - Int32.toInt a.2.2.2).toNat) ?_ _ ?_ _ (dF_gt ?_)
              · intro a ha k_42 hk_41
                obtain ⟨q_43, x1_44, x3_45, x5_46⟩ := a
                replace ha : (q_43 = q_29) ∧ (x1_44 = p1) ∧ (0 ≤ Int32.toInt x5_46) ∧ (Int32.toInt x5_46 ≤ 20) := ha
                obtain ⟨a_47, a_48, a_49, a_50⟩ := ha
                show dOk (zX10_few_151b  (fun q x1 x3 x5 => k_42 (q, x1, x3, x5)) q_43 x1_44 x3_45 x5_46) _
                unfold zX10_few_151b
                subst q_43
                subst x1_44
                refine dOk_le (A := Int32.toInt p1) (B := Int32.toInt x5_46) rfl rfl (fun c_51 => ?_) (fun c_52 => ?_)
                · exact dOk_some (show (TS q_29) ∧ (dFr [] [] q q_29) from ⟨a_33, hFq_29⟩)
                · refine dOk_G (dg_ok (show 0 ≤ Int32.toInt x5_46 by omega) (show Int32.toInt x5_46 < ((21 : Nat) : Int) by omega)) ?_
                  have n_53 : ((Int32.toNatClampNeg x5_46 : Nat) : Int) = Int32.toInt x5_46 := cl_eq (by omega)
                  refine dOk_L (fun v_54 ev_54 => ?_)
                  try have t_55 : Int32.toInt (x5_46 + 1) = Int32.toInt x5_46 + 1 := ti_add rfl (by decide) (by omega) (by omega)
                  exact hk_41 (q_29, p1, (x3_45 + v_54 : Int64), (x5_46 + 1)) (show (q_29 = q_29) ∧ (p1 = p1) ∧ (0 ≤ Int32.toInt (x5_46 + 1)) ∧ (Int32.toInt (x5_46 + 1) ≤ 20) from ⟨rfl, rfl, by omega, by omega⟩) (show (20 - Int32.toInt (x5_46 + 1)).toNat < (20 - Int32.toInt x5_46).toNat by omega)
              · exact (show (q_29 = q_29) ∧ (p1 = p1) ∧ (0 ≤ (0 : Int)) ∧ ((0 : Int) ≤ 20) from ⟨rfl, rfl, by omega, by omega⟩)
              · show (20 - (0 : Int)).toNat < 1000000000000
                omega
            · unfold zX10_few_67
              refine dFix_ok (fun (a : dS × Int32 × Int32 × Int32 × Int32) => (TS a.1) ∧ (dFr [] [] q_29 a.1) ∧ (a.2.1 = p1) ∧ (a.2.2.1 = p2) ∧ (a.2.2.2.1 = x3_32) ∧ (-1 ≤ Int32.toInt a.2.2.2.2) ∧ (Int32.toInt a.2.2.2.2 ≤ 19)) (fun (a : dS × Int32 × Int32 × Int32 × Int32) => (Int32.toInt a.2.2.2.2 + 1).toNat) ?_ _ ?_ _ (dF_gt ?_)
              · intro a ha k_57 hk_56
                obtain ⟨q_58, x1_59, x2_60, x3_61, x4_62⟩ := a
                replace ha : (TS q_58) ∧ (dFr [] [] q_29 q_58) ∧ (x1_59 = p1) ∧ (x2_60 = p2) ∧ (x3_61 = x3_32) ∧ (-1 ≤ Int32.toInt x4_62) ∧ (Int32.toInt x4_62 ≤ 19) := ha
                obtain ⟨a_63, a_64, a_65, a_66, a_67, a_68, a_69⟩ := ha
                show dOk (zX10_few_67b _ (fun q x1 x2 x3 x4 => k_57 (q, x1, x2, x3, x4)) q_58 x1_59 x2_60 x3_61 x4_62) _
                unfold zX10_few_67b
                have hFq_58 : dFr [] [] q q_58 := hFq_29.t a_64 (by decide) (by decide)
                subst x1_59
                subst x2_60
                subst x3_61
                refine dOk_lt (A := Int32.toInt x4_62) (B := 0) rfl (by decide) (fun c_70 => ?_) (fun c_71 => ?_)
                · try have t_72 : Int32.toInt (x3_32 + 1) = Int32.toInt x3_32 + 1 := ti_add rfl (by decide) (by omega) (by omega)
                  exact hk_27 (q_58, p1, p2, (x3_32 + 1)) (show (TS q_58) ∧ (dFr [] [] q_15 q_58) ∧ (p1 = p1) ∧ (p2 = p2) ∧ (0 ≤ Int32.toInt (x3_32 + 1)) ∧ (Int32.toInt (x3_32 + 1) ≤ 99) from ⟨a_63, ((((dFr.rf : dFr [] [] q_15 q_15).t a_34 (by decide) (by decide)) : dFr [] [] q_15 q_29).t a_64 (by decide) (by decide)), rfl, rfl, by omega, by omega⟩) (show (99 - Int32.toInt (x3_32 + 1)).toNat < (99 - Int32.toInt x3_32).toNat by omega)
                · try have t_73 : Int32.toInt (x4_62 + 1) = Int32.toInt x4_62 + 1 := ti_add rfl (by decide) (by omega) (by omega)
                  refine dOk_G (dg_ok (show 0 ≤ Int32.toInt (x4_62 + 1) by omega) (show Int32.toInt (x4_62 + 1) < ((21 : Nat) : Int) by omega)) ?_
                  have n_74 : ((Int32.toNatClampNeg (x4_62 + 1) : Nat) : Int) = Int32.toInt (x4_62 + 1) := cl_eq (by omega)
                  refine dOk_L (fun v_75 ev_75 => ?_)
                  refine dOk_G (dg_ok (show 0 ≤ Int32.toInt x4_62 by omega) (show Int32.toInt x4_62 < ((21 : Nat) : Int) by omega)) ?_
                  have n_76 : ((Int32.toNatClampNeg x4_62 : Nat) : Int) = Int32.toInt x4_62 := cl_eq (by omega)
                  refine dOk_L (fun v_77 ev_77 => ?_)
                  refine dOk_L (fun v_78 ev_78 => ?_)
                  refine dOk_G (dg_ok (show 0 ≤ Int32.toInt (x4_62 + 1) by omega) (show Int32.toInt (x4_62 + 1) < ((21 : Nat) : Int) by omega)) ?_
                  refine dOk_L (fun q_79 eq_79 => ?_)
                  have hTq_79 : TS q_79 := by rw [eq_79]; exact ts_l a_63
                  have hFq_79 : dFr [] [] q q_79 := by rw [eq_79]; exact hFq_58.l
                  refine dOk_G (dg_ok (show 0 ≤ Int32.toInt x4_62 by omega) (show Int32.toInt x4_62 < ((21 : Nat) : Int) by omega)) ?_
                  refine dOk_L (fun v_80 ev_80 => ?_)
                  refine dOk_L (fun v_81 ev_81 => ?_)
                  refine dOk_G (dg_ok (show 0 ≤ Int32.toInt x4_62 by omega) (show Int32.toInt x4_62 < ((21 : Nat) : Int) by omega)) ?_
                  refine dOk_L (fun q_82 eq_82 => ?_)
                  have hTq_82 : TS q_82 := by rw [eq_82]; exact ts_l hTq_79
                  have hFq_82 : dFr [] [] q q_82 := by rw [eq_82]; exact hFq_79.l
                  try have t_83 : Int32.toInt (x4_62 + (-1)) = Int32.toInt x4_62 + (-1) := ti_add rfl (by decide) (by omega) (by omega)
                  exact hk_56 (q_82, p1, p2, x3_32, (x4_62 + (-1))) (show (TS q_82) ∧ (dFr [] [] q_29 q_82) ∧ (p1 = p1) ∧ (p2 = p2) ∧ (x3_32 = x3_32) ∧ (-1 ≤ Int32.toInt (x4_62 + (-1))) ∧ (Int32.toInt (x4_62 + (-1)) ≤ 19) from ⟨hTq_82, (by rw [eq_82]; exact ((by rw [eq_79]; exact (((dFr.rf : dFr [] [] q_29 q_29).t a_64 (by decide) (by decide)) : dFr [] [] q_29 q_58).l) : dFr [] [] q_29 q_79).l), rfl, rfl, rfl, by omega, by omega⟩) (show (Int32.toInt (x4_62 + (-1)) + 1).toNat < (Int32.toInt x4_62 + 1).toNat by omega)
              · try have t_84 : Int32.toInt (p1 - 1) = Int32.toInt p1 - 1 := ti_sub rfl (by decide) (by omega) (by omega)
                exact (show (TS q_29) ∧ (dFr [] [] q_29 q_29) ∧ (p1 = p1) ∧ (p2 = p2) ∧ (x3_32 = x3_32) ∧ (-1 ≤ Int32.toInt (p1 - 1)) ∧ (Int32.toInt (p1 - 1) ≤ 19) from ⟨a_33, dFr.rf, rfl, rfl, rfl, by omega, by omega⟩)
              · try have t_85 : Int32.toInt (p1 - 1) = Int32.toInt p1 - 1 := ti_sub rfl (by decide) (by omega) (by omega)
                show (Int32.toInt (p1 - 1) + 1).toNat < 1000000000000
                omega
          · exact (show (TS q_15) ∧ (dFr [] [] q_15 q_15) ∧ (p1 = p1) ∧ (p2 = p2) ∧ (0 ≤ (0 : Int)) ∧ ((0 : Int) ≤ 99) from ⟨a_19, dFr.rf, rfl, rfl, by omega, by omega⟩)
          · show (99 - (0 : Int)).toNat < 1000000000000
            omega
        · refine dOk_eq (A := Int32.toInt x3_18) (B := 0) rfl (by decide) (fun c_86z c_86 => ?_) (fun c_87z c_87 => ?_)
          · unfold zX10_few_48
            refine dOk_G (dg_ok (show 0 ≤ Int32.toInt x3_18 by omega) (show Int32.toInt x3_18 < ((21 : Nat) : Int) by omega)) ?_
            have n_89 : ((Int32.toNatClampNeg x3_18 : Nat) : Int) = Int32.toInt x3_18 := cl_eq (by omega)
            refine dOk_L (fun q_90 eq_90 => ?_)
            have hTq_90 : TS q_90 := by rw [eq_90]; exact ts_l a_19
            have hFq_90 : dFr [] [] q q_90 := by rw [eq_90]; exact hFq_15.l
            try have t_91 : Int32.toInt (x3_18 + 1) = Int32.toInt x3_18 + 1 := ti_add rfl (by decide) (by omega) (by omega)
            exact hk_13 (q_90, p1, p2, (x3_18 + 1)) (show (TS q_90) ∧ (dFr [] [] q q_90) ∧ (p1 = p1) ∧ (p2 = p2) ∧ (0 ≤ Int32.toInt (x3_18 + 1)) ∧ (Int32.toInt (x3_18 + 1) ≤ 21) from ⟨hTq_90, (by rw [eq_90]; exact (((dFr.rf : dFr [] [] q q).t a_20 (by decide) (by decide)) : dFr [] [] q q_15).l), rfl, rfl, by omega, by omega⟩) (show (21 - Int32.toInt (x3_18 + 1)).toNat < (21 - Int32.toInt x3_18).toNat by omega)
          · unfold zX10_few_48
            refine dOk_G (dg_ok (show 0 ≤ Int32.toInt x3_18 by omega) (show Int32.toInt x3_18 < ((21 : Nat) : Int) by omega)) ?_
            have n_92 : ((Int32.toNatClampNeg x3_18 : Nat) : Int) = Int32.toInt x3_18 := cl_eq (by omega)
            refine dOk_L (fun q_93 eq_93 => ?_)
            have hTq_93 : TS q_93 := by rw [eq_93]; exact ts_l a_19
            have hFq_93 : dFr [] [] q q_93 := by rw [eq_93]; exact hFq_15.l
            try have t_94 : Int32.toInt (x3_18 + 1) = Int32.toInt x3_18 + 1 := ti_add rfl (by decide) (by omega) (by omega)
            exact hk_13 (q_93, p1, p2, (x3_18 + 1)) (show (TS q_93) ∧ (dFr [] [] q q_93) ∧ (p1 = p1) ∧ (p2 = p2) ∧ (0 ≤ Int32.toInt (x3_18 + 1)) ∧ (Int32.toInt (x3_18 + 1) ≤ 21) from ⟨hTq_93, (by rw [eq_93]; exact (((dFr.rf : dFr [] [] q q).t a_20 (by decide) (by decide)) : dFr [] [] q q_15).l), rfl, rfl, by omega, by omega⟩) (show (21 - Int32.toInt (x3_18 + 1)).toNat < (21 - Int32.toInt x3_18).toNat by omega)
      · exact (show (TS q) ∧ (dFr [] [] q q) ∧ (p1 = p1) ∧ (p2 = p2) ∧ (0 ≤ (0 : Int)) ∧ ((0 : Int) ≤ 21) from ⟨hT, dFr.rf, rfl, rfl, by omega, by omega⟩)
      · show (21 - (0 : Int)).toNat < 1000000000000
        omega

set_option maxHeartbeats 4000000 in
set_option maxRecDepth 100000 in
theorem ok_drawn (q : dS) (p1 : Int32) (p2 : Int32) (hT : TS q) : dOk (zX10_drawn q p1 p2) (fun (o : Int32 × dS) => (o.2 = q)) := by
  unfold zX10_drawn
  have f_1 : -1 ≤ Int32.toInt (q.1 0 54) ∧ Int32.toInt (q.1 0 54) ≤ 6 := hT.1 0 54
  try have t_2 : Int32.toInt (q.1 0 54 - 1) = Int32.toInt (q.1 0 54) - 1 := ti_sub rfl (by decide) (by omega) (by omega)
  refine dOk_V (ok_lies p1 0 (q.1 0 54 - 1)) (fun r_3 h_4 => ?_)
  replace h_4 : ((Int32.toInt r_3 = 1 ∧ (0 : Int) ≤ Int32.toInt p1 ∧ Int32.toInt p1 ≤ Int32.toInt (q.1 0 54 - 1)) ∨ (Int32.toInt r_3 = 0 ∧ (Int32.toInt p1 < (0 : Int) ∨ Int32.toInt (q.1 0 54 - 1) < Int32.toInt p1))) := h_4
  have i_5 := h_4
  refine dOk_eq (A := Int32.toInt r_3) (B := 0) rfl (by decide) (fun c_6z c_6 => ?_) (fun c_7z c_7 => ?_)
  · unfold zX10_drawn_21
    exact dOk_some (show (q = q) from rfl)
  · refine dOk_V (ok_isBit p2) (fun r_9 h_10 => ?_)
    replace h_10 : ((Int32.toInt r_9 = 1 ∧ 0 ≤ Int32.toInt p2 ∧ Int32.toInt p2 ≤ 1) ∨ (Int32.toInt r_9 = 0 ∧ (Int32.toInt p2 < 0 ∨ 1 < Int32.toInt p2))) := h_10
    have i_11 := h_10
    refine dOk_eq (A := Int32.toInt r_9) (B := 0) rfl (by decide) (fun c_12z c_12 => ?_) (fun c_13z c_13 => ?_)
    · unfold zX10_drawn_21
      exact dOk_some (show (q = q) from rfl)
    · refine dOk_eq (A := Int32.toInt p2) (B := 0) rfl (by decide) (fun c_15z c_15 => ?_) (fun c_16z c_16 => ?_)
      · unfold zX10_drawn_37
        try have t_18 : Int32.toInt (0 + p1) = 0 + Int32.toInt p1 := ti_add (by decide) rfl (by omega) (by omega)
        refine dOk_G (dg_ok (show 0 ≤ Int32.toInt (0 + p1) by omega) (show Int32.toInt (0 + p1) < ((14 : Nat) : Int) by omega)) ?_
        have n_19 : ((Int32.toNatClampNeg (0 + p1) : Nat) : Int) = Int32.toInt (0 + p1) := cl_eq (by omega)
        refine dOk_L (fun v_20 ev_20 => ?_)
        try have g_21 : klo ((Int32.toNatClampNeg (0 + p1)) % 14) ≤ Int32.toInt v_20 ∧ Int32.toInt v_20 ≤ khi ((Int32.toNatClampNeg (0 + p1)) % 14) := by rw [ev_20]; exact te_27 hT _
        exact dOk_some (show (q = q) from rfl)
      · unfold zX10_drawn_37
        try have t_22 : Int32.toInt (6 + p1) = 6 + Int32.toInt p1 := ti_add (by decide) rfl (by omega) (by omega)
        refine dOk_G (dg_ok (show 0 ≤ Int32.toInt (6 + p1) by omega) (show Int32.toInt (6 + p1) < ((14 : Nat) : Int) by omega)) ?_
        have n_23 : ((Int32.toNatClampNeg (6 + p1) : Nat) : Int) = Int32.toInt (6 + p1) := cl_eq (by omega)
        refine dOk_L (fun v_24 ev_24 => ?_)
        try have g_25 : klo ((Int32.toNatClampNeg (6 + p1)) % 14) ≤ Int32.toInt v_24 ∧ Int32.toInt v_24 ≤ khi ((Int32.toNatClampNeg (6 + p1)) % 14) := by rw [ev_24]; exact te_27 hT _
        exact dOk_some (show (q = q) from rfl)

set_option maxHeartbeats 4000000 in
set_option maxRecDepth 100000 in
theorem ok_onHeads (q : dS) (hT : TS q) : dOk (zX10_onHeads q) (fun (o : Int32 × dS) => (o.2 = q)) := by
  unfold zX10_onHeads
  unfold zX10_onHeads_4
  refine dFix_ok (fun (a : dS × Int32 × Int32) => (a.1 = q) ∧ (0 ≤ Int32.toInt a.2.2) ∧ (Int32.toInt a.2.2 ≤ 6)) (fun (a : dS × Int32 × Int32) => (6 - Int32.toInt a.2.2).toNat) ?_ _ ?_ _ (dF_gt ?_)
  · intro a ha k_2 hk_1
    obtain ⟨q_3, x1_4, x2_5⟩ := a
    replace ha : (q_3 = q) ∧ (0 ≤ Int32.toInt x2_5) ∧ (Int32.toInt x2_5 ≤ 6) := ha
    obtain ⟨a_6, a_7, a_8⟩ := ha
    show dOk (zX10_onHeads_4b  (fun q x1 x2 => k_2 (q, x1, x2)) q_3 x1_4 x2_5) _
    unfold zX10_onHeads_4b
    subst q_3
    refine dOk_B (ok_size q hT) (fun r_9 q_10 h_11 => ?_)
    replace h_11 : (q_10 = q) ∧ (Int32.toInt r_9 = Int32.toInt (q.1 2 29)) ∧ (0 ≤ Int32.toInt r_9 ∧ Int32.toInt r_9 ≤ 6) := h_11
    obtain ⟨i_12, i_13, i_14⟩ := h_11
    subst q_10
    have f_15 : 0 ≤ Int32.toInt (q.1 2 29) ∧ Int32.toInt (q.1 2 29) ≤ 6 := hT.1 2 29
    refine dOk_le (A := Int32.toInt r_9) (B := Int32.toInt x2_5) rfl rfl (fun c_16 => ?_) (fun c_17 => ?_)
    · exact dOk_some (show (q = q) from rfl)
    · try have t_18 : Int32.toInt (6 + x2_5) = 6 + Int32.toInt x2_5 := ti_add (by decide) rfl (by omega) (by omega)
      refine dOk_G (dg_ok (show 0 ≤ Int32.toInt (6 + x2_5) by omega) (show Int32.toInt (6 + x2_5) < ((5640 : Nat) : Int) by omega)) ?_
      have n_19 : ((Int32.toNatClampNeg (6 + x2_5) : Nat) : Int) = Int32.toInt (6 + x2_5) := cl_eq (by omega)
      refine dOk_L (fun v_20 ev_20 => ?_)
      try have g_21 : klo (Int32.toNatClampNeg (6 + x2_5)) ≤ Int32.toInt v_20 ∧ Int32.toInt v_20 ≤ khi (Int32.toNatClampNeg (6 + x2_5)) := by rw [ev_20]; exact te_k hT _
      try have f_22 : 0 ≤ Int32.toInt v_20 ∧ Int32.toInt v_20 ≤ 5 := by rw [ev_20]; exact te_2r hT (by omega) (by omega)
      try have f_23 : 0 ≤ Int32.toInt v_20 ∧ Int32.toInt v_20 ≤ 1 := by rw [ev_20]; exact te_2h hT (by omega) (by omega)
      try have f_24 : 0 ≤ Int32.toInt v_20 ∧ Int32.toInt v_20 ≤ 5 := by rw [ev_20]; exact te_2s hT (by omega) (by omega)
      try have f_25 : 0 ≤ Int32.toInt v_20 ∧ Int32.toInt v_20 ≤ 400 := by rw [ev_20]; exact te_2z hT (by omega) (by omega)
      try have t_26 : Int32.toInt (x1_4 + v_20) = Int32.toInt x1_4 + Int32.toInt v_20 := ti_add rfl rfl (by omega) (by omega)
      try have t_27 : Int32.toInt (x2_5 + 1) = Int32.toInt x2_5 + 1 := ti_add rfl (by decide) (by omega) (by omega)
      exact hk_1 (q, (x1_4 + v_20), (x2_5 + 1)) (show (q = q) ∧ (0 ≤ Int32.toInt (x2_5 + 1)) ∧ (Int32.toInt (x2_5 + 1) ≤ 6) from ⟨rfl, by omega, by omega⟩) (show (6 - Int32.toInt (x2_5 + 1)).toNat < (6 - Int32.toInt x2_5).toNat by omega)
  · exact (show (q = q) ∧ (0 ≤ (0 : Int)) ∧ ((0 : Int) ≤ 6) from ⟨rfl, by omega, by omega⟩)
  · show (6 - (0 : Int)).toNat < 1000000000000
    omega

set_option maxHeartbeats 4000000 in
set_option maxRecDepth 100000 in
theorem ok_isOrderedNow (q : dS) (hT : TS q) : dOk (zX10_isOrderedNow q) (fun (o : Int32 × dS) => (o.2 = q) ∧ ((Int32.toInt o.1 = 0 ∨ Int32.toInt o.1 = 1))) := by
  unfold zX10_isOrderedNow
  refine dOk_B (ok_size q hT) (fun r_1 q_2 h_3 => ?_)
  replace h_3 : (q_2 = q) ∧ (Int32.toInt r_1 = Int32.toInt (q.1 2 29)) ∧ (0 ≤ Int32.toInt r_1 ∧ Int32.toInt r_1 ≤ 6) := h_3
  obtain ⟨i_4, i_5, i_6⟩ := h_3
  subst q_2
  have f_7 : 0 ≤ Int32.toInt (q.1 2 29) ∧ Int32.toInt (q.1 2 29) ≤ 6 := hT.1 2 29
  try have t_8 := ti_shlP (s := r_1) (by omega) (by omega)
  try have t_9 := ti_shl5 (x := 1) (s := r_1) (by decide) (by decide) (by omega) (by omega)
  try have t_10 := ti_shl6 (x := 1) (s := r_1) (by decide) (by decide) (by omega) (by omega)
  try have t_11 : Int32.toInt (1 <<< ((r_1 : Int32) &&& 31) - 1) = Int32.toInt (1 <<< ((r_1 : Int32) &&& 31)) - 1 := ti_sub rfl (by decide) (by omega) (by omega)
  refine dOk_B (ok_canStay q (1 <<< ((r_1 : Int32) &&& 31) - 1) hT) (fun r_12 q_13 h_14 => ?_)
  replace h_14 : (q_13 = q) ∧ ((Int32.toInt r_12 = 0 ∨ Int32.toInt r_12 = 1)) := h_14
  obtain ⟨i_15, i_16⟩ := h_14
  subst q_13
  refine dOk_G (dbl_ok (show Int32.toInt r_12 = 0 ∨ Int32.toInt r_12 = 1 by omega)) ?_
  exact dOk_some (show (q = q) ∧ ((Int32.toInt r_12 = 0 ∨ Int32.toInt r_12 = 1)) from ⟨rfl, by omega⟩)
