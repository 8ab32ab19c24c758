set_option maxHeartbeats 4000000 in
set_option maxRecDepth 100000 in
theorem ok_X3_headsTurned (p1 : Int32) (p2 : Int32) (hp0 : 0 ≤ Int32.toInt p1) (hp1 : Int32.toInt p1 ≤ 63) (hp2 : 1 ≤ Int32.toInt p2) (hp3 : Int32.toInt p2 ≤ 6) : dOk (zX3_headsTurned p1 p2) (fun (o : Int32) => (0 ≤ Int32.toInt o ∧ Int32.toInt o ≤ 63)) := by
  unfold zX3_headsTurned
  unfold zX3_headsTurned_4
  refine dFix_ok (fun (a : Int32 × Int32 × Int32 × Int32) => (a.1 = p1) ∧ (a.2.1 = p2) ∧ (0 ≤ Int32.toInt a.2.2.2) ∧ (Int32.toInt a.2.2.2 ≤ Int32.toInt a.2.1) ∧ (0 ≤ Int32.toInt a.2.2.1 ∧ Int32.toInt a.2.2.1 ≤ 63)) (fun (a : Int32 × Int32 × Int32 × Int32) => (Int32.toInt a.2.1 - Int32.toInt a.2.2.2).toNat) ?_ _ ?_ _ (dF_gt ?_)
  · intro a ha k_2 hk_1
    obtain ⟨x0_3, x1_4, x2_5, x3_6⟩ := a
    replace ha : (x0_3 = p1) ∧ (x1_4 = p2) ∧ (0 ≤ Int32.toInt x3_6) ∧ (Int32.toInt x3_6 ≤ Int32.toInt x1_4) ∧ (0 ≤ Int32.toInt x2_5 ∧ Int32.toInt x2_5 ≤ 63) := ha
    obtain ⟨a_7, a_8, a_9, a_10, a_11⟩ := ha
    show dOk (zX3_headsTurned_4b  (fun x0 x1 x2 x3 => k_2 (x0, x1, x2, x3)) x0_3 x1_4 x2_5 x3_6) _
    unfold zX3_headsTurned_4b
    subst x0_3
    subst x1_4
    refine dOk_le (A := Int32.toInt p2) (B := Int32.toInt x3_6) rfl rfl (fun c_12 => ?_) (fun c_13 => ?_)
    · try have t_15 := ti_shr (x := p1) (s := p2) (by omega)
      try have t_16 := sl_r (x := p1) (s := p2) (by omega) (by omega) (by omega) (by omega)
      try have t_17 := ti_or (x := p1 >>> ((p2 : Int32) &&& 31) <<< ((p2 : Int32) &&& 31)) (y := x2_5) 6 (by decide) (by omega) (by omega) (by omega) (by omega)
      refine dOk_L (fun v_14 ev_14 => ?_)
      have w_18 : Int32.toInt v_14 = Int32.toInt (p1 >>> ((p2 : Int32) &&& 31) <<< ((p2 : Int32) &&& 31) ||| x2_5) := by rw [ev_14]
      exact dOk_some (show (0 ≤ Int32.toInt v_14 ∧ Int32.toInt v_14 ≤ 63) from (by omega))
    · try have t_20 := ti_shr (x := p1) (s := x3_6) (by omega)
      have t_21 := ti_and1 (p1 >>> ((x3_6 : Int32) &&& 31))
      try have t_22 : Int32.toInt (1 - (p1 >>> ((x3_6 : Int32) &&& 31) &&& 1)) = 1 - Int32.toInt (p1 >>> ((x3_6 : Int32) &&& 31) &&& 1) := ti_sub (by decide) rfl (by omega) (by omega)
      try have t_23 : Int32.toInt (p2 - 1) = Int32.toInt p2 - 1 := ti_sub rfl (by decide) (by omega) (by omega)
      try have t_24 : Int32.toInt (p2 - 1 - x3_6) = Int32.toInt (p2 - 1) - Int32.toInt x3_6 := ti_sub rfl rfl (by omega) (by omega)
      try have t_25 := ti_shl5 (x := 1 - (p1 >>> ((x3_6 : Int32) &&& 31) &&& 1)) (s := p2 - 1 - x3_6) (by omega) (by omega) (by omega) (by omega)
      try have t_26 := ti_shl6 (x := 1 - (p1 >>> ((x3_6 : Int32) &&& 31) &&& 1)) (s := p2 - 1 - x3_6) (by omega) (by omega) (by omega) (by omega)
      refine dOk_L (fun v_19 ev_19 => ?_)
      have w_27 : Int32.toInt v_19 = Int32.toInt ((1 - (p1 >>> ((x3_6 : Int32) &&& 31) &&& 1)) <<< ((p2 - 1 - x3_6 : Int32) &&& 31)) := by rw [ev_19]
      try have t_28 := ti_or (x := x2_5) (y := v_19) 6 (by decide) (by omega) (by omega) (by omega) (by omega)
      try have t_29 : Int32.toInt (x3_6 + 1) = Int32.toInt x3_6 + 1 := ti_add rfl (by decide) (by omega) (by omega)
      exact hk_1 (p1, p2, (x2_5 ||| v_19), (x3_6 + 1)) (show (p1 = p1) ∧ (p2 = p2) ∧ (0 ≤ Int32.toInt (x3_6 + 1)) ∧ (Int32.toInt (x3_6 + 1) ≤ Int32.toInt p2) ∧ (0 ≤ Int32.toInt (x2_5 ||| v_19) ∧ Int32.toInt (x2_5 ||| v_19) ≤ 63) from ⟨rfl, rfl, by omega, by omega, by omega⟩) (show (Int32.toInt p2 - Int32.toInt (x3_6 + 1)).toNat < (Int32.toInt p2 - Int32.toInt x3_6).toNat by omega)
  · exact (show (p1 = p1) ∧ (p2 = p2) ∧ (0 ≤ (0 : Int)) ∧ ((0 : Int) ≤ Int32.toInt p2) ∧ (0 ≤ (0 : Int) ∧ (0 : Int) ≤ 63) from ⟨rfl, rfl, by omega, by omega, by omega⟩)
  · show (Int32.toInt p2 - (0 : Int)).toNat < 1000000000000
    omega

set_option maxHeartbeats 4000000 in
set_option maxRecDepth 100000 in
theorem ok_X3_indexOfRank_s32 (q : dK) (p1 : Int32) (hT : TC q) : dOk (zX3_indexOfRank_s32 q p1) (fun (o : Int32 × dK) => (o.2 = q) ∧ (-1 ≤ Int32.toInt o.1 ∧ Int32.toInt o.1 ≤ 5)) := by
  unfold zX3_indexOfRank_s32
  unfold zX3_indexOfRank_s32_2
  refine dFix_ok (fun (a : dK × Int32 × Int32) => (a.1 = q) ∧ (a.2.1 = p1) ∧ (0 ≤ Int32.toInt a.2.2) ∧ (Int32.toInt a.2.2 ≤ 6)) (fun (a : dK × Int32 × Int32) => (6 - Int32.toInt a.2.2).toNat) ?_ _ ?_ _ (dF_gt ?_)
  · intro a ha k_2 hk_1
    obtain ⟨q_3, x1_4, x2_5⟩ := a
    replace ha : (q_3 = q) ∧ (x1_4 = p1) ∧ (0 ≤ Int32.toInt x2_5) ∧ (Int32.toInt x2_5 ≤ 6) := ha
    obtain ⟨a_6, a_7, a_8, a_9⟩ := ha
    show dOk (zX3_indexOfRank_s32_2b  (fun q x1 x2 => k_2 (q, x1, x2)) q_3 x1_4 x2_5) _
    unfold zX3_indexOfRank_s32_2b
    subst q_3
    subst x1_4
    have f_10 : 0 ≤ Int32.toInt (q.1 32 13) ∧ Int32.toInt (q.1 32 13) ≤ 6 := rg_32_13 hT
    refine dOk_le (A := Int32.toInt (q.1 32 13)) (B := Int32.toInt x2_5) rfl rfl (fun c_11 => ?_) (fun c_12 => ?_)
    · exact dOk_some (show (q = q) ∧ (-1 ≤ (-1 : Int) ∧ (-1 : Int) ≤ 5) from ⟨rfl, by omega⟩)
    · refine dOk_G (dg_ok (show 0 ≤ Int32.toInt x2_5 by omega) (show Int32.toInt x2_5 < ((6 : Nat) : Int) by omega)) ?_
      have n_13 : ((Int32.toNatClampNeg x2_5 : Nat) : Int) = Int32.toInt x2_5 := cl_eq (by omega)
      refine dOk_L (fun v_14 ev_14 => ?_)
      refine dOk_eq (A := Int32.toInt v_14) (B := Int32.toInt p1) rfl rfl (fun c_15z c_15 => ?_) (fun c_16z c_16 => ?_)
      · exact dOk_some (show (q = q) ∧ (-1 ≤ Int32.toInt x2_5 ∧ Int32.toInt x2_5 ≤ 5) from ⟨rfl, by omega⟩)
      · try have t_18 : Int32.toInt (x2_5 + 1) = Int32.toInt x2_5 + 1 := ti_add rfl (by decide) (by omega) (by omega)
        exact hk_1 (q, p1, (x2_5 + 1)) (show (q = q) ∧ (p1 = p1) ∧ (0 ≤ Int32.toInt (x2_5 + 1)) ∧ (Int32.toInt (x2_5 + 1) ≤ 6) from ⟨rfl, rfl, by omega, by omega⟩) (show (6 - Int32.toInt (x2_5 + 1)).toNat < (6 - Int32.toInt x2_5).toNat by omega)
  · exact (show (q = q) ∧ (p1 = p1) ∧ (0 ≤ (0 : Int)) ∧ ((0 : Int) ≤ 6) from ⟨rfl, rfl, by omega, by omega⟩)
  · show (6 - (0 : Int)).toNat < 1000000000000
    omega

set_option maxHeartbeats 4000000 in
set_option maxRecDepth 100000 in
theorem ok_X3_askCases_s32_s20_c1 (q : dK) (p2 : Int32) (hT : TC q) : dOk (zX3_askCases_s32_s20_c1 q p2) (fun (o : dK) => (TC o) ∧ (cFr [19, 21, 35] [(18, 1)] q o)) := by
  unfold zX3_askCases_s32_s20_c1
  unfold zX3_askCases_s32_s20_c1_16
  refine dOk_L (fun q_1 eq_1 => ?_)
  have hTq_1 : TC q_1 := by rw [eq_1]; exact tc_cfi hT (by decide)
  have hFq_1 : cFr [19, 21, 35] [(18, 1)] q q_1 := by rw [eq_1]; exact (cFr.rf (q := q)).g (by decide)
  have f_2 : 0 ≤ Int32.toInt (q_1.1 32 13) ∧ Int32.toInt (q_1.1 32 13) ≤ 6 := rg_32_13 hTq_1
  have f_3 : 0 ≤ Int32.toInt (q.1 32 13) ∧ Int32.toInt (q.1 32 13) ≤ 6 := rg_32_13 hT
  have w_4 : Int32.toInt (q_1.1 32 13) = Int32.toInt (q.1 32 13) := by rw [eq_1]; rfl
  refine dOk_V (ok_X1_setCommon_s20 q_1 (q_1.1 32 13) p2 hTq_1) (fun q_5 h_6 => ?_)
  replace h_6 : (TC q_5) ∧ (cFr [21] [] q_1 q_5) := h_6
  obtain ⟨i_7, i_8⟩ := h_6
  have hFq_5 : cFr [19, 21, 35] [(18, 1)] q q_5 := hFq_1.t i_8 (by decide) (by decide)
  unfold zX3_askCases_s32_s20_c1_36
  refine dFix_ok (fun (a : dK × Int32 × Int32) => (TC a.1) ∧ (cFr [19, 21, 35] [(18, 1)] q_5 a.1) ∧ (a.2.1 = 1) ∧ (1 ≤ Int32.toInt a.2.2) ∧ (Int32.toInt a.2.2 ≤ 7)) (fun (a : dK × Int32 × Int32) => (7 - Int32.toInt a.2.2).toNat) ?_ _ ?_ _ (dF_gt ?_)
  · intro a ha k_10 hk_9
    obtain ⟨q_11, x3_12, x5_13⟩ := a
    replace ha : (TC q_11) ∧ (cFr [19, 21, 35] [(18, 1)] q_5 q_11) ∧ (x3_12 = 1) ∧ (1 ≤ Int32.toInt x5_13) ∧ (Int32.toInt x5_13 ≤ 7) := ha
    obtain ⟨a_14, a_15, a_16, a_17, a_18⟩ := ha
    show dOk (zX3_askCases_s32_s20_c1_36b  (fun q x3 x5 => k_10 (q, x3, x5)) q_11 x3_12 x5_13) _
    unfold zX3_askCases_s32_s20_c1_36b
    have hFq_11 : cFr [19, 21, 35] [(18, 1)] q q_11 := hFq_5.t a_15 (by decide) (by decide)
    subst x3_12
    have f_19 : 0 ≤ Int32.toInt (q_11.1 32 13) ∧ Int32.toInt (q_11.1 32 13) ≤ 6 := rg_32_13 a_14
    have f_20 : 0 ≤ Int32.toInt (q_5.1 32 13) ∧ Int32.toInt (q_5.1 32 13) ≤ 6 := rg_32_13 i_7
    have w_21 : Int32.toInt (q_5.1 32 13) = Int32.toInt (q_1.1 32 13) := by rw [i_8.1 32 13 (by decide) (by decide)]
    have w_22 : Int32.toInt (q_11.1 32 13) = Int32.toInt (q_5.1 32 13) := by rw [a_15.1 32 13 (by decide) (by decide)]
    refine dOk_lt (A := Int32.toInt (q_11.1 32 13)) (B := Int32.toInt x5_13) rfl rfl (fun c_23 => ?_) (fun c_24 => ?_)
    · exact dOk_some (show (TC q_11) ∧ (cFr [19, 21, 35] [(18, 1)] q q_11) from ⟨a_14, hFq_11⟩)
    · unfold zX3_askCases_s32_s20_c1_48
      refine dFix_ok (fun (a : dK × Int32 × Int32 × Int32) => (TC a.1) ∧ (cFr [19, 21, 35] [(18, 1)] q_11 a.1) ∧ (a.2.1 = 1) ∧ (a.2.2.1 = x5_13) ∧ (0 ≤ Int32.toInt a.2.2.2) ∧ (Int32.toInt a.2.2.2 ≤ 6) ∧ (1 ≤ Int32.toInt a.2.2.1) ∧ (Int32.toInt a.2.2.1 ≤ 6)) (fun (a : dK × Int32 × Int32 × Int32) => (6 - Int32.toInt a.2.2.2).toNat) ?_ _ ?_ _ (dF_gt ?_)
      · intro a ha k_26 hk_25
        obtain ⟨q_27, x3_28, x5_29, x6_30⟩ := a
        replace ha : (TC q_27) ∧ (cFr [19, 21, 35] [(18, 1)] q_11 q_27) ∧ (x3_28 = 1) ∧ (x5_29 = x5_13) ∧ (0 ≤ Int32.toInt x6_30) ∧ (Int32.toInt x6_30 ≤ 6) ∧ (1 ≤ Int32.toInt x5_29) ∧ (Int32.toInt x5_29 ≤ 6) := ha
        obtain ⟨a_31, a_32, a_33, a_34, a_35, a_36, a_37, a_38⟩ := ha
        show dOk (zX3_askCases_s32_s20_c1_48b _ (fun q x3 x5 x6 => k_26 (q, x3, x5, x6)) q_27 x3_28 x5_29 x6_30) _
        unfold zX3_askCases_s32_s20_c1_48b
        have hFq_27 : cFr [19, 21, 35] [(18, 1)] q q_27 := hFq_11.t a_32 (by decide) (by decide)
        subst x3_28
        subst x5_29
        have hn_43 : ∀ (q_39 : dK) (x6_40 : Int32) (x7_41 : Int32) (y0_42 : Int32), TC q_39 → cFr [19, 21, 35] [(18, 1)] q_11 q_39 → (0 ≤ Int32.toInt x6_40) → (Int32.toInt x6_40 ≤ 5) → (Int32.toInt x6_40 = Int32.toInt x6_30) → (0 ≤ Int32.toInt x7_41) → (Int32.toInt x7_41 ≤ 6) → (Int32.toInt y0_42 ≤ 6) → dOk (zX3_askCases_s32_s20_c1_94 (fun q x3 x5 => k_10 (q, x3, x5)) (fun q x3 x5 x6 => k_26 (q, x3, x5, x6)) q_39 1 x5_13 x6_40 x7_41 y0_42 ) (fun (o : dK) => (TC o) ∧ (cFr [19, 21, 35] [(18, 1)] q o)) := by
          intro q_39 x6_40 x7_41 y0_42 hT_50 hF_51 b_44 b_45 b_46 b_47 b_48 b_49
          unfold zX3_askCases_s32_s20_c1_94
          have hFq_39 : cFr [19, 21, 35] [(18, 1)] q q_39 := hFq_11.t hF_51 (by decide) (by decide)
          unfold zX3_askCases_s32_s20_c1_100
          refine dFix_ok (fun (a : dK × Int32 × Int32 × Int32 × Int32 × Int32) => (TC a.1) ∧ (cFr [19, 21, 35] [(18, 1)] q_39 a.1) ∧ (a.2.1 = 1) ∧ (a.2.2.1 = x5_13) ∧ (a.2.2.2.1 = x6_40) ∧ (a.2.2.2.2.1 = y0_42) ∧ (0 ≤ Int32.toInt a.2.2.2.2.2) ∧ (Int32.toInt a.2.2.2.2.2 ≤ 7) ∧ (Int32.toInt a.2.2.2.2.1 ≤ 6) ∧ (0 ≤ Int32.toInt a.2.2.2.1) ∧ (Int32.toInt a.2.2.2.1 ≤ 5) ∧ (1 ≤ Int32.toInt a.2.2.1) ∧ (Int32.toInt a.2.2.1 ≤ 6)) (fun (a : dK × Int32 × Int32 × Int32 × Int32 × Int32) => (7 - Int32.toInt a.2.2.2.2.2).toNat) ?_ _ ?_ _ (dF_gt ?_)
          · intro a ha k_53 hk_52
            obtain ⟨q_54, x3_55, x5_56, x6_57, x8_58, x9_59⟩ := a
            replace ha : (TC q_54) ∧ (cFr [19, 21, 35] [(18, 1)] q_39 q_54) ∧ (x3_55 = 1) ∧ (x5_56 = x5_13) ∧ (x6_57 = x6_40) ∧ (x8_58 = y0_42) ∧ (0 ≤ Int32.toInt x9_59) ∧ (Int32.toInt x9_59 ≤ 7) ∧ (Int32.toInt x8_58 ≤ 6) ∧ (0 ≤ Int32.toInt x6_57) ∧ (Int32.toInt x6_57 ≤ 5) ∧ (1 ≤ Int32.toInt x5_56) ∧ (Int32.toInt x5_56 ≤ 6) := ha
            obtain ⟨a_60, a_61, a_62, a_63, a_64, a_65, a_66, a_67, a_68, a_69, a_70, a_71, a_72⟩ := ha
            show dOk (zX3_askCases_s32_s20_c1_100b _ _ (fun q x3 x5 x6 x8 x9 => k_53 (q, x3, x5, x6, x8, x9)) q_54 x3_55 x5_56 x6_57 x8_58 x9_59) _
            unfold zX3_askCases_s32_s20_c1_100b
            have hFq_54 : cFr [19, 21, 35] [(18, 1)] q q_54 := hFq_39.t a_61 (by decide) (by decide)
            subst x3_55
            subst x5_56
            subst x6_57
            subst x8_58
            have hn_76 : ∀ (q_73 : dK) (x9_74 : Int32) (y0_75 : Int32), TC q_73 → cFr [19, 21, 35] [(18, 1)] q_39 q_73 → (0 ≤ Int32.toInt x9_74) → (Int32.toInt x9_74 ≤ 6) → (Int32.toInt x9_74 = Int32.toInt x9_59) → dOk (zX3_askCases_s32_s20_c1_125 (fun q x3 x5 => k_10 (q, x3, x5)) (fun q x3 x5 x6 => k_26 (q, x3, x5, x6)) (fun q x3 x5 x6 x8 x9 => k_53 (q, x3, x5, x6, x8, x9)) q_73 1 x5_13 x6_40 y0_42 x9_74 y0_75 ) (fun (o : dK) => (TC o) ∧ (cFr [19, 21, 35] [(18, 1)] q o)) := by
              intro q_73 x9_74 y0_75 hT_80 hF_81 b_77 b_78 b_79
              unfold zX3_askCases_s32_s20_c1_125
              have hFq_73 : cFr [19, 21, 35] [(18, 1)] q q_73 := hFq_39.t hF_81 (by decide) (by decide)
              unfold zX3_askCases_s32_s20_c1_130
              refine dFix_ok (fun (a : dK × Int32 × Int32 × Int32 × Int32 × Int32 × Int32 × Int32) => (TC a.1) ∧ (cFr [19, 21, 35] [(18, 1)] q_73 a.1) ∧ (a.2.1 = 1) ∧ (a.2.2.1 = x5_13) ∧ (a.2.2.2.1 = x6_40) ∧ (a.2.2.2.2.1 = y0_42) ∧ (a.2.2.2.2.2.1 = x9_74) ∧ (a.2.2.2.2.2.2.1 = y0_75) ∧ (0 ≤ Int32.toInt a.2.2.2.2.2.2.2) ∧ (Int32.toInt a.2.2.2.2.2.2.2 ≤ 2) ∧ (0 ≤ Int32.toInt a.2.2.2.2.2.1) ∧ (Int32.toInt a.2.2.2.2.2.1 ≤ 6) ∧ (0 ≤ Int32.toInt a.2.2.2.1) ∧ (Int32.toInt a.2.2.2.1 ≤ 5) ∧ (1 ≤ Int32.toInt a.2.2.1) ∧ (Int32.toInt a.2.2.1 ≤ 6)) (fun (a : dK × Int32 × Int32 × Int32 × Int32 × Int32 × Int32 × Int32) => (2 - Int32.toInt a.2.2.2.2.2.2.2).toNat) ?_ _ ?_ _ (dF_gt ?_)
              · intro a ha k_83 hk_82
                obtain ⟨q_84, x3_85, x5_86, x6_87, x8_88, x9_89, x10_90, x11_91⟩ := a
                replace ha : (TC q_84) ∧ (cFr [19, 21, 35] [(18, 1)] q_73 q_84) ∧ (x3_85 = 1) ∧ (x5_86 = x5_13) ∧ (x6_87 = x6_40) ∧ (x8_88 = y0_42) ∧ (x9_89 = x9_74) ∧ (x10_90 = y0_75) ∧ (0 ≤ Int32.toInt x11_91) ∧ (Int32.toInt x11_91 ≤ 2) ∧ (0 ≤ Int32.toInt x9_89) ∧ (Int32.toInt x9_89 ≤ 6) ∧ (0 ≤ Int32.toInt x6_87) ∧ (Int32.toInt x6_87 ≤ 5) ∧ (1 ≤ Int32.toInt x5_86) ∧ (Int32.toInt x5_86 ≤ 6) := ha
                obtain ⟨a_92, a_93, a_94, a_95, a_96, a_97, a_98, a_99, a_100, a_101, a_102, a_103, a_104, a_105, a_106, a_107⟩ := ha
                show dOk (zX3_askCases_s32_s20_c1_130b _ _ _ (fun q x3 x5 x6 x8 x9 x10 x11 => k_83 (q, x3, x5, x6, x8, x9, x10, x11)) q_84 x3_85 x5_86 x6_87 x8_88 x9_89 x10_90 x11_91) _
                unfold zX3_askCases_s32_s20_c1_130b
                have hFq_84 : cFr [19, 21, 35] [(18, 1)] q q_84 := hFq_73.t a_93 (by decide) (by decide)
                subst x3_85
                subst x5_86
                subst x6_87
                subst x8_88
                subst x9_89
                subst x10_90
                refine dOk_le (A := 2) (B := Int32.toInt x11_91) (by decide) rfl (fun c_108 => ?_) (fun c_109 => ?_)
                · try have t_110 : Int32.toInt (x9_74 + 1) = Int32.toInt x9_74 + 1 := ti_add rfl (by decide) (by omega) (by omega)
                  exact hk_52 (q_84, 1, x5_13, x6_40, y0_42, (x9_74 + 1)) (show (TC q_84) ∧ (cFr [19, 21, 35] [(18, 1)] q_39 q_84) ∧ (1 = 1) ∧ (x5_13 = x5_13) ∧ (x6_40 = x6_40) ∧ (y0_42 = y0_42) ∧ (0 ≤ Int32.toInt (x9_74 + 1)) ∧ (Int32.toInt (x9_74 + 1) ≤ 7) ∧ (Int32.toInt y0_42 ≤ 6) ∧ (0 ≤ Int32.toInt x6_40) ∧ (Int32.toInt x6_40 ≤ 5) ∧ (1 ≤ Int32.toInt x5_13) ∧ (Int32.toInt x5_13 ≤ 6) from ⟨a_92, ((((cFr.rf : cFr [19, 21, 35] [(18, 1)] q_39 q_39).t hF_81 (by decide) (by decide)) : cFr [19, 21, 35] [(18, 1)] q_39 q_73).t a_93 (by decide) (by decide)), rfl, rfl, rfl, rfl, by omega, by omega, by omega, by omega, by omega, by omega, by omega⟩) (show (7 - Int32.toInt (x9_74 + 1)).toNat < (7 - Int32.toInt x9_59).toNat by omega)
                · refine dOk_G (dg_ok (show 0 ≤ Int32.toInt x6_40 by omega) (show Int32.toInt x6_40 < ((6 : Nat) : Int) by omega)) ?_
                  have n_111 : ((Int32.toNatClampNeg x6_40 : Nat) : Int) = Int32.toInt x6_40 := cl_eq (by omega)
                  refine dOk_L (fun v_112 ev_112 => ?_)
                  refine dOk_V (ok_X1_setGrip_s20 q_84 x5_13 v_112 y0_75 x11_91 a_92) (fun q_113 h_114 => ?_)
                  replace h_114 : (TC q_113) ∧ (cFr [21] [] q_84 q_113) ∧ (Int32.toInt (q_113.1 21 0) = Int32.toInt x5_13) := h_114
                  obtain ⟨i_115, i_116, i_117⟩ := h_114
                  have hFq_113 : cFr [19, 21, 35] [(18, 1)] q q_113 := hFq_84.t i_116 (by decide) (by decide)
                  refine dOk_eq (A := 1) (B := 1) (by decide) (by decide) (fun c_118z c_118 => ?_) (fun c_119z c_119 => ?_)
                  · refine dOk_B (ok_X1_anyHolds_s20 q_113 1 i_115) (fun r_121 q_122 h_123 => ?_)
                    replace h_123 : (TC q_122) ∧ (cFr [19] [(18, 1)] q_113 q_122) ∧ ((Int32.toInt r_121 = 0 ∨ Int32.toInt r_121 = 1)) := h_123
                    obtain ⟨i_124, i_125, i_126⟩ := h_123
                    have hFq_122 : cFr [19, 21, 35] [(18, 1)] q q_122 := hFq_113.t i_125 (by decide) (by decide)
                    refine dOk_V (ok_X9_bit r_121) (fun r_127 h_128 => ?_)
                    replace h_128 : ((Int32.toInt r_127 = 0 ∨ Int32.toInt r_127 = 1)) := h_128
                    have i_129 := h_128
                    unfold zX3_askCases_s32_s20_c1_173
                    refine dOk_V (ok_X3_caseNumber x5_13 x6_40 x9_74 x11_91 (show 1 ≤ Int32.toInt x5_13 by omega) (show Int32.toInt x5_13 ≤ 6 by omega) (show 0 ≤ Int32.toInt x6_40 by omega) (show Int32.toInt x6_40 ≤ 7 by omega) (show 0 ≤ Int32.toInt x9_74 by omega) (show Int32.toInt x9_74 ≤ 7 by omega) (show 0 ≤ Int32.toInt x11_91 by omega) (show Int32.toInt x11_91 ≤ 1 by omega)) (fun r_130 h_131 => ?_)
                    replace h_131 : (Int32.toInt r_130 = (((Int32.toInt x5_13 - 1) * 6 + Int32.toInt x6_40) * 7 + Int32.toInt x9_74) * 2 + Int32.toInt x11_91) := h_131
                    have i_132 := h_131
                    refine dOk_G (dg_ok (show 0 ≤ Int32.toInt r_130 by omega) (show Int32.toInt r_130 < ((504 : Nat) : Int) by omega)) ?_
                    have n_133 : ((Int32.toNatClampNeg r_130 : Nat) : Int) = Int32.toInt r_130 := cl_eq (by omega)
                    refine dOk_L (fun q_134 eq_134 => ?_)
                    have hTq_134 : TC q_134 := by rw [eq_134]; exact sa_35 i_124
                    have hFq_134 : cFr [19, 21, 35] [(18, 1)] q q_134 := by rw [eq_134]; exact hFq_122.i (by decide)
                    try have t_135 : Int32.toInt (x11_91 + 1) = Int32.toInt x11_91 + 1 := ti_add rfl (by decide) (by omega) (by omega)
                    exact hk_82 (q_134, 1, x5_13, x6_40, y0_42, x9_74, y0_75, (x11_91 + 1)) (show (TC q_134) ∧ (cFr [19, 21, 35] [(18, 1)] q_73 q_134) ∧ (1 = 1) ∧ (x5_13 = x5_13) ∧ (x6_40 = x6_40) ∧ (y0_42 = y0_42) ∧ (x9_74 = x9_74) ∧ (y0_75 = y0_75) ∧ (0 ≤ Int32.toInt (x11_91 + 1)) ∧ (Int32.toInt (x11_91 + 1) ≤ 2) ∧ (0 ≤ Int32.toInt x9_74) ∧ (Int32.toInt x9_74 ≤ 6) ∧ (0 ≤ Int32.toInt x6_40) ∧ (Int32.toInt x6_40 ≤ 5) ∧ (1 ≤ Int32.toInt x5_13) ∧ (Int32.toInt x5_13 ≤ 6) from ⟨hTq_134, (by rw [eq_134]; exact (((((((cFr.rf : cFr [19, 21, 35] [(18, 1)] q_73 q_73).t a_93 (by decide) (by decide)) : cFr [19, 21, 35] [(18, 1)] q_73 q_84).t i_116 (by decide) (by decide)) : cFr [19, 21, 35] [(18, 1)] q_73 q_113).t i_125 (by decide) (by decide)) : cFr [19, 21, 35] [(18, 1)] q_73 q_122).i (by decide)), rfl, rfl, rfl, rfl, rfl, rfl, by omega, by omega, by omega, by omega, by omega, by omega, by omega, by omega⟩) (show (2 - Int32.toInt (x11_91 + 1)).toNat < (2 - Int32.toInt x11_91).toNat by omega)
                  · refine dOk_B (ok_X1_pay_s20 q_113 i_115 (show 0 ≤ Int32.toInt (q_113.1 21 0) by omega) (show Int32.toInt (q_113.1 21 0) ≤ 99 by omega)) (fun r_136 q_137 h_138 => ?_)
                    replace h_138 : (TC q_137) ∧ (cFr [19] [(18, 1)] q_113 q_137) ∧ (0 ≤ Int32.toInt r_136 ∧ Int32.toInt r_136 ≤ 99) := h_138
                    obtain ⟨i_139, i_140, i_141⟩ := h_138
                    have hFq_137 : cFr [19, 21, 35] [(18, 1)] q q_137 := hFq_113.t i_140 (by decide) (by decide)
                    unfold zX3_askCases_s32_s20_c1_173
                    refine dOk_V (ok_X3_caseNumber x5_13 x6_40 x9_74 x11_91 (show 1 ≤ Int32.toInt x5_13 by omega) (show Int32.toInt x5_13 ≤ 6 by omega) (show 0 ≤ Int32.toInt x6_40 by omega) (show Int32.toInt x6_40 ≤ 7 by omega) (show 0 ≤ Int32.toInt x9_74 by omega) (show Int32.toInt x9_74 ≤ 7 by omega) (show 0 ≤ Int32.toInt x11_91 by omega) (show Int32.toInt x11_91 ≤ 1 by omega)) (fun r_142 h_143 => ?_)
                    replace h_143 : (Int32.toInt r_142 = (((Int32.toInt x5_13 - 1) * 6 + Int32.toInt x6_40) * 7 + Int32.toInt x9_74) * 2 + Int32.toInt x11_91) := h_143
                    have i_144 := h_143
                    refine dOk_G (dg_ok (show 0 ≤ Int32.toInt r_142 by omega) (show Int32.toInt r_142 < ((504 : Nat) : Int) by omega)) ?_
                    have n_145 : ((Int32.toNatClampNeg r_142 : Nat) : Int) = Int32.toInt r_142 := cl_eq (by omega)
                    refine dOk_L (fun q_146 eq_146 => ?_)
                    have hTq_146 : TC q_146 := by rw [eq_146]; exact sa_35 i_139
                    have hFq_146 : cFr [19, 21, 35] [(18, 1)] q q_146 := by rw [eq_146]; exact hFq_137.i (by decide)
                    try have t_147 : Int32.toInt (x11_91 + 1) = Int32.toInt x11_91 + 1 := ti_add rfl (by decide) (by omega) (by omega)
                    exact hk_82 (q_146, 1, x5_13, x6_40, y0_42, x9_74, y0_75, (x11_91 + 1)) (show (TC q_146) ∧ (cFr [19, 21, 35] [(18, 1)] q_73 q_146) ∧ (1 = 1) ∧ (x5_13 = x5_13) ∧ (x6_40 = x6_40) ∧ (y0_42 = y0_42) ∧ (x9_74 = x9_74) ∧ (y0_75 = y0_75) ∧ (0 ≤ Int32.toInt (x11_91 + 1)) ∧ (Int32.toInt (x11_91 + 1) ≤ 2) ∧ (0 ≤ Int32.toInt x9_74) ∧ (Int32.toInt x9_74 ≤ 6) ∧ (0 ≤ Int32.toInt x6_40) ∧ (Int32.toInt x6_40 ≤ 5) ∧ (1 ≤ Int32.toInt x5_13) ∧ (Int32.toInt x5_13 ≤ 6) from ⟨hTq_146, (by rw [eq_146]; exact (((((((cFr.rf : cFr [19, 21, 35] [(18, 1)] q_73 q_73).t a_93 (by decide) (by decide)) : cFr [19, 21, 35] [(18, 1)] q_73 q_84).t i_116 (by decide) (by decide)) : cFr [19, 21, 35] [(18, 1)] q_73 q_113).t i_140 (by decide) (by decide)) : cFr [19, 21, 35] [(18, 1)] q_73 q_137).i (by decide)), rfl, rfl, rfl, rfl, rfl, rfl, by omega, by omega, by omega, by omega, by omega, by omega, by omega, by omega⟩) (show (2 - Int32.toInt (x11_91 + 1)).toNat < (2 - Int32.toInt x11_91).toNat by omega)
              · exact (show (TC q_73) ∧ (cFr [19, 21, 35] [(18, 1)] q_73 q_73) ∧ (1 = 1) ∧ (x5_13 = x5_13) ∧ (x6_40 = x6_40) ∧ (y0_42 = y0_42) ∧ (x9_74 = x9_74) ∧ (y0_75 = y0_75) ∧ (0 ≤ (0 : Int)) ∧ ((0 : Int) ≤ 2) ∧ (0 ≤ Int32.toInt x9_74) ∧ (Int32.toInt x9_74 ≤ 6) ∧ (0 ≤ Int32.toInt x6_40) ∧ (Int32.toInt x6_40 ≤ 5) ∧ (1 ≤ Int32.toInt x5_13) ∧ (Int32.toInt x5_13 ≤ 6) from ⟨hT_80, cFr.rf, rfl, rfl, rfl, rfl, rfl, rfl, by omega, by omega, by omega, by omega, by omega, by omega, by omega, by omega⟩)
              · show (2 - (0 : Int)).toNat < 1000000000000
                omega
            refine dOk_lt (A := Int32.toInt y0_42) (B := Int32.toInt x9_59) rfl rfl (fun c_148 => ?_) (fun c_149 => ?_)
            · try have t_150 : Int32.toInt (x6_40 + 1) = Int32.toInt x6_40 + 1 := ti_add rfl (by decide) (by omega) (by omega)
              exact hk_25 (q_54, 1, x5_13, (x6_40 + 1)) (show (TC q_54) ∧ (cFr [19, 21, 35] [(18, 1)] q_11 q_54) ∧ (1 = 1) ∧ (x5_13 = x5_13) ∧ (0 ≤ Int32.toInt (x6_40 + 1)) ∧ (Int32.toInt (x6_40 + 1) ≤ 6) ∧ (1 ≤ Int32.toInt x5_13) ∧ (Int32.toInt x5_13 ≤ 6) from ⟨a_60, ((((cFr.rf : cFr [19, 21, 35] [(18, 1)] q_11 q_11).t hF_51 (by decide) (by decide)) : cFr [19, 21, 35] [(18, 1)] q_11 q_39).t a_61 (by decide) (by decide)), rfl, rfl, by omega, by omega, by omega, by omega⟩) (show (6 - Int32.toInt (x6_40 + 1)).toNat < (6 - Int32.toInt x6_30).toNat by omega)
            · refine dOk_eq (A := Int32.toInt x9_59) (B := 6) rfl (by decide) (fun c_151z c_151 => ?_) (fun c_152z c_152 => ?_)
              · exact hn_76 q_54 x9_59 (-1) a_60 ((cFr.rf : cFr [19, 21, 35] [(18, 1)] q_39 q_39).t a_61 (by decide) (by decide)) (show 0 ≤ Int32.toInt x9_59 by omega) (show Int32.toInt x9_59 ≤ 6 by omega) (show Int32.toInt x9_59 = Int32.toInt x9_59 by omega)
              · refine dOk_G (dg_ok (show 0 ≤ Int32.toInt x9_59 by omega) (show Int32.toInt x9_59 < ((6 : Nat) : Int) by omega)) ?_
                have n_154 : ((Int32.toNatClampNeg x9_59 : Nat) : Int) = Int32.toInt x9_59 := cl_eq (by omega)
                refine dOk_L (fun v_155 ev_155 => ?_)
                exact hn_76 q_54 x9_59 v_155 a_60 ((cFr.rf : cFr [19, 21, 35] [(18, 1)] q_39 q_39).t a_61 (by decide) (by decide)) (show 0 ≤ Int32.toInt x9_59 by omega) (show Int32.toInt x9_59 ≤ 6 by omega) (show Int32.toInt x9_59 = Int32.toInt x9_59 by omega)
          · exact (show (TC q_39) ∧ (cFr [19, 21, 35] [(18, 1)] q_39 q_39) ∧ (1 = 1) ∧ (x5_13 = x5_13) ∧ (x6_40 = x6_40) ∧ (y0_42 = y0_42) ∧ (0 ≤ Int32.toInt x7_41) ∧ (Int32.toInt x7_41 ≤ 7) ∧ (Int32.toInt y0_42 ≤ 6) ∧ (0 ≤ Int32.toInt x6_40) ∧ (Int32.toInt x6_40 ≤ 5) ∧ (1 ≤ Int32.toInt x5_13) ∧ (Int32.toInt x5_13 ≤ 6) from ⟨hT_50, cFr.rf, rfl, rfl, rfl, rfl, by omega, by omega, by omega, by omega, by omega, by omega, by omega⟩)
          · show (7 - Int32.toInt x7_41).toNat < 1000000000000
            omega
        have f_156 : 0 ≤ Int32.toInt (q_27.1 32 13) ∧ Int32.toInt (q_27.1 32 13) ≤ 6 := rg_32_13 a_31
        have w_157 : Int32.toInt (q_27.1 32 13) = Int32.toInt (q_11.1 32 13) := by rw [a_32.1 32 13 (by decide) (by decide)]
        refine dOk_le (A := Int32.toInt (q_27.1 32 13)) (B := Int32.toInt x6_30) rfl rfl (fun c_158 => ?_) (fun c_159 => ?_)
        · try have t_160 : Int32.toInt (x5_13 + 1) = Int32.toInt x5_13 + 1 := ti_add rfl (by decide) (by omega) (by omega)
          exact hk_9 (q_27, 1, (x5_13 + 1)) (show (TC q_27) ∧ (cFr [19, 21, 35] [(18, 1)] q_5 q_27) ∧ (1 = 1) ∧ (1 ≤ Int32.toInt (x5_13 + 1)) ∧ (Int32.toInt (x5_13 + 1) ≤ 7) from ⟨a_31, ((((cFr.rf : cFr [19, 21, 35] [(18, 1)] q_5 q_5).t a_15 (by decide) (by decide)) : cFr [19, 21, 35] [(18, 1)] q_5 q_11).t a_32 (by decide) (by decide)), rfl, by omega, by omega⟩) (show (7 - Int32.toInt (x5_13 + 1)).toNat < (7 - Int32.toInt x5_13).toNat by omega)
        · refine dOk_le (A := Int32.toInt (q_27.1 32 13)) (B := Int32.toInt x5_13) rfl rfl (fun c_161 => ?_) (fun c_162 => ?_)
          · unfold zX3_askCases_s32_s20_c1_72
            refine dOk_le (A := Int32.toInt (q_27.1 32 13)) (B := Int32.toInt x5_13) rfl rfl (fun c_163 => ?_) (fun c_164 => ?_)
            · exact hn_43 q_27 x6_30 6 6 a_31 ((cFr.rf : cFr [19, 21, 35] [(18, 1)] q_11 q_11).t a_32 (by decide) (by decide)) (show 0 ≤ Int32.toInt x6_30 by omega) (show Int32.toInt x6_30 ≤ 5 by omega) (show Int32.toInt x6_30 = Int32.toInt x6_30 by omega) (show 0 ≤ (6 : Int) by omega) (show (6 : Int) ≤ 6 by omega) (show (6 : Int) ≤ 6 by omega)
            · try have t_165 : Int32.toInt (q_27.1 32 13 - 1) = Int32.toInt (q_27.1 32 13) - 1 := ti_sub rfl (by decide) (by omega) (by omega)
              exact hn_43 q_27 x6_30 6 (q_27.1 32 13 - 1) a_31 ((cFr.rf : cFr [19, 21, 35] [(18, 1)] q_11 q_11).t a_32 (by decide) (by decide)) (show 0 ≤ Int32.toInt x6_30 by omega) (show Int32.toInt x6_30 ≤ 5 by omega) (show Int32.toInt x6_30 = Int32.toInt x6_30 by omega) (show 0 ≤ (6 : Int) by omega) (show (6 : Int) ≤ 6 by omega) (show Int32.toInt (q_27.1 32 13 - 1) ≤ 6 by omega)
          · unfold zX3_askCases_s32_s20_c1_72
            refine dOk_le (A := Int32.toInt (q_27.1 32 13)) (B := Int32.toInt x5_13) rfl rfl (fun c_166 => ?_) (fun c_167 => ?_)
            · exact hn_43 q_27 x6_30 0 6 a_31 ((cFr.rf : cFr [19, 21, 35] [(18, 1)] q_11 q_11).t a_32 (by decide) (by decide)) (show 0 ≤ Int32.toInt x6_30 by omega) (show Int32.toInt x6_30 ≤ 5 by omega) (show Int32.toInt x6_30 = Int32.toInt x6_30 by omega) (show 0 ≤ (0 : Int) by omega) (show (0 : Int) ≤ 6 by omega) (show (6 : Int) ≤ 6 by omega)
            · try have t_168 : Int32.toInt (q_27.1 32 13 - 1) = Int32.toInt (q_27.1 32 13) - 1 := ti_sub rfl (by decide) (by omega) (by omega)
              exact hn_43 q_27 x6_30 0 (q_27.1 32 13 - 1) a_31 ((cFr.rf : cFr [19, 21, 35] [(18, 1)] q_11 q_11).t a_32 (by decide) (by decide)) (show 0 ≤ Int32.toInt x6_30 by omega) (show Int32.toInt x6_30 ≤ 5 by omega) (show Int32.toInt x6_30 = Int32.toInt x6_30 by omega) (show 0 ≤ (0 : Int) by omega) (show (0 : Int) ≤ 6 by omega) (show Int32.toInt (q_27.1 32 13 - 1) ≤ 6 by omega)
      · exact (show (TC q_11) ∧ (cFr [19, 21, 35] [(18, 1)] q_11 q_11) ∧ (1 = 1) ∧ (x5_13 = x5_13) ∧ (0 ≤ (0 : Int)) ∧ ((0 : Int) ≤ 6) ∧ (1 ≤ Int32.toInt x5_13) ∧ (Int32.toInt x5_13 ≤ 6) from ⟨a_14, cFr.rf, rfl, rfl, by omega, by omega, by omega, by omega⟩)
      · show (6 - (0 : Int)).toNat < 1000000000000
        omega
  · exact (show (TC q_5) ∧ (cFr [19, 21, 35] [(18, 1)] q_5 q_5) ∧ (1 = 1) ∧ (1 ≤ (1 : Int)) ∧ ((1 : Int) ≤ 7) from ⟨i_7, cFr.rf, rfl, by omega, by omega⟩)
  · show (7 - (1 : Int)).toNat < 1000000000000
    omega
