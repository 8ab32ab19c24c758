section
set_option maxHeartbeats 4000000 in
set_option maxRecDepth 100000 in
theorem ok_X3_headsTurned (p1 : Int32) (p2 : Int32) (hp0 : 0 ≤ Int32.toInt p1) (hp1 : Int32.toInt p1 ≤ 63) (hp2 : 1 ≤ Int32.toInt p2) (hp3 : Int32.toInt p2 ≤ 6) : dOk (zX3_headsTurned p1 p2) (fun (o : Int32) => (0 ≤ Int32.toInt o ∧ Int32.toInt o ≤ 63)) := by
  unfold zX3_headsTurned
  unfold zX3_headsTurned_4
  refine dFix_ok (fun (a : Int32 × Int32 × Int32 × Int32) => (a.1 = p1) ∧ (a.2.1 = p2) ∧ (0 ≤ Int32.toInt a.2.2.2) ∧ (Int32.toInt a.2.2.2 ≤ Int32.toInt a.2.1) ∧ (0 ≤ Int32.toInt a.2.2.1 ∧ Int32.toInt a.2.2.1 ≤ 63)) (fun (a : Int32 × Int32 × Int32 × Int32) => (Int32.toInt a.2.1 - Int32.toInt a.2.2.2).toNat) ?_ _ ?_ _ (dF_gt ?_)
  · intro a ha k_2 hk_1
    obtain ⟨x0_3, x1_4, x2_5, x3_6⟩ := a
    replace ha : (x0_3 = p1) ∧ (x1_4 = p2) ∧ (0 ≤ Int32.toInt x3_6) ∧ (Int32.toInt x3_6 ≤ Int32.toInt x1_4) ∧ (0 ≤ Int32.toInt x2_5 ∧ Int32.toInt x2_5 ≤ 63) := ha
    obtain ⟨a_7, a_8, a_9, a_10, a_11⟩ := ha
    show dOk (zX3_headsTurned_4b  (fun x0 x1 x2 x3 => k_2 (x0, x1, x2, x3)) x0_3 x1_4 x2_5 x3_6) _
    unfold zX3_headsTurned_4b
    subst x0_3
    subst x1_4
    refine dOk_le (A := Int32.toInt p2) (B := Int32.toInt x3_6) rfl rfl (fun c_12 => ?_) (fun c_13 => ?_)
    · try have t_15 := ti_shr (x := p1) (s := p2) (by omega)
      try have t_16 := sl_r (x := p1) (s := p2) (by omega) (by omega) (by omega) (by omega)
      try have t_17 := ti_or (x := p1 >>> ((p2 : Int32) &&& 31) <<< ((p2 : Int32) &&& 31)) (y := x2_5) 6 (by decide) (by omega) (by omega) (by omega) (by omega)
      refine dOk_L (fun v_14 ev_14 => ?_)
      have w_18 : Int32.toInt v_14 = Int32.toInt (p1 >>> ((p2 : Int32) &&& 31) <<< ((p2 : Int32) &&& 31) ||| x2_5) := by rw [ev_14]
      exact dOk_some (show (0 ≤ Int32.toInt v_14 ∧ Int32.toInt v_14 ≤ 63) from (by omega))
    · try have t_20 := ti_shr (x := p1) (s := x3_6) (by omega)
      have t_21 := ti_and1 (p1 >>> ((x3_6 : Int32) &&& 31))
      try have t_22 : Int32.toInt (1 - (p1 >>> ((x3_6 : Int32) &&& 31) &&& 1)) = 1 - Int32.toInt (p1 >>> ((x3_6 : Int32) &&& 31) &&& 1) := ti_sub (by decide) rfl (by omega) (by omega)
      try have t_23 : Int32.toInt (p2 - 1) = Int32.toInt p2 - 1 := ti_sub rfl (by decide) (by omega) (by omega)
      try have t_24 : Int32.toInt (p2 - 1 - x3_6) = Int32.toInt (p2 - 1) - Int32.toInt x3_6 := ti_sub rfl rfl (by omega) (by omega)
      try have t_25 := ti_shl5 (x := 1 - (p1 >>> ((x3_6 : Int32) &&& 31) &&& 1)) (s := p2 - 1 - x3_6) (by omega) (by omega) (by omega) (by omega)
      try have t_26 := ti_shl6 (x := 1 - (p1 >>> ((x3_6 : Int32) &&& 31) &&& 1)) (s := p2 - 1 - x3_6) (by omega) (by omega) (by omega) (by omega)
      refine dOk_L (fun v_19 ev_19 => ?_)
      have w_27 : Int32.toInt v_19 = Int32.toInt ((1 - (p1 >>> ((x3_6 : Int32) &&& 31) &&& 1)) <<< ((p2 - 1 - x3_6 : Int32) &&& 31)) := by rw [ev_19]
      try have t_28 := ti_or (x := x2_5) (y := v_19) 6 (by decide) (by omega) (by omega) (by omega) (by omega)
      try have t_29 : Int32.toInt (x3_6 + 1) = Int32.toInt x3_6 + 1 := ti_add rfl (by decide) (by omega) (by omega)
      exact hk_1 (p1, p2, (x2_5 ||| v_19), (x3_6 + 1)) (show (p1 = p1) ∧ (p2 = p2) ∧ (0 ≤ Int32.toInt (x3_6 + 1)) ∧ (Int32.toInt (x3_6 + 1) ≤ Int32.toInt p2) ∧ (0 ≤ Int32.toInt (x2_5 ||| v_19) ∧ Int32.toInt (x2_5 ||| v_19) ≤ 63) from ⟨rfl, rfl, by omega, by omega, by omega⟩) (show (Int32.toInt p2 - Int32.toInt (x3_6 + 1)).toNat < (Int32.toInt p2 - Int32.toInt x3_6).toNat by omega)
  · exact (show (p1 = p1) ∧ (p2 = p2) ∧ (0 ≤ (0 : Int)) ∧ ((0 : Int) ≤ Int32.toInt p2) ∧ (0 ≤ (0 : Int) ∧ (0 : Int) ≤ 63) from ⟨rfl, rfl, by omega, by omega, by omega⟩)
  · show (Int32.toInt p2 - (0 : Int)).toNat < 1000000000000
    omega

set_option maxHeartbeats 4000000 in
set_option maxRecDepth 100000 in
theorem ok_X3_indexOfRank_s32 (q : dK) (p1 : Int32) (hT : TC q) : dOk (zX3_indexOfRank_s32 q p1) (fun (o : Int32 × dK) => (o.2 = q) ∧ (-1 ≤ Int32.toInt o.1 ∧ Int32.toInt o.1 ≤ 5)) := by
  unfold zX3_indexOfRank_s32
  unfold zX3_indexOfRank_s32_2
  refine dFix_ok (fun (a : dK × Int32 × Int32) => (a.1 = q) ∧ (a.2.1 = p1) ∧ (0 ≤ Int32.toInt a.2.2) ∧ (Int32.toInt a.2.2 ≤ 6)) (fun (a : dK × Int32 × Int32) => (6 - Int32.toInt a.2.2).toNat) ?_ _ ?_ _ (dF_gt ?_)
  · intro a ha k_2 hk_1
    obtain ⟨q_3, x1_4, x2_5⟩ := a
    replace ha : (q_3 = q) ∧ (x1_4 = p1) ∧ (0 ≤ Int32.toInt x2_5) ∧ (Int32.toInt x2_5 ≤ 6) := ha
    obtain ⟨a_6, a_7, a_8, a_9⟩ := ha
    show dOk (zX3_indexOfRank_s32_2b  (fun q x1 x2 => k_2 (q, x1, x2)) q_3 x1_4 x2_5) _
    unfold zX3_indexOfRank_s32_2b
    subst q_3
    subst x1_4
    have f_10 : 0 ≤ Int32.toInt (q.1 32 13) ∧ Int32.toInt (q.1 32 13) ≤ 6 := rg_32_13 hT
    refine dOk_le (A := Int32.toInt (q.1 32 13)) (B := Int32.toInt x2_5) rfl rfl (fun c_11 => ?_) (fun c_12 => ?_)
    · exact dOk_some (show (q = q) ∧ (-1 ≤ (-1 : Int) ∧ (-1 : Int) ≤ 5) from ⟨rfl, by omega⟩)
    · refine dOk_G (dg_ok (show 0 ≤ Int32.toInt x2_5 by omega) (show Int32.toInt x2_5 < ((6 : Nat) : Int) by omega)) ?_
      have n_13 : ((Int32.toNatClampNeg x2_5 : Nat) : Int) = Int32.toInt x2_5 := cl_eq (by omega)
      refine dOk_L (fun v_14 ev_14 => ?_)
      refine dOk_eq (A := Int32.toInt v_14) (B := Int32.toInt p1) rfl rfl (fun c_15z c_15 => ?_) (fun c_16z c_16 => ?_)
      · exact dOk_some (show (q = q) ∧ (-1 ≤ Int32.toInt x2_5 ∧ Int32.toInt x2_5 ≤ 5) from ⟨rfl, by omega⟩)
      · try have t_18 : Int32.toInt (x2_5 + 1) = Int32.toInt x2_5 + 1 := ti_add rfl (by decide) (by omega) (by omega)
        exact hk_1 (q, p1, (x2_5 + 1)) (show (q = q) ∧ (p1 = p1) ∧ (0 ≤ Int32.toInt (x2_5 + 1)) ∧ (Int32.toInt (x2_5 + 1) ≤ 6) from ⟨rfl, rfl, by omega, by omega⟩) (show (6 - Int32.toInt (x2_5 + 1)).toNat < (6 - Int32.toInt x2_5).toNat by omega)
  · exact (show (q = q) ∧ (p1 = p1) ∧ (0 ≤ (0 : Int)) ∧ ((0 : Int) ≤ 6) from ⟨rfl, rfl, by omega, by omega⟩)
  · show (6 - (0 : Int)).toNat < 1000000000000
    omega

set_option maxHeartbeats 4000000 in
set_option maxRecDepth 100000 in
theorem ok_X3_askCases_s32_s20_c1 (q : dK) (p2 : Int32) (hT : TC q) : dOk (zX3_askCases_s32_s20_c1 q p2) (fun (o : dK) => (TC o) ∧ (cFr [19, 21, 35] [(18, 1)] q o)) := by
  unfold zX3_askCases_s32_s20_c1
  unfold zX3_askCases_s32_s20_c1_16
  refine dOk_L (fun q_1 eq_1 => ?_)
  have hTq_1 : TC q_1 := by rw [eq_1]; exact tc_cfi hT (by decide)
  have hFq_1 : cFr [19, 21, 35] [(18, 1)] q q_1 := by rw [eq_1]; exact (cFr.rf (q := q)).g (by decide)
  have f_2 : 0 ≤ Int32.toInt (q_1.1 32 13) ∧ Int32.toInt (q_1.1 32 13) ≤ 6 := rg_32_13 hTq_1
  have f_3 : 0 ≤ Int32.toInt (q.1 32 13) ∧ Int32.toInt (q.1 32 13) ≤ 6 := rg_32_13 hT
  have w_4 : Int32.toInt (q_1.1 32 13) = Int32.toInt (q.1 32 13) := by rw [eq_1]; rfl
  refine dOk_V (ok_X1_setCommon_s20 q_1 (q_1.1 32 13) p2 hTq_1) (fun q_5 h_6 => ?_)
  replace h_6 : (TC q_5) ∧ (cFr [21] [] q_1 q_5) := h_6
  obtain ⟨i_7, i_8⟩ := h_6
  have hFq_5 : cFr [19, 21, 35] [(18, 1)] q q_5 := hFq_1.t i_8 (by decide) (by decide)
  unfold zX3_askCases_s32_s20_c1_36
  refine dFix_ok (fun (a : dK × Int32 × Int32) => (TC a.1) ∧ (cFr [19, 21, 35] [(18, 1)] q_5 a.1) ∧ (a.2.1 = 1) ∧ (1 ≤ Int32.toInt a.2.2) ∧ (Int32.toInt a.2.2 ≤ 7)) (fun (a : dK × Int32 × Int32) => (7 - Int32.toInt a.2.2).toNat) ?_ _ ?_ _ (dF_gt ?_)
  · intro a ha k_10 hk_9
    obtain ⟨q_11, x3_12, x5_13⟩ := a
    replace ha : (TC q_11) ∧ (cFr [19, 21, 35] [(18, 1)] q_5 q_11) ∧ (x3_12 = 1) ∧ (1 ≤ Int32.toInt x5_13) ∧ (Int32.toInt x5_13 ≤ 7) := ha
    obtain ⟨a_14, a_15, a_16, a_17, a_18⟩ := ha
    show dOk (zX3_askCases_s32_s20_c1_36b  (fun q x3 x5 => k_10 (q, x3, x5)) q_11 x3_12 x5_13) _
    unfold zX3_askCases_s32_s20_c1_36b
    have hFq_11 : cFr [19, 21, 35] [(18, 1)] q q_11 := hFq_5.t a_15 (by decide) (by decide)
    subst x3_12
    have f_19 : 0 ≤ Int32.toInt (q_11.1 32 13) ∧ Int32.toInt (q_11.1 32 13) ≤ 6 := rg_32_13 a_14
    have f_20 : 0 ≤ Int32.toInt (q_5.1 32 13) ∧ Int32.toInt (q_5.1 32 13) ≤ 6 := rg_32_13 i_7
    have w_21 : Int32.toInt (q_5.1 32 13) = Int32.toInt (q_1.1 32 13) := by rw [i_8.1 32 13 (by decide) (by decide)]
    have w_22 : Int32.toInt (q_11.1 32 13) = Int32.toInt (q_5.1 32 13) := by rw [a_15.1 32 13 (by decide) (by decide)]
    refine dOk_lt (A := Int32.toInt (q_11.1 32 13)) (B := Int32.toInt x5_13) rfl rfl (fun c_23 => ?_) (fun c_24 => ?_)
    · exact dOk_some (show (TC q_11) ∧ (cFr [19, 21, 35] [(18, 1)] q q_11) from ⟨a_14, hFq_11⟩)
    · unfold zX3_askCases_s32_s20_c1_48
      refine dFix_ok (fun (a : dK × Int32 × Int32 × Int32) => (TC a.1) ∧ (cFr [19, 21, 35] [(18, 1)] q_11 a.1) ∧ (a.2.1 = 1) ∧ (a.2.2.1 = x5_13) ∧ (0 ≤ Int32.toInt a.2.2.2) ∧ (Int32.toInt a.2.2.2 ≤ 6) ∧ (1 ≤ Int32.toInt a.2.2.1) ∧ (Int32.toInt a.2.2.1 ≤ 6)) (fun (a : dK × Int32 × Int32 × Int32) => (6 - Int32.toInt a.2.2.2).toNat) ?_ _ ?_ _ (dF_gt ?_)
      · intro a ha k_26 hk_25
        obtain ⟨q_27, x3_28, x5_29, x6_30⟩ := a
        replace ha : (TC q_27) ∧ (cFr [19, 21, 35] [(18, 1)] q_11 q_27) ∧ (x3_28 = 1) ∧ (x5_29 = x5_13) ∧ (0 ≤ Int32.toInt x6_30) ∧ (Int32.toInt x6_30 ≤ 6) ∧ (1 ≤ Int32.toInt x5_29) ∧ (Int32.toInt x5_29 ≤ 6) := ha
        obtain ⟨a_31, a_32, a_33, a_34, a_35, a_36, a_37, a_38⟩ := ha
        show dOk (zX3_askCases_s32_s20_c1_48b _ (fun q x3 x5 x6 => k_26 (q, x3, x5, x6)) q_27 x3_28 x5_29 x6_30) _
        unfold zX3_askCases_s32_s20_c1_48b
        have hFq_27 : cFr [19, 21, 35] [(18, 1)] q q_27 := hFq_11.t a_32 (by decide) (by decide)
        subst x3_28
        subst x5_29
        have hn_43 : ∀ (q_39 : dK) (x6_40 : Int32) (x7_41 : Int32) (y0_42 : Int32), TC q_39 → cFr [19, 21, 35] [(18, 1)] q_11 q_39 → (0 ≤ Int32.toInt x6_40) → (Int32.toInt x6_40 ≤ 5) → (Int32.toInt x6_40 = Int32.toInt x6_30) → (0 ≤ Int32.toInt x7_41) → (Int32.toInt x7_41 ≤ 6) → (Int32.toInt y0_42 ≤ 6) → dOk (zX3_askCases_s32_s20_c1_94 (fun q x3 x5 => k_10 (q, x3, x5)) (fun q x3 x5 x6 => k_26 (q, x3, x5, x6)) q_39 1 x5_13 x6_40 x7_41 y0_42 ) (fun (o : dK) => (TC o) ∧ (cFr [19, 21, 35] [(18, 1)] q o)) := by
          intro q_39 x6_40 x7_41 y0_42 hT_50 hF_51 b_44 b_45 b_46 b_47 b_48 b_49
          unfold zX3_askCases_s32_s20_c1_94
          have hFq_39 : cFr [19, 21, 35] [(18, 1)] q q_39 := hFq_11.t hF_51 (by decide) (by decide)
          unfold zX3_askCases_s32_s20_c1_100
          refine dFix_ok (fun (a : dK × Int32 × Int32 × Int32 × Int32 × Int32) => (TC a.1) ∧ (cFr [19, 21, 35] [(18, 1)] q_39 a.1) ∧ (a.2.1 = 1) ∧ (a.2.2.1 = x5_13) ∧ (a.2.2.2.1 = x6_40) ∧ (a.2.2.2.2.1 = y0_42) ∧ (0 ≤ Int32.toInt a.2.2.2.2.2) ∧ (Int32.toInt a.2.2.2.2.2 ≤ 7) ∧ (Int32.toInt a.2.2.2.2.1 ≤ 6) ∧ (0 ≤ Int32.toInt a.2.2.2.1) ∧ (Int32.toInt a.2.2.2.1 ≤ 5) ∧ (1 ≤ Int32.toInt a.2.2.1) ∧ (Int32.toInt a.2.2.1 ≤ 6)) (fun (a : dK × Int32 × Int32 × Int32 × Int32 × Int32) => (7 - Int32.toInt a.2.2.2.2.2).toNat) ?_ _ ?_ _ (dF_gt ?_)
          · intro a ha k_53 hk_52
            obtain ⟨q_54, x3_55, x5_56, x6_57, x8_58, x9_59⟩ := a
            replace ha : (TC q_54) ∧ (cFr [19, 21, 35] [(18, 1)] q_39 q_54) ∧ (x3_55 = 1) ∧ (x5_56 = x5_13) ∧ (x6_57 = x6_40) ∧ (x8_58 = y0_42) ∧ (0 ≤ Int32.toInt x9_59) ∧ (Int32.toInt x9_59 ≤ 7) ∧ (Int32.toInt x8_58 ≤ 6) ∧ (0 ≤ Int32.toInt x6_57) ∧ (Int32.toInt x6_57 ≤ 5) ∧ (1 ≤ Int32.toInt x5_56) ∧ (Int32.toInt x5_56 ≤ 6) := ha
            obtain ⟨a_60, a_61, a_62, a_63, a_64, a_65, a_66, a_67, a_68, a_69, a_70, a_71, a_72⟩ := ha
            show dOk (zX3_askCases_s32_s20_c1_100b _ _ (fun q x3 x5 x6 x8 x9 => k_53 (q, x3, x5, x6, x8, x9)) q_54 x3_55 x5_56 x6_57 x8_58 x9_59) _
            unfold zX3_askCases_s32_s20_c1_100b
            have hFq_54 : cFr [19, 21, 35] [(18, 1)] q q_54 := hFq_39.t a_61 (by decide) (by decide)
            subst x3_55
            subst x5_56
            subst x6_57
            subst x8_58
            have hn_76 : ∀ (q_73 : dK) (x9_74 : Int32) (y0_75 : Int32), TC q_73 → cFr [19, 21, 35] [(18, 1)] q_39 q_73 → (0 ≤ Int32.toInt x9_74) → (Int32.toInt x9_74 ≤ 6) → (Int32.toInt x9_74 = Int32.toInt x9_59) → dOk (zX3_askCases_s32_s20_c1_125 (fun q x3 x5 => k_10 (q, x3, x5)) (fun q x3 x5 x6 => k_26 (q, x3, x5, x6)) (fun q x3 x5 x6 x8 x9 => k_53 (q, x3, x5, x6, x8, x9)) q_73 1 x5_13 x6_40 y0_42 x9_74 y0_75 ) (fun (o : dK) => (TC o) ∧ (cFr [19, 21, 35] [(18, 1)] q o)) := by
              intro q_73 x9_74 y0_75 hT_80 hF_81 b_77 b_78 b_79
              unfold zX3_askCases_s32_s20_c1_125
              have hFq_73 : cFr [19, 21, 35] [(18, 1)] q q_73 := hFq_39.t hF_81 (by decide) (by decide)
              unfold zX3_askCases_s32_s20_c1_130
              refine dFix_ok (fun (a : dK × Int32 × Int32 × Int32 × Int32 × Int32 × Int32 × Int32) => (TC a.1) ∧ (cFr [19, 21, 35] [(18, 1)] q_73 a.1) ∧ (a.2.1 = 1) ∧ (a.2.2.1 = x5_13) ∧ (a.2.2.2.1 = x6_40) ∧ (a.2.2.2.2.1 = y0_42) ∧ (a.2.2.2.2.2.1 = x9_74) ∧ (a.2.2.2.2.2.2.1 = y0_75) ∧ (0 ≤ Int32.toInt a.2.2.2.2.2.2.2) ∧ (Int32.toInt a.2.2.2.2.2.2.2 ≤ 2) ∧ (0 ≤ Int32.toInt a.2.2.2.2.2.1) ∧ (Int32.toInt a.2.2.2.2.2.1 ≤ 6) ∧ (0 ≤ Int32.toInt a.2.2.2.1) ∧ (Int32.toInt a.2.2.2.1 ≤ 5) ∧ (1 ≤ Int32.toInt a.2.2.1) ∧ (Int32.toInt a.2.2.1 ≤ 6)) (fun (a : dK × Int32 × Int32 × Int32 × Int32 × Int32 × Int32 × Int32) => (2 - Int32.toInt a.2.2.2.2.2.2.2).toNat) ?_ _ ?_ _ (dF_gt ?_)
              · intro a ha k_83 hk_82
                obtain ⟨q_84, x3_85, x5_86, x6_87, x8_88, x9_89, x10_90, x11_91⟩ := a
                replace ha : (TC q_84) ∧ (cFr [19, 21, 35] [(18, 1)] q_73 q_84) ∧ (x3_85 = 1) ∧ (x5_86 = x5_13) ∧ (x6_87 = x6_40) ∧ (x8_88 = y0_42) ∧ (x9_89 = x9_74) ∧ (x10_90 = y0_75) ∧ (0 ≤ Int32.toInt x11_91) ∧ (Int32.toInt x11_91 ≤ 2) ∧ (0 ≤ Int32.toInt x9_89) ∧ (Int32.toInt x9_89 ≤ 6) ∧ (0 ≤ Int32.toInt x6_87) ∧ (Int32.toInt x6_87 ≤ 5) ∧ (1 ≤ Int32.toInt x5_86) ∧ (Int32.toInt x5_86 ≤ 6) := ha
                obtain ⟨a_92, a_93, a_94, a_95, a_96, a_97, a_98, a_99, a_100, a_101, a_102, a_103, a_104, a_105, a_106, a_107⟩ := ha
                show dOk (zX3_askCases_s32_s20_c1_130b _ _ _ (fun q x3 x5 x6 x8 x9 x10 x11 => k_83 (q, x3, x5, x6, x8, x9, x10, x11)) q_84 x3_85 x5_86 x6_87 x8_88 x9_89 x10_90 x11_91) _
                unfold zX3_askCases_s32_s20_c1_130b
                have hFq_84 : cFr [19, 21, 35] [(18, 1)] q q_84 := hFq_73.t a_93 (by decide) (by decide)
                subst x3_85
                subst x5_86
                subst x6_87
                subst x8_88
                subst x9_89
                subst x10_90
                refine dOk_le (A := 2) (B := Int32.toInt x11_91) (by decide) rfl (fun c_108 => ?_) (fun c_109 => ?_)
                · try have t_110 : Int32.toInt (x9_74 + 1) = Int32.toInt x9_74 + 1 := ti_add rfl (by decide) (by omega) (by omega)
                  exact hk_52 (q_84, 1, x5_13, x6_40, y0_42, (x9_74 + 1)) (show (TC q_84) ∧ (cFr [19, 21, 35] [(18, 1)] q_39 q_84) ∧ (1 = 1) ∧ (x5_13 = x5_13) ∧ (x6_40 = x6_40) ∧ (y0_42 = y0_42) ∧ (0 ≤ Int32.toInt (x9_74 + 1)) ∧ (Int32.toInt (x9_74 + 1) ≤ 7) ∧ (Int32.toInt y0_42 ≤ 6) ∧ (0 ≤ Int32.toInt x6_40) ∧ (Int32.toInt x6_40 ≤ 5) ∧ (1 ≤ Int32.toInt x5_13) ∧ (Int32.toInt x5_13 ≤ 6) from ⟨a_92, ((((cFr.rf : cFr [19, 21, 35] [(18, 1)] q_39 q_39).t hF_81 (by decide) (by decide)) : cFr [19, 21, 35] [(18, 1)] q_39 q_73).t a_93 (by decide) (by decide)), rfl, rfl, rfl, rfl, by omega, by omega, by omega, by omega, by omega, by omega, by omega⟩) (show (7 - Int32.toInt (x9_74 + 1)).toNat < (7 - Int32.toInt x9_59).toNat by omega)
                · refine dOk_G (dg_ok (show 0 ≤ Int32.toInt x6_40 by omega) (show Int32.toInt x6_40 < ((6 : Nat) : Int) by omega)) ?_
                  have n_111 : ((Int32.toNatClampNeg x6_40 : Nat) : Int) = Int32.toInt x6_40 := cl_eq (by omega)
                  refine dOk_L (fun v_112 ev_112 => ?_)
                  refine dOk_V (ok_X1_setGrip_s20 q_84 x5_13 v_112 y0_75 x11_91 a_92) (fun q_113 h_114 => ?_)
                  replace h_114 : (TC q_113) ∧ (cFr [21] [] q_84 q_113) ∧ (Int32.toInt (q_113.1 21 0) = Int32.toInt x5_13) := h_114
                  obtain ⟨i_115, i_116, i_117⟩ := h_114
                  have hFq_113 : cFr [19, 21, 35] [(18, 1)] q q_113 := hFq_84.t i_116 (by decide) (by decide)
                  refine dOk_eq (A := 1) (B := 1) (by decide) (by decide) (fun c_118z c_118 => ?_) (fun c_119z c_119 => ?_)
                  · refine dOk_B (ok_X1_anyHolds_s20 q_113 1 i_115) (fun r_121 q_122 h_123 => ?_)
                    replace h_123 : (TC q_122) ∧ (cFr [19] [(18, 1)] q_113 q_122) ∧ ((Int32.toInt r_121 = 0 ∨ Int32.toInt r_121 = 1)) := h_123
                    obtain ⟨i_124, i_125, i_126⟩ := h_123
                    have hFq_122 : cFr [19, 21, 35] [(18, 1)] q q_122 := hFq_113.t i_125 (by decide) (by decide)
                    refine dOk_V (ok_X9_bit r_121) (fun r_127 h_128 => ?_)
                    replace h_128 : ((Int32.toInt r_127 = 0 ∨ Int32.toInt r_127 = 1)) := h_128
                    have i_129 := h_128
                    unfold zX3_askCases_s32_s20_c1_173
                    refine dOk_V (ok_X3_caseNumber x5_13 x6_40 x9_74 x11_91 (show 1 ≤ Int32.toInt x5_13 by omega) (show Int32.toInt x5_13 ≤ 6 by omega) (show 0 ≤ Int32.toInt x6_40 by omega) (show Int32.toInt x6_40 ≤ 7 by omega) (show 0 ≤ Int32.toInt x9_74 by omega) (show Int32.toInt x9_74 ≤ 7 by omega) (show 0 ≤ Int32.toInt x11_91 by omega) (show Int32.toInt x11_91 ≤ 1 by omega)) (fun r_130 h_131 => ?_)
                    replace h_131 : (Int32.toInt r_130 = (((Int32.toInt x5_13 - 1) * 6 + Int32.toInt x6_40) * 7 + Int32.toInt x9_74) * 2 + Int32.toInt x11_91) := h_131
                    have i_132 := h_131
                    refine dOk_G (dg_ok (show 0 ≤ Int32.toInt r_130 by omega) (show Int32.toInt r_130 < ((504 : Nat) : Int) by omega)) ?_
                    have n_133 : ((Int32.toNatClampNeg r_130 : Nat) : Int) = Int32.toInt r_130 := cl_eq (by omega)
                    refine dOk_L (fun q_134 eq_134 => ?_)
                    have hTq_134 : TC q_134 := by rw [eq_134]; exact sa_35 i_124
                    have hFq_134 : cFr [19, 21, 35] [(18, 1)] q q_134 := by rw [eq_134]; exact hFq_122.i (by decide)
                    try have t_135 : Int32.toInt (x11_91 + 1) = Int32.toInt x11_91 + 1 := ti_add rfl (by decide) (by omega) (by omega)
                    exact hk_82 (q_134, 1, x5_13, x6_40, y0_42, x9_74, y0_75, (x11_91 + 1)) (show (TC q_134) ∧ (cFr [19, 21, 35] [(18, 1)] q_73 q_134) ∧ (1 = 1) ∧ (x5_13 = x5_13) ∧ (x6_40 = x6_40) ∧ (y0_42 = y0_42) ∧ (x9_74 = x9_74) ∧ (y0_75 = y0_75) ∧ (0 ≤ Int32.toInt (x11_91 + 1)) ∧ (Int32.toInt (x11_91 + 1) ≤ 2) ∧ (0 ≤ Int32.toInt x9_74) ∧ (Int32.toInt x9_74 ≤ 6) ∧ (0 ≤ Int32.toInt x6_40) ∧ (Int32.toInt x6_40 ≤ 5) ∧ (1 ≤ Int32.toInt x5_13) ∧ (Int32.toInt x5_13 ≤ 6) from ⟨hTq_134, (by rw [eq_134]; exact (((((((cFr.rf : cFr [19, 21, 35] [(18, 1)] q_73 q_73).t a_93 (by decide) (by decide)) : cFr [19, 21, 35] [(18, 1)] q_73 q_84).t i_116 (by decide) (by decide)) : cFr [19, 21, 35] [(18, 1)] q_73 q_113).t i_125 (by decide) (by decide)) : cFr [19, 21, 35] [(18, 1)] q_73 q_122).i (by decide)), rfl, rfl, rfl, rfl, rfl, rfl, by omega, by omega, by omega, by omega, by omega, by omega, by omega, by omega⟩) (show (2 - Int32.toInt (x11_91 + 1)).toNat < (2 - Int32.toInt x11_91).toNat by omega)
                  · refine dOk_B (ok_X1_pay_s20 q_113 i_115 (show 0 ≤ Int32.toInt (q_113.1 21 0) by omega) (show Int32.toInt (q_113.1 21 0) ≤ 99 by omega)) (fun r_136 q_137 h_138 => ?_)
                    replace h_138 : (TC q_137) ∧ (cFr [19] [(18, 1)] q_113 q_137) ∧ (0 ≤ Int32.toInt r_136 ∧ Int32.toInt r_136 ≤ 99) := h_138
                    obtain ⟨i_139, i_140, i_141⟩ := h_138
                    have hFq_137 : cFr [19, 21, 35] [(18, 1)] q q_137 := hFq_113.t i_140 (by decide) (by decide)
                    unfold zX3_askCases_s32_s20_c1_173
                    refine dOk_V (ok_X3_caseNumber x5_13 x6_40 x9_74 x11_91 (show 1 ≤ Int32.toInt x5_13 by omega) (show Int32.toInt x5_13 ≤ 6 by omega) (show 0 ≤ Int32.toInt x6_40 by omega) (show Int32.toInt x6_40 ≤ 7 by omega) (show 0 ≤ Int32.toInt x9_74 by omega) (show Int32.toInt x9_74 ≤ 7 by omega) (show 0 ≤ Int32.toInt x11_91 by omega) (show Int32.toInt x11_91 ≤ 1 by omega)) (fun r_142 h_143 => ?_)
                    replace h_143 : (Int32.toInt r_142 = (((Int32.toInt x5_13 - 1) * 6 + Int32.toInt x6_40) * 7 + Int32.toInt x9_74) * 2 + Int32.toInt x11_91) := h_143
                    have i_144 := h_143
                    refine dOk_G (dg_ok (show 0 ≤ Int32.toInt r_142 by omega) (show Int32.toInt r_142 < ((504 : Nat) : Int) by omega)) ?_
                    have n_145 : ((Int32.toNatClampNeg r_142 : Nat) : Int) = Int32.toInt r_142 := cl_eq (by omega)
                    refine dOk_L (fun q_146 eq_146 => ?_)
                    have hTq_146 : TC q_146 := by rw [eq_146]; exact sa_35 i_139
                    have hFq_146 : cFr [19, 21, 35] [(18, 1)] q q_146 := by rw [eq_146]; exact hFq_137.i (by decide)
                    try have t_147 : Int32.toInt (x11_91 + 1) = Int32.toInt x11_91 + 1 := ti_add rfl (by decide) (by omega) (by omega)
                    exact hk_82 (q_146, 1, x5_13, x6_40, y0_42, x9_74, y0_75, (x11_91 + 1)) (show (TC q_146) ∧ (cFr [19, 21, 35] [(18, 1)] q_73 q_146) ∧ (1 = 1) ∧ (x5_13 = x5_13) ∧ (x6_40 = x6_40) ∧ (y0_42 = y0_42) ∧ (x9_74 = x9_74) ∧ (y0_75 = y0_75) ∧ (0 ≤ Int32.toInt (x11_91 + 1)) ∧ (Int32.toInt (x11_91 + 1) ≤ 2) ∧ (0 ≤ Int32.toInt x9_74) ∧ (Int32.toInt x9_74 ≤ 6) ∧ (0 ≤ Int32.toInt x6_40) ∧ (Int32.toInt x6_40 ≤ 5) ∧ (1 ≤ Int32.toInt x5_13) ∧ (Int32.toInt x5_13 ≤ 6) from ⟨hTq_146, (by rw [eq_146]; exact (((((((cFr.rf : cFr [19, 21, 35] [(18, 1)] q_73 q_73).t a_93 (by decide) (by decide)) : cFr [19, 21, 35] [(18, 1)] q_73 q_84).t i_116 (by decide) (by decide)) : cFr [19, 21, 35] [(18, 1)] q_73 q_113).t i_140 (by decide) (by decide)) : cFr [19, 21, 35] [(18, 1)] q_73 q_137).i (by decide)), rfl, rfl, rfl, rfl, rfl, rfl, by omega, by omega, by omega, by omega, by omega, by omega, by omega, by omega⟩) (show (2 - Int32.toInt (x11_91 + 1)).toNat < (2 - Int32.toInt x11_91).toNat by omega)
              · exact (show (TC q_73) ∧ (cFr [19, 21, 35] [(18, 1)] q_73 q_73) ∧ (1 = 1) ∧ (x5_13 = x5_13) ∧ (x6_40 = x6_40) ∧ (y0_42 = y0_42) ∧ (x9_74 = x9_74) ∧ (y0_75 = y0_75) ∧ (0 ≤ (0 : Int)) ∧ ((0 : Int) ≤ 2) ∧ (0 ≤ Int32.toInt x9_74) ∧ (Int32.toInt x9_74 ≤ 6) ∧ (0 ≤ Int32.toInt x6_40) ∧ (Int32.toInt x6_40 ≤ 5) ∧ (1 ≤ Int32.toInt x5_13) ∧ (Int32.toInt x5_13 ≤ 6) from ⟨hT_80, cFr.rf, rfl, rfl, rfl, rfl, rfl, rfl, by omega, by omega, by omega, by omega, by omega, by omega, by omega, by omega⟩)
              · show (2 - (0 : Int)).toNat < 1000000000000
                omega
            refine dOk_lt (A := Int32.toInt y0_42) (B := Int32.toInt x9_59) rfl rfl (fun c_148 => ?_) (fun c_149 => ?_)
            · try have t_150 : Int32.toInt (x6_40 + 1) = Int32.toInt x6_40 + 1 := ti_add rfl (by decide) (by omega) (by omega)
              exact hk_25 (q_54, 1, x5_13, (x6_40 + 1)) (show (TC q_54) ∧ (cFr [19, 21, 35] [(18, 1)] q_11 q_54) ∧ (1 = 1) ∧ (x5_13 = x5_13) ∧ (0 ≤ Int32.toInt (x6_40 + 1)) ∧ (Int32.toInt (x6_40 + 1) ≤ 6) ∧ (1 ≤ Int32.toInt x5_13) ∧ (Int32.toInt x5_13 ≤ 6) from ⟨a_60, ((((cFr.rf : cFr [19, 21, 35] [(18, 1)] q_11 q_11).t hF_51 (by decide) (by decide)) : cFr [19, 21, 35] [(18, 1)] q_11 q_39).t a_61 (by decide) (by decide)), rfl, rfl, by omega, by omega, by omega, by omega⟩) (show (6 - Int32.toInt (x6_40 + 1)).toNat < (6 - Int32.toInt x6_30).toNat by omega)
            · refine dOk_eq (A := Int32.toInt x9_59) (B := 6) rfl (by decide) (fun c_151z c_151 => ?_) (fun c_152z c_152 => ?_)
              · exact hn_76 q_54 x9_59 (-1) a_60 ((cFr.rf : cFr [19, 21, 35] [(18, 1)] q_39 q_39).t a_61 (by decide) (by decide)) (show 0 ≤ Int32.toInt x9_59 by omega) (show Int32.toInt x9_59 ≤ 6 by omega) (show Int32.toInt x9_59 = Int32.toInt x9_59 by omega)
              · refine dOk_G (dg_ok (show 0 ≤ Int32.toInt x9_59 by omega) (show Int32.toInt x9_59 < ((6 : Nat) : Int) by omega)) ?_
                have n_154 : ((Int32.toNatClampNeg x9_59 : Nat) : Int) = Int32.toInt x9_59 := cl_eq (by omega)
                refine dOk_L (fun v_155 ev_155 => ?_)
                exact hn_76 q_54 x9_59 v_155 a_60 ((cFr.rf : cFr [19, 21, 35] [(18, 1)] q_39 q_39).t a_61 (by decide) (by decide)) (show 0 ≤ Int32.toInt x9_59 by omega) (show Int32.toInt x9_59 ≤ 6 by omega) (show Int32.toInt x9_59 = Int32.toInt x9_59 by omega)
          · exact (show (TC q_39) ∧ (cFr [19, 21, 35] [(18, 1)] q_39 q_39) ∧ (1 = 1) ∧ (x5_13 = x5_13) ∧ (x6_40 = x6_40) ∧ (y0_42 = y0_42) ∧ (0 ≤ Int32.toInt x7_41) ∧ (Int32.toInt x7_41 ≤ 7) ∧ (Int32.toInt y0_42 ≤ 6) ∧ (0 ≤ Int32.toInt x6_40) ∧ (Int32.toInt x6_40 ≤ 5) ∧ (1 ≤ Int32.toInt x5_13) ∧ (Int32.toInt x5_13 ≤ 6) from ⟨hT_50, cFr.rf, rfl, rfl, rfl, rfl, by omega, by omega, by omega, by omega, by omega, by omega, by omega⟩)
          · show (7 - Int32.toInt x7_41).toNat < 1000000000000
            omega
        have f_156 : 0 ≤ Int32.toInt (q_27.1 32 13) ∧ Int32.toInt (q_27.1 32 13) ≤ 6 := rg_32_13 a_31
        have w_157 : Int32.toInt (q_27.1 32 13) = Int32.toInt (q_11.1 32 13) := by rw [a_32.1 32 13 (by decide) (by decide)]
        refine dOk_le (A := Int32.toInt (q_27.1 32 13)) (B := Int32.toInt x6_30) rfl rfl (fun c_158 => ?_) (fun c_159 => ?_)
        · try have t_160 : Int32.toInt (x5_13 + 1) = Int32.toInt x5_13 + 1 := ti_add rfl (by decide) (by omega) (by omega)
          exact hk_9 (q_27, 1, (x5_13 + 1)) (show (TC q_27) ∧ (cFr [19, 21, 35] [(18, 1)] q_5 q_27) ∧ (1 = 1) ∧ (1 ≤ Int32.toInt (x5_13 + 1)) ∧ (Int32.toInt (x5_13 + 1) ≤ 7) from ⟨a_31, ((((cFr.rf : cFr [19, 21, 35] [(18, 1)] q_5 q_5).t a_15 (by decide) (by decide)) : cFr [19, 21, 35] [(18, 1)] q_5 q_11).t a_32 (by decide) (by decide)), rfl, by omega, by omega⟩) (show (7 - Int32.toInt (x5_13 + 1)).toNat < (7 - Int32.toInt x5_13).toNat by omega)
        · refine dOk_le (A := Int32.toInt (q_27.1 32 13)) (B := Int32.toInt x5_13) rfl rfl (fun c_161 => ?_) (fun c_162 => ?_)
          · unfold zX3_askCases_s32_s20_c1_72
            refine dOk_le (A := Int32.toInt (q_27.1 32 13)) (B := Int32.toInt x5_13) rfl rfl (fun c_163 => ?_) (fun c_164 => ?_)
            · exact hn_43 q_27 x6_30 6 6 a_31 ((cFr.rf : cFr [19, 21, 35] [(18, 1)] q_11 q_11).t a_32 (by decide) (by decide)) (show 0 ≤ Int32.toInt x6_30 by omega) (show Int32.toInt x6_30 ≤ 5 by omega) (show Int32.toInt x6_30 = Int32.toInt x6_30 by omega) (show 0 ≤ (6 : Int) by omega) (show (6 : Int) ≤ 6 by omega) (show (6 : Int) ≤ 6 by omega)
            · try have t_165 : Int32.toInt (q_27.1 32 13 - 1) = Int32.toInt (q_27.1 32 13) - 1 := ti_sub rfl (by decide) (by omega) (by omega)
              exact hn_43 q_27 x6_30 6 (q_27.1 32 13 - 1) a_31 ((cFr.rf : cFr [19, 21, 35] [(18, 1)] q_11 q_11).t a_32 (by decide) (by decide)) (show 0 ≤ Int32.toInt x6_30 by omega) (show Int32.toInt x6_30 ≤ 5 by omega) (show Int32.toInt x6_30 = Int32.toInt x6_30 by omega) (show 0 ≤ (6 : Int) by omega) (show (6 : Int) ≤ 6 by omega) (show Int32.toInt (q_27.1 32 13 - 1) ≤ 6 by omega)
          · unfold zX3_askCases_s32_s20_c1_72
            refine dOk_le (A := Int32.toInt (q_27.1 32 13)) (B := Int32.toInt x5_13) rfl rfl (fun c_166 => ?_) (fun c_167 => ?_)
            · exact hn_43 q_27 x6_30 0 6 a_31 ((cFr.rf : cFr [19, 21, 35] [(18, 1)] q_11 q_11).t a_32 (by decide) (by decide)) (show 0 ≤ Int32.toInt x6_30 by omega) (show Int32.toInt x6_30 ≤ 5 by omega) (show Int32.toInt x6_30 = Int32.toInt x6_30 by omega) (show 0 ≤ (0 : Int) by omega) (show (0 : Int) ≤ 6 by omega) (show (6 : Int) ≤ 6 by omega)
            · try have t_168 : Int32.toInt (q_27.1 32 13 - 1) = Int32.toInt (q_27.1 32 13) - 1 := ti_sub rfl (by decide) (by omega) (by omega)
              exact hn_43 q_27 x6_30 0 (q_27.1 32 13 - 1) a_31 ((cFr.rf : cFr [19, 21, 35] [(18, 1)] q_11 q_11).t a_32 (by decide) (by decide)) (show 0 ≤ Int32.toInt x6_30 by omega) (show Int32.toInt x6_30 ≤ 5 by omega) (show Int32.toInt x6_30 = Int32.toInt x6_30 by omega) (show 0 ≤ (0 : Int) by omega) (show (0 : Int) ≤ 6 by omega) (show Int32.toInt (q_27.1 32 13 - 1) ≤ 6 by omega)
      · exact (show (TC q_11) ∧ (cFr [19, 21, 35] [(18, 1)] q_11 q_11) ∧ (1 = 1) ∧ (x5_13 = x5_13) ∧ (0 ≤ (0 : Int)) ∧ ((0 : Int) ≤ 6) ∧ (1 ≤ Int32.toInt x5_13) ∧ (Int32.toInt x5_13 ≤ 6) from ⟨a_14, cFr.rf, rfl, rfl, by omega, by omega, by omega, by omega⟩)
      · show (6 - (0 : Int)).toNat < 1000000000000
        omega
  · exact (show (TC q_5) ∧ (cFr [19, 21, 35] [(18, 1)] q_5 q_5) ∧ (1 = 1) ∧ (1 ≤ (1 : Int)) ∧ ((1 : Int) ≤ 7) from ⟨i_7, cFr.rf, rfl, by omega, by omega⟩)
  · show (7 - (1 : Int)).toNat < 1000000000000
    omega
end
section
set_option maxHeartbeats 4000000 in
set_option maxRecDepth 100000 in
theorem ok_X3_askCases_s32_s20_c0 (q : dK) (p2 : Int32) (hT : TC q) : dOk (zX3_askCases_s32_s20_c0 q p2) (fun (o : dK) => (TC o) ∧ (cFr [19, 21, 36] [(18, 1)] q o)) := by
  unfold zX3_askCases_s32_s20_c0
  unfold zX3_askCases_s32_s20_c0_16
  refine dOk_L (fun q_1 eq_1 => ?_)
  have hTq_1 : TC q_1 := by rw [eq_1]; exact tc_cfi36 hT
  have hFq_1 : cFr [19, 21, 36] [(18, 1)] q q_1 := by rw [eq_1]; exact (cFr.rf (q := q)).g (by decide)
  have f_2 : 0 ≤ Int32.toInt (q_1.1 32 13) ∧ Int32.toInt (q_1.1 32 13) ≤ 6 := rg_32_13 hTq_1
  have f_3 : 0 ≤ Int32.toInt (q.1 32 13) ∧ Int32.toInt (q.1 32 13) ≤ 6 := rg_32_13 hT
  have w_4 : Int32.toInt (q_1.1 32 13) = Int32.toInt (q.1 32 13) := by rw [eq_1]; rfl
  refine dOk_V (ok_X1_setCommon_s20 q_1 (q_1.1 32 13) p2 hTq_1) (fun q_5 h_6 => ?_)
  replace h_6 : (TC q_5) ∧ (cFr [21] [] q_1 q_5) := h_6
  obtain ⟨i_7, i_8⟩ := h_6
  have hFq_5 : cFr [19, 21, 36] [(18, 1)] q q_5 := hFq_1.t i_8 (by decide) (by decide)
  unfold zX3_askCases_s32_s20_c0_36
  refine dFix_ok (fun (a : dK × Int32 × Int32) => (TC a.1) ∧ (cFr [19, 21, 36] [(18, 1)] q_5 a.1) ∧ (a.2.1 = 0) ∧ (1 ≤ Int32.toInt a.2.2) ∧ (Int32.toInt a.2.2 ≤ 7)) (fun (a : dK × Int32 × Int32) => (7 - Int32.toInt a.2.2).toNat) ?_ _ ?_ _ (dF_gt ?_)
  · intro a ha k_10 hk_9
    obtain ⟨q_11, x3_12, x5_13⟩ := a
    replace ha : (TC q_11) ∧ (cFr [19, 21, 36] [(18, 1)] q_5 q_11) ∧ (x3_12 = 0) ∧ (1 ≤ Int32.toInt x5_13) ∧ (Int32.toInt x5_13 ≤ 7) := ha
    obtain ⟨a_14, a_15, a_16, a_17, a_18⟩ := ha
    show dOk (zX3_askCases_s32_s20_c0_36b  (fun q x3 x5 => k_10 (q, x3, x5)) q_11 x3_12 x5_13) _
    unfold zX3_askCases_s32_s20_c0_36b
    have hFq_11 : cFr [19, 21, 36] [(18, 1)] q q_11 := hFq_5.t a_15 (by decide) (by decide)
    subst x3_12
    have f_19 : 0 ≤ Int32.toInt (q_11.1 32 13) ∧ Int32.toInt (q_11.1 32 13) ≤ 6 := rg_32_13 a_14
    have f_20 : 0 ≤ Int32.toInt (q_5.1 32 13) ∧ Int32.toInt (q_5.1 32 13) ≤ 6 := rg_32_13 i_7
    have w_21 : Int32.toInt (q_5.1 32 13) = Int32.toInt (q_1.1 32 13) := by rw [i_8.1 32 13 (by decide) (by decide)]
    have w_22 : Int32.toInt (q_11.1 32 13) = Int32.toInt (q_5.1 32 13) := by rw [a_15.1 32 13 (by decide) (by decide)]
    refine dOk_lt (A := Int32.toInt (q_11.1 32 13)) (B := Int32.toInt x5_13) rfl rfl (fun c_23 => ?_) (fun c_24 => ?_)
    · exact dOk_some (show (TC q_11) ∧ (cFr [19, 21, 36] [(18, 1)] q q_11) from ⟨a_14, hFq_11⟩)
    · unfold zX3_askCases_s32_s20_c0_48
      refine dFix_ok (fun (a : dK × Int32 × Int32 × Int32) => (TC a.1) ∧ (cFr [19, 21, 36] [(18, 1)] q_11 a.1) ∧ (a.2.1 = 0) ∧ (a.2.2.1 = x5_13) ∧ (0 ≤ Int32.toInt a.2.2.2) ∧ (Int32.toInt a.2.2.2 ≤ 6) ∧ (1 ≤ Int32.toInt a.2.2.1) ∧ (Int32.toInt a.2.2.1 ≤ 6)) (fun (a : dK × Int32 × Int32 × Int32) => (6 - Int32.toInt a.2.2.2).toNat) ?_ _ ?_ _ (dF_gt ?_)
      · intro a ha k_26 hk_25
        obtain ⟨q_27, x3_28, x5_29, x6_30⟩ := a
        replace ha : (TC q_27) ∧ (cFr [19, 21, 36] [(18, 1)] q_11 q_27) ∧ (x3_28 = 0) ∧ (x5_29 = x5_13) ∧ (0 ≤ Int32.toInt x6_30) ∧ (Int32.toInt x6_30 ≤ 6) ∧ (1 ≤ Int32.toInt x5_29) ∧ (Int32.toInt x5_29 ≤ 6) := ha
        obtain ⟨a_31, a_32, a_33, a_34, a_35, a_36, a_37, a_38⟩ := ha
        show dOk (zX3_askCases_s32_s20_c0_48b _ (fun q x3 x5 x6 => k_26 (q, x3, x5, x6)) q_27 x3_28 x5_29 x6_30) _
        unfold zX3_askCases_s32_s20_c0_48b
        have hFq_27 : cFr [19, 21, 36] [(18, 1)] q q_27 := hFq_11.t a_32 (by decide) (by decide)
        subst x3_28
        subst x5_29
        have hn_43 : ∀ (q_39 : dK) (x6_40 : Int32) (x7_41 : Int32) (y0_42 : Int32), TC q_39 → cFr [19, 21, 36] [(18, 1)] q_11 q_39 → (0 ≤ Int32.toInt x6_40) → (Int32.toInt x6_40 ≤ 5) → (Int32.toInt x6_40 = Int32.toInt x6_30) → (0 ≤ Int32.toInt x7_41) → (Int32.toInt x7_41 ≤ 6) → (Int32.toInt y0_42 ≤ 6) → dOk (zX3_askCases_s32_s20_c0_94 (fun q x3 x5 => k_10 (q, x3, x5)) (fun q x3 x5 x6 => k_26 (q, x3, x5, x6)) q_39 0 x5_13 x6_40 x7_41 y0_42 ) (fun (o : dK) => (TC o) ∧ (cFr [19, 21, 36] [(18, 1)] q o)) := by
          intro q_39 x6_40 x7_41 y0_42 hT_50 hF_51 b_44 b_45 b_46 b_47 b_48 b_49
          unfold zX3_askCases_s32_s20_c0_94
          have hFq_39 : cFr [19, 21, 36] [(18, 1)] q q_39 := hFq_11.t hF_51 (by decide) (by decide)
          unfold zX3_askCases_s32_s20_c0_100
          refine dFix_ok (fun (a : dK × Int32 × Int32 × Int32 × Int32 × Int32) => (TC a.1) ∧ (cFr [19, 21, 36] [(18, 1)] q_39 a.1) ∧ (a.2.1 = 0) ∧ (a.2.2.1 = x5_13) ∧ (a.2.2.2.1 = x6_40) ∧ (a.2.2.2.2.1 = y0_42) ∧ (0 ≤ Int32.toInt a.2.2.2.2.2) ∧ (Int32.toInt a.2.2.2.2.2 ≤ 7) ∧ (Int32.toInt a.2.2.2.2.1 ≤ 6) ∧ (0 ≤ Int32.toInt a.2.2.2.1) ∧ (Int32.toInt a.2.2.2.1 ≤ 5) ∧ (1 ≤ Int32.toInt a.2.2.1) ∧ (Int32.toInt a.2.2.1 ≤ 6)) (fun (a : dK × Int32 × Int32 × Int32 × Int32 × Int32) => (7 - Int32.toInt a.2.2.2.2.2).toNat) ?_ _ ?_ _ (dF_gt ?_)
          · intro a ha k_53 hk_52
            obtain ⟨q_54, x3_55, x5_56, x6_57, x8_58, x9_59⟩ := a
            replace ha : (TC q_54) ∧ (cFr [19, 21, 36] [(18, 1)] q_39 q_54) ∧ (x3_55 = 0) ∧ (x5_56 = x5_13) ∧ (x6_57 = x6_40) ∧ (x8_58 = y0_42) ∧ (0 ≤ Int32.toInt x9_59) ∧ (Int32.toInt x9_59 ≤ 7) ∧ (Int32.toInt x8_58 ≤ 6) ∧ (0 ≤ Int32.toInt x6_57) ∧ (Int32.toInt x6_57 ≤ 5) ∧ (1 ≤ Int32.toInt x5_56) ∧ (Int32.toInt x5_56 ≤ 6) := ha
            obtain ⟨a_60, a_61, a_62, a_63, a_64, a_65, a_66, a_67, a_68, a_69, a_70, a_71, a_72⟩ := ha
            show dOk (zX3_askCases_s32_s20_c0_100b _ _ (fun q x3 x5 x6 x8 x9 => k_53 (q, x3, x5, x6, x8, x9)) q_54 x3_55 x5_56 x6_57 x8_58 x9_59) _
            unfold zX3_askCases_s32_s20_c0_100b
            have hFq_54 : cFr [19, 21, 36] [(18, 1)] q q_54 := hFq_39.t a_61 (by decide) (by decide)
            subst x3_55
            subst x5_56
            subst x6_57
            subst x8_58
            have hn_76 : ∀ (q_73 : dK) (x9_74 : Int32) (y0_75 : Int32), TC q_73 → cFr [19, 21, 36] [(18, 1)] q_39 q_73 → (0 ≤ Int32.toInt x9_74) → (Int32.toInt x9_74 ≤ 6) → (Int32.toInt x9_74 = Int32.toInt x9_59) → dOk (zX3_askCases_s32_s20_c0_125 (fun q x3 x5 => k_10 (q, x3, x5)) (fun q x3 x5 x6 => k_26 (q, x3, x5, x6)) (fun q x3 x5 x6 x8 x9 => k_53 (q, x3, x5, x6, x8, x9)) q_73 0 x5_13 x6_40 y0_42 x9_74 y0_75 ) (fun (o : dK) => (TC o) ∧ (cFr [19, 21, 36] [(18, 1)] q o)) := by
              intro q_73 x9_74 y0_75 hT_80 hF_81 b_77 b_78 b_79
              unfold zX3_askCases_s32_s20_c0_125
              have hFq_73 : cFr [19, 21, 36] [(18, 1)] q q_73 := hFq_39.t hF_81 (by decide) (by decide)
              unfold zX3_askCases_s32_s20_c0_130
              refine dFix_ok (fun (a : dK × Int32 × Int32 × Int32 × Int32 × Int32 × Int32 × Int32) => (TC a.1) ∧ (cFr [19, 21, 36] [(18, 1)] q_73 a.1) ∧ (a.2.1 = 0) ∧ (a.2.2.1 = x5_13) ∧ (a.2.2.2.1 = x6_40) ∧ (a.2.2.2.2.1 = y0_42) ∧ (a.2.2.2.2.2.1 = x9_74) ∧ (a.2.2.2.2.2.2.1 = y0_75) ∧ (0 ≤ Int32.toInt a.2.2.2.2.2.2.2) ∧ (Int32.toInt a.2.2.2.2.2.2.2 ≤ 2) ∧ (0 ≤ Int32.toInt a.2.2.2.2.2.1) ∧ (Int32.toInt a.2.2.2.2.2.1 ≤ 6) ∧ (0 ≤ Int32.toInt a.2.2.2.1) ∧ (Int32.toInt a.2.2.2.1 ≤ 5) ∧ (1 ≤ Int32.toInt a.2.2.1) ∧ (Int32.toInt a.2.2.1 ≤ 6)) (fun (a : dK × Int32 × Int32 × Int32 × Int32 × Int32 × Int32 × Int32) => (2 - Int32.toInt a.2.2.2.2.2.2.2).toNat) ?_ _ ?_ _ (dF_gt ?_)
              · intro a ha k_83 hk_82
                obtain ⟨q_84, x3_85, x5_86, x6_87, x8_88, x9_89, x10_90, x11_91⟩ := a
                replace ha : (TC q_84) ∧ (cFr [19, 21, 36] [(18, 1)] q_73 q_84) ∧ (x3_85 = 0) ∧ (x5_86 = x5_13) ∧ (x6_87 = x6_40) ∧ (x8_88 = y0_42) ∧ (x9_89 = x9_74) ∧ (x10_90 = y0_75) ∧ (0 ≤ Int32.toInt x11_91) ∧ (Int32.toInt x11_91 ≤ 2) ∧ (0 ≤ Int32.toInt x9_89) ∧ (Int32.toInt x9_89 ≤ 6) ∧ (0 ≤ Int32.toInt x6_87) ∧ (Int32.toInt x6_87 ≤ 5) ∧ (1 ≤ Int32.toInt x5_86) ∧ (Int32.toInt x5_86 ≤ 6) := ha
                obtain ⟨a_92, a_93, a_94, a_95, a_96, a_97, a_98, a_99, a_100, a_101, a_102, a_103, a_104, a_105, a_106, a_107⟩ := ha
                show dOk (zX3_askCases_s32_s20_c0_130b _ _ _ (fun q x3 x5 x6 x8 x9 x10 x11 => k_83 (q, x3, x5, x6, x8, x9, x10, x11)) q_84 x3_85 x5_86 x6_87 x8_88 x9_89 x10_90 x11_91) _
                unfold zX3_askCases_s32_s20_c0_130b
                have hFq_84 : cFr [19, 21, 36] [(18, 1)] q q_84 := hFq_73.t a_93 (by decide) (by decide)
                subst x3_85
                subst x5_86
                subst x6_87
                subst x8_88
                subst x9_89
                subst x10_90
                refine dOk_le (A := 2) (B := Int32.toInt x11_91) (by decide) rfl (fun c_108 => ?_) (fun c_109 => ?_)
                · try have t_110 : Int32.toInt (x9_74 + 1) = Int32.toInt x9_74 + 1 := ti_add rfl (by decide) (by omega) (by omega)
                  exact hk_52 (q_84, 0, x5_13, x6_40, y0_42, (x9_74 + 1)) (show (TC q_84) ∧ (cFr [19, 21, 36] [(18, 1)] q_39 q_84) ∧ (0 = 0) ∧ (x5_13 = x5_13) ∧ (x6_40 = x6_40) ∧ (y0_42 = y0_42) ∧ (0 ≤ Int32.toInt (x9_74 + 1)) ∧ (Int32.toInt (x9_74 + 1) ≤ 7) ∧ (Int32.toInt y0_42 ≤ 6) ∧ (0 ≤ Int32.toInt x6_40) ∧ (Int32.toInt x6_40 ≤ 5) ∧ (1 ≤ Int32.toInt x5_13) ∧ (Int32.toInt x5_13 ≤ 6) from ⟨a_92, ((((cFr.rf : cFr [19, 21, 36] [(18, 1)] q_39 q_39).t hF_81 (by decide) (by decide)) : cFr [19, 21, 36] [(18, 1)] q_39 q_73).t a_93 (by decide) (by decide)), rfl, rfl, rfl, rfl, by omega, by omega, by omega, by omega, by omega, by omega, by omega⟩) (show (7 - Int32.toInt (x9_74 + 1)).toNat < (7 - Int32.toInt x9_59).toNat by omega)
                · refine dOk_G (dg_ok (show 0 ≤ Int32.toInt x6_40 by omega) (show Int32.toInt x6_40 < ((6 : Nat) : Int) by omega)) ?_
                  have n_111 : ((Int32.toNatClampNeg x6_40 : Nat) : Int) = Int32.toInt x6_40 := cl_eq (by omega)
                  refine dOk_L (fun v_112 ev_112 => ?_)
                  refine dOk_V (ok_X1_setGrip_s20 q_84 x5_13 v_112 y0_75 x11_91 a_92) (fun q_113 h_114 => ?_)
                  replace h_114 : (TC q_113) ∧ (cFr [21] [] q_84 q_113) ∧ (Int32.toInt (q_113.1 21 0) = Int32.toInt x5_13) := h_114
                  obtain ⟨i_115, i_116, i_117⟩ := h_114
                  have hFq_113 : cFr [19, 21, 36] [(18, 1)] q q_113 := hFq_84.t i_116 (by decide) (by decide)
                  refine dOk_eq (A := 0) (B := 1) (by decide) (by decide) (fun c_118z c_118 => ?_) (fun c_119z c_119 => ?_)
                  · refine dOk_B (ok_X1_anyHolds_s20 q_113 1 i_115) (fun r_121 q_122 h_123 => ?_)
                    replace h_123 : (TC q_122) ∧ (cFr [19] [(18, 1)] q_113 q_122) ∧ ((Int32.toInt r_121 = 0 ∨ Int32.toInt r_121 = 1)) := h_123
                    obtain ⟨i_124, i_125, i_126⟩ := h_123
                    have hFq_122 : cFr [19, 21, 36] [(18, 1)] q q_122 := hFq_113.t i_125 (by decide) (by decide)
                    refine dOk_V (ok_X9_bit r_121) (fun r_127 h_128 => ?_)
                    replace h_128 : ((Int32.toInt r_127 = 0 ∨ Int32.toInt r_127 = 1)) := h_128
                    have i_129 := h_128
                    unfold zX3_askCases_s32_s20_c0_173
                    refine dOk_V (ok_X3_caseNumber x5_13 x6_40 x9_74 x11_91 (show 1 ≤ Int32.toInt x5_13 by omega) (show Int32.toInt x5_13 ≤ 6 by omega) (show 0 ≤ Int32.toInt x6_40 by omega) (show Int32.toInt x6_40 ≤ 7 by omega) (show 0 ≤ Int32.toInt x9_74 by omega) (show Int32.toInt x9_74 ≤ 7 by omega) (show 0 ≤ Int32.toInt x11_91 by omega) (show Int32.toInt x11_91 ≤ 1 by omega)) (fun r_130 h_131 => ?_)
                    replace h_131 : (Int32.toInt r_130 = (((Int32.toInt x5_13 - 1) * 6 + Int32.toInt x6_40) * 7 + Int32.toInt x9_74) * 2 + Int32.toInt x11_91) := h_131
                    have i_132 := h_131
                    refine dOk_G (dg_ok (show 0 ≤ Int32.toInt r_130 by omega) (show Int32.toInt r_130 < ((504 : Nat) : Int) by omega)) ?_
                    have n_133 : ((Int32.toNatClampNeg r_130 : Nat) : Int) = Int32.toInt r_130 := cl_eq (by omega)
                    refine dOk_L (fun q_134 eq_134 => ?_)
                    have hTq_134 : TC q_134 := by rw [eq_134]; exact st_36 i_124 (show (0 : Int) ≤ Int32.toInt r_127 by omega) (show Int32.toInt r_127 ≤ (99 : Int) by omega)
                    have hFq_134 : cFr [19, 21, 36] [(18, 1)] q q_134 := by rw [eq_134]; exact hFq_122.i (by decide)
                    try have t_135 : Int32.toInt (x11_91 + 1) = Int32.toInt x11_91 + 1 := ti_add rfl (by decide) (by omega) (by omega)
                    exact hk_82 (q_134, 0, x5_13, x6_40, y0_42, x9_74, y0_75, (x11_91 + 1)) (show (TC q_134) ∧ (cFr [19, 21, 36] [(18, 1)] q_73 q_134) ∧ (0 = 0) ∧ (x5_13 = x5_13) ∧ (x6_40 = x6_40) ∧ (y0_42 = y0_42) ∧ (x9_74 = x9_74) ∧ (y0_75 = y0_75) ∧ (0 ≤ Int32.toInt (x11_91 + 1)) ∧ (Int32.toInt (x11_91 + 1) ≤ 2) ∧ (0 ≤ Int32.toInt x9_74) ∧ (Int32.toInt x9_74 ≤ 6) ∧ (0 ≤ Int32.toInt x6_40) ∧ (Int32.toInt x6_40 ≤ 5) ∧ (1 ≤ Int32.toInt x5_13) ∧ (Int32.toInt x5_13 ≤ 6) from ⟨hTq_134, (by rw [eq_134]; exact (((((((cFr.rf : cFr [19, 21, 36] [(18, 1)] q_73 q_73).t a_93 (by decide) (by decide)) : cFr [19, 21, 36] [(18, 1)] q_73 q_84).t i_116 (by decide) (by decide)) : cFr [19, 21, 36] [(18, 1)] q_73 q_113).t i_125 (by decide) (by decide)) : cFr [19, 21, 36] [(18, 1)] q_73 q_122).i (by decide)), rfl, rfl, rfl, rfl, rfl, rfl, by omega, by omega, by omega, by omega, by omega, by omega, by omega, by omega⟩) (show (2 - Int32.toInt (x11_91 + 1)).toNat < (2 - Int32.toInt x11_91).toNat by omega)
                  · refine dOk_B (ok_X1_pay_s20 q_113 i_115 (show 0 ≤ Int32.toInt (q_113.1 21 0) by omega) (show Int32.toInt (q_113.1 21 0) ≤ 99 by omega)) (fun r_136 q_137 h_138 => ?_)
                    replace h_138 : (TC q_137) ∧ (cFr [19] [(18, 1)] q_113 q_137) ∧ (0 ≤ Int32.toInt r_136 ∧ Int32.toInt r_136 ≤ 99) := h_138
                    obtain ⟨i_139, i_140, i_141⟩ := h_138
                    have hFq_137 : cFr [19, 21, 36] [(18, 1)] q q_137 := hFq_113.t i_140 (by decide) (by decide)
                    unfold zX3_askCases_s32_s20_c0_173
                    refine dOk_V (ok_X3_caseNumber x5_13 x6_40 x9_74 x11_91 (show 1 ≤ Int32.toInt x5_13 by omega) (show Int32.toInt x5_13 ≤ 6 by omega) (show 0 ≤ Int32.toInt x6_40 by omega) (show Int32.toInt x6_40 ≤ 7 by omega) (show 0 ≤ Int32.toInt x9_74 by omega) (show Int32.toInt x9_74 ≤ 7 by omega) (show 0 ≤ Int32.toInt x11_91 by omega) (show Int32.toInt x11_91 ≤ 1 by omega)) (fun r_142 h_143 => ?_)
                    replace h_143 : (Int32.toInt r_142 = (((Int32.toInt x5_13 - 1) * 6 + Int32.toInt x6_40) * 7 + Int32.toInt x9_74) * 2 + Int32.toInt x11_91) := h_143
                    have i_144 := h_143
                    refine dOk_G (dg_ok (show 0 ≤ Int32.toInt r_142 by omega) (show Int32.toInt r_142 < ((504 : Nat) : Int) by omega)) ?_
                    have n_145 : ((Int32.toNatClampNeg r_142 : Nat) : Int) = Int32.toInt r_142 := cl_eq (by omega)
                    refine dOk_L (fun q_146 eq_146 => ?_)
                    have hTq_146 : TC q_146 := by rw [eq_146]; exact st_36 i_139 (show (0 : Int) ≤ Int32.toInt r_136 by omega) (show Int32.toInt r_136 ≤ (99 : Int) by omega)
                    have hFq_146 : cFr [19, 21, 36] [(18, 1)] q q_146 := by rw [eq_146]; exact hFq_137.i (by decide)
                    try have t_147 : Int32.toInt (x11_91 + 1) = Int32.toInt x11_91 + 1 := ti_add rfl (by decide) (by omega) (by omega)
                    exact hk_82 (q_146, 0, x5_13, x6_40, y0_42, x9_74, y0_75, (x11_91 + 1)) (show (TC q_146) ∧ (cFr [19, 21, 36] [(18, 1)] q_73 q_146) ∧ (0 = 0) ∧ (x5_13 = x5_13) ∧ (x6_40 = x6_40) ∧ (y0_42 = y0_42) ∧ (x9_74 = x9_74) ∧ (y0_75 = y0_75) ∧ (0 ≤ Int32.toInt (x11_91 + 1)) ∧ (Int32.toInt (x11_91 + 1) ≤ 2) ∧ (0 ≤ Int32.toInt x9_74) ∧ (Int32.toInt x9_74 ≤ 6) ∧ (0 ≤ Int32.toInt x6_40) ∧ (Int32.toInt x6_40 ≤ 5) ∧ (1 ≤ Int32.toInt x5_13) ∧ (Int32.toInt x5_13 ≤ 6) from ⟨hTq_146, (by rw [eq_146]; exact (((((((cFr.rf : cFr [19, 21, 36] [(18, 1)] q_73 q_73).t a_93 (by decide) (by decide)) : cFr [19, 21, 36] [(18, 1)] q_73 q_84).t i_116 (by decide) (by decide)) : cFr [19, 21, 36] [(18, 1)] q_73 q_113).t i_140 (by decide) (by decide)) : cFr [19, 21, 36] [(18, 1)] q_73 q_137).i (by decide)), rfl, rfl, rfl, rfl, rfl, rfl, by omega, by omega, by omega, by omega, by omega, by omega, by omega, by omega⟩) (show (2 - Int32.toInt (x11_91 + 1)).toNat < (2 - Int32.toInt x11_91).toNat by omega)
              · exact (show (TC q_73) ∧ (cFr [19, 21, 36] [(18, 1)] q_73 q_73) ∧ (0 = 0) ∧ (x5_13 = x5_13) ∧ (x6_40 = x6_40) ∧ (y0_42 = y0_42) ∧ (x9_74 = x9_74) ∧ (y0_75 = y0_75) ∧ (0 ≤ (0 : Int)) ∧ ((0 : Int) ≤ 2) ∧ (0 ≤ Int32.toInt x9_74) ∧ (Int32.toInt x9_74 ≤ 6) ∧ (0 ≤ Int32.toInt x6_40) ∧ (Int32.toInt x6_40 ≤ 5) ∧ (1 ≤ Int32.toInt x5_13) ∧ (Int32.toInt x5_13 ≤ 6) from ⟨hT_80, cFr.rf, rfl, rfl, rfl, rfl, rfl, rfl, by omega, by omega, by omega, by omega, by omega, by omega, by omega, by omega⟩)
              · show (2 - (0 : Int)).toNat < 1000000000000
                omega
            refine dOk_lt (A := Int32.toInt y0_42) (B := Int32.toInt x9_59) rfl rfl (fun c_148 => ?_) (fun c_149 => ?_)
            · try have t_150 : Int32.toInt (x6_40 + 1) = Int32.toInt x6_40 + 1 := ti_add rfl (by decide) (by omega) (by omega)
              exact hk_25 (q_54, 0, x5_13, (x6_40 + 1)) (show (TC q_54) ∧ (cFr [19, 21, 36] [(18, 1)] q_11 q_54) ∧ (0 = 0) ∧ (x5_13 = x5_13) ∧ (0 ≤ Int32.toInt (x6_40 + 1)) ∧ (Int32.toInt (x6_40 + 1) ≤ 6) ∧ (1 ≤ Int32.toInt x5_13) ∧ (Int32.toInt x5_13 ≤ 6) from ⟨a_60, ((((cFr.rf : cFr [19, 21, 36] [(18, 1)] q_11 q_11).t hF_51 (by decide) (by decide)) : cFr [19, 21, 36] [(18, 1)] q_11 q_39).t a_61 (by decide) (by decide)), rfl, rfl, by omega, by omega, by omega, by omega⟩) (show (6 - Int32.toInt (x6_40 + 1)).toNat < (6 - Int32.toInt x6_30).toNat by omega)
            · refine dOk_eq (A := Int32.toInt x9_59) (B := 6) rfl (by decide) (fun c_151z c_151 => ?_) (fun c_152z c_152 => ?_)
              · exact hn_76 q_54 x9_59 (-1) a_60 ((cFr.rf : cFr [19, 21, 36] [(18, 1)] q_39 q_39).t a_61 (by decide) (by decide)) (show 0 ≤ Int32.toInt x9_59 by omega) (show Int32.toInt x9_59 ≤ 6 by omega) (show Int32.toInt x9_59 = Int32.toInt x9_59 by omega)
              · refine dOk_G (dg_ok (show 0 ≤ Int32.toInt x9_59 by omega) (show Int32.toInt x9_59 < ((6 : Nat) : Int) by omega)) ?_
                have n_154 : ((Int32.toNatClampNeg x9_59 : Nat) : Int) = Int32.toInt x9_59 := cl_eq (by omega)
                refine dOk_L (fun v_155 ev_155 => ?_)
                exact hn_76 q_54 x9_59 v_155 a_60 ((cFr.rf : cFr [19, 21, 36] [(18, 1)] q_39 q_39).t a_61 (by decide) (by decide)) (show 0 ≤ Int32.toInt x9_59 by omega) (show Int32.toInt x9_59 ≤ 6 by omega) (show Int32.toInt x9_59 = Int32.toInt x9_59 by omega)
          · exact (show (TC q_39) ∧ (cFr [19, 21, 36] [(18, 1)] q_39 q_39) ∧ (0 = 0) ∧ (x5_13 = x5_13) ∧ (x6_40 = x6_40) ∧ (y0_42 = y0_42) ∧ (0 ≤ Int32.toInt x7_41) ∧ (Int32.toInt x7_41 ≤ 7) ∧ (Int32.toInt y0_42 ≤ 6) ∧ (0 ≤ Int32.toInt x6_40) ∧ (Int32.toInt x6_40 ≤ 5) ∧ (1 ≤ Int32.toInt x5_13) ∧ (Int32.toInt x5_13 ≤ 6) from ⟨hT_50, cFr.rf, rfl, rfl, rfl, rfl, by omega, by omega, by omega, by omega, by omega, by omega, by omega⟩)
          · show (7 - Int32.toInt x7_41).toNat < 1000000000000
            omega
        have f_156 : 0 ≤ Int32.toInt (q_27.1 32 13) ∧ Int32.toInt (q_27.1 32 13) ≤ 6 := rg_32_13 a_31
        have w_157 : Int32.toInt (q_27.1 32 13) = Int32.toInt (q_11.1 32 13) := by rw [a_32.1 32 13 (by decide) (by decide)]
        refine dOk_le (A := Int32.toInt (q_27.1 32 13)) (B := Int32.toInt x6_30) rfl rfl (fun c_158 => ?_) (fun c_159 => ?_)
        · try have t_160 : Int32.toInt (x5_13 + 1) = Int32.toInt x5_13 + 1 := ti_add rfl (by decide) (by omega) (by omega)
          exact hk_9 (q_27, 0, (x5_13 + 1)) (show (TC q_27) ∧ (cFr [19, 21, 36] [(18, 1)] q_5 q_27) ∧ (0 = 0) ∧ (1 ≤ Int32.toInt (x5_13 + 1)) ∧ (Int32.toInt (x5_13 + 1) ≤ 7) from ⟨a_31, ((((cFr.rf : cFr [19, 21, 36] [(18, 1)] q_5 q_5).t a_15 (by decide) (by decide)) : cFr [19, 21, 36] [(18, 1)] q_5 q_11).t a_32 (by decide) (by decide)), rfl, by omega, by omega⟩) (show (7 - Int32.toInt (x5_13 + 1)).toNat < (7 - Int32.toInt x5_13).toNat by omega)
        · refine dOk_le (A := Int32.toInt (q_27.1 32 13)) (B := Int32.toInt x5_13) rfl rfl (fun c_161 => ?_) (fun c_162 => ?_)
          · unfold zX3_askCases_s32_s20_c0_72
            refine dOk_le (A := Int32.toInt (q_27.1 32 13)) (B := Int32.toInt x5_13) rfl rfl (fun c_163 => ?_) (fun c_164 => ?_)
            · exact hn_43 q_27 x6_30 6 6 a_31 ((cFr.rf : cFr [19, 21, 36] [(18, 1)] q_11 q_11).t a_32 (by decide) (by decide)) (show 0 ≤ Int32.toInt x6_30 by omega) (show Int32.toInt x6_30 ≤ 5 by omega) (show Int32.toInt x6_30 = Int32.toInt x6_30 by omega) (show 0 ≤ (6 : Int) by omega) (show (6 : Int) ≤ 6 by omega) (show (6 : Int) ≤ 6 by omega)
            · try have t_165 : Int32.toInt (q_27.1 32 13 - 1) = Int32.toInt (q_27.1 32 13) - 1 := ti_sub rfl (by decide) (by omega) (by omega)
              exact hn_43 q_27 x6_30 6 (q_27.1 32 13 - 1) a_31 ((cFr.rf : cFr [19, 21, 36] [(18, 1)] q_11 q_11).t a_32 (by decide) (by decide)) (show 0 ≤ Int32.toInt x6_30 by omega) (show Int32.toInt x6_30 ≤ 5 by omega) (show Int32.toInt x6_30 = Int32.toInt x6_30 by omega) (show 0 ≤ (6 : Int) by omega) (show (6 : Int) ≤ 6 by omega) (show Int32.toInt (q_27.1 32 13 - 1) ≤ 6 by omega)
          · unfold zX3_askCases_s32_s20_c0_72
            refine dOk_le (A := Int32.toInt (q_27.1 32 13)) (B := Int32.toInt x5_13) rfl rfl (fun c_166 => ?_) (fun c_167 => ?_)
            · exact hn_43 q_27 x6_30 0 6 a_31 ((cFr.rf : cFr [19, 21, 36] [(18, 1)] q_11 q_11).t a_32 (by decide) (by decide)) (show 0 ≤ Int32.toInt x6_30 by omega) (show Int32.toInt x6_30 ≤ 5 by omega) (show Int32.toInt x6_30 = Int32.toInt x6_30 by omega) (show 0 ≤ (0 : Int) by omega) (show (0 : Int) ≤ 6 by omega) (show (6 : Int) ≤ 6 by omega)
            · try have t_168 : Int32.toInt (q_27.1 32 13 - 1) = Int32.toInt (q_27.1 32 13) - 1 := ti_sub rfl (by decide) (by omega) (by omega)
              exact hn_43 q_27 x6_30 0 (q_27.1 32 13 - 1) a_31 ((cFr.rf : cFr [19, 21, 36] [(18, 1)] q_11 q_11).t a_32 (by decide) (by decide)) (show 0 ≤ Int32.toInt x6_30 by omega) (show Int32.toInt x6_30 ≤ 5 by omega) (show Int32.toInt x6_30 = Int32.toInt x6_30 by omega) (show 0 ≤ (0 : Int) by omega) (show (0 : Int) ≤ 6 by omega) (show Int32.toInt (q_27.1 32 13 - 1) ≤ 6 by omega)
      · exact (show (TC q_11) ∧ (cFr [19, 21, 36] [(18, 1)] q_11 q_11) ∧ (0 = 0) ∧ (x5_13 = x5_13) ∧ (0 ≤ (0 : Int)) ∧ ((0 : Int) ≤ 6) ∧ (1 ≤ Int32.toInt x5_13) ∧ (Int32.toInt x5_13 ≤ 6) from ⟨a_14, cFr.rf, rfl, rfl, by omega, by omega, by omega, by omega⟩)
      · show (6 - (0 : Int)).toNat < 1000000000000
        omega
  · exact (show (TC q_5) ∧ (cFr [19, 21, 36] [(18, 1)] q_5 q_5) ∧ (0 = 0) ∧ (1 ≤ (1 : Int)) ∧ ((1 : Int) ≤ 7) from ⟨i_7, cFr.rf, rfl, by omega, by omega⟩)
  · show (7 - (1 : Int)).toNat < 1000000000000
    omega

set_option maxHeartbeats 4000000 in
set_option maxRecDepth 100000 in
theorem ok_X3_sameBars_s32 (q : dK) (hT : TC q) : dOk (zX3_sameBars_s32 q) (fun (o : Int32 × dK) => (o.2 = q) ∧ ((Int32.toInt o.1 = 0 ∨ Int32.toInt o.1 = 1))) := by
  unfold zX3_sameBars_s32
  unfold zX3_sameBars_s32_2
  refine dFix_ok (fun (a : dK × Int32) => (a.1 = q) ∧ (0 ≤ Int32.toInt a.2) ∧ (Int32.toInt a.2 ≤ 504)) (fun (a : dK × Int32) => (504 - Int32.toInt a.2).toNat) ?_ _ ?_ _ (dF_gt ?_)
  · intro a ha k_2 hk_1
    obtain ⟨q_3, x1_4⟩ := a
    replace ha : (q_3 = q) ∧ (0 ≤ Int32.toInt x1_4) ∧ (Int32.toInt x1_4 ≤ 504) := ha
    obtain ⟨a_5, a_6, a_7⟩ := ha
    show dOk (zX3_sameBars_s32_2b  (fun q x1 => k_2 (q, x1)) q_3 x1_4) _
    unfold zX3_sameBars_s32_2b
    subst q_3
    refine dOk_le (A := 504) (B := Int32.toInt x1_4) (by decide) rfl (fun c_8 => ?_) (fun c_9 => ?_)
    · exact dOk_some (show (q = q) ∧ (((1 : Int) = 0 ∨ (1 : Int) = 1)) from ⟨rfl, by omega⟩)
    · refine dOk_G (dg_ok (show 0 ≤ Int32.toInt x1_4 by omega) (show Int32.toInt x1_4 < ((504 : Nat) : Int) by omega)) ?_
      have n_10 : ((Int32.toNatClampNeg x1_4 : Nat) : Int) = Int32.toInt x1_4 := cl_eq (by omega)
      refine dOk_L (fun v_11 ev_11 => ?_)
      refine dOk_G (dg_ok (show 0 ≤ Int32.toInt x1_4 by omega) (show Int32.toInt x1_4 < ((504 : Nat) : Int) by omega)) ?_
      refine dOk_L (fun v_12 ev_12 => ?_)
      refine dOk_eq (A := Int32.toInt v_11) (B := Int32.toInt v_12) rfl rfl (fun c_13z c_13 => ?_) (fun c_14z c_14 => ?_)
      · try have t_16 : Int32.toInt (x1_4 + 1) = Int32.toInt x1_4 + 1 := ti_add rfl (by decide) (by omega) (by omega)
        exact hk_1 (q, (x1_4 + 1)) (show (q = q) ∧ (0 ≤ Int32.toInt (x1_4 + 1)) ∧ (Int32.toInt (x1_4 + 1) ≤ 504) from ⟨rfl, by omega, by omega⟩) (show (504 - Int32.toInt (x1_4 + 1)).toNat < (504 - Int32.toInt x1_4).toNat by omega)
      · exact dOk_some (show (q = q) ∧ (((0 : Int) = 0 ∨ (0 : Int) = 1)) from ⟨rfl, by omega⟩)
  · exact (show (q = q) ∧ (0 ≤ (0 : Int)) ∧ ((0 : Int) ≤ 504) from ⟨rfl, by omega, by omega⟩)
  · show (504 - (0 : Int)).toNat < 1000000000000
    omega

set_option maxHeartbeats 4000000 in
set_option maxRecDepth 100000 in
theorem ok_X3_isOrdered_s32 (q : dK) (p1 : Int32) (hT : TC q) : dOk (zX3_isOrdered_s32 q p1) (fun (o : Int32 × dK) => (o.2 = q) ∧ ((Int32.toInt o.1 = 0 ∨ Int32.toInt o.1 = 1))) := by
  unfold zX3_isOrdered_s32
  refine dOk_eq (A := Int32.toInt (q.1 32 16)) (B := 1) rfl (by decide) (fun c_1z c_1 => ?_) (fun c_2z c_2 => ?_)
  · refine dOk_eq (A := Int32.toInt p1) (B := 0) rfl (by decide) (fun c_4z c_4 => ?_) (fun c_5z c_5 => ?_)
    · unfold zX3_isOrdered_s32_34
      refine dOk_G (dbl_ok (show (1 : Int) = 0 ∨ (1 : Int) = 1 by omega)) ?_
      exact dOk_some (show (q = q) ∧ (((1 : Int) = 0 ∨ (1 : Int) = 1)) from ⟨rfl, by omega⟩)
    · unfold zX3_isOrdered_s32_34
      refine dOk_G (dbl_ok (show (0 : Int) = 0 ∨ (0 : Int) = 1 by omega)) ?_
      exact dOk_some (show (q = q) ∧ (((0 : Int) = 0 ∨ (0 : Int) = 1)) from ⟨rfl, by omega⟩)
  · have f_7 : 0 ≤ Int32.toInt (q.1 32 13) ∧ Int32.toInt (q.1 32 13) ≤ 6 := rg_32_13 hT
    try have t_8 := ti_shr (x := p1) (s := q.1 32 13) (by omega)
    refine dOk_eq (A := Int32.toInt (p1 >>> ((q.1 32 13 : Int32) &&& 31))) (B := 0) rfl (by decide) (fun c_9z c_9 => ?_) (fun c_10z c_10 => ?_)
    · unfold zX3_isOrdered_s32_34
      refine dOk_G (dbl_ok (show (1 : Int) = 0 ∨ (1 : Int) = 1 by omega)) ?_
      exact dOk_some (show (q = q) ∧ (((1 : Int) = 0 ∨ (1 : Int) = 1)) from ⟨rfl, by omega⟩)
    · unfold zX3_isOrdered_s32_34
      refine dOk_G (dbl_ok (show (0 : Int) = 0 ∨ (0 : Int) = 1 by omega)) ?_
      exact dOk_some (show (q = q) ∧ (((0 : Int) = 0 ∨ (0 : Int) = 1)) from ⟨rfl, by omega⟩)
end
section
set_option maxHeartbeats 4000000 in
set_option maxRecDepth 100000 in
theorem ok_X3_measure_s32 (q : dK) (hT : TC q) (hp0 : LD q) : dOk (zX3_measure_s32 q) (fun (o : dK) => (TC o) ∧ (cFr [37, 42, 44] [(32, 17), (32, 18)] q o)) := by
  unfold zX3_measure_s32
  have hLs := ld_sz hp0
  have hn_2 : ∀ (q_1 : dK), TC q_1 → cFr [37, 42, 44] [(32, 17), (32, 18)] q q_1 → dOk (zX3_measure_s32_30 q_1) (fun (o : dK) => (TC o) ∧ (cFr [37, 42, 44] [(32, 17), (32, 18)] q o)) := by
    intro q_1 hT_3 hF_4
    unfold zX3_measure_s32_30
    refine dOk_L (fun q_5 eq_5 => ?_)
    have hTq_5 : TC q_5 := by rw [eq_5]; exact tc_cfi hT_3 (by decide)
    have hFq_5 : cFr [37, 42, 44] [(32, 17), (32, 18)] q q_5 := by rw [eq_5]; exact hF_4.g (by decide)
    unfold zX3_measure_s32_42
    refine dFix_ok (fun (a : dK × Int32 × Int32) => (TC a.1) ∧ (cFr [42, 44] [] q_5 a.1) ∧ (0 ≤ Int32.toInt a.2.1) ∧ (Int32.toInt a.2.1 = Int32.toInt a.2.2) ∧ (Int32.toInt a.2.1 ≤ Int32.toInt (q_5.1 32 14)) ∧ (BL a.1 (Int32.toInt a.2.1))) (fun (a : dK × Int32 × Int32) => (Int32.toInt (q_5.1 32 14) - Int32.toInt a.2.2).toNat) ?_ _ ?_ _ (dF_gt ?_)
    · intro a ha k_7 hk_6
      obtain ⟨q_8, x1_9, x2_10⟩ := a
      replace ha : (TC q_8) ∧ (cFr [42, 44] [] q_5 q_8) ∧ (0 ≤ Int32.toInt x1_9) ∧ (Int32.toInt x1_9 = Int32.toInt x2_10) ∧ (Int32.toInt x1_9 ≤ Int32.toInt (q_5.1 32 14)) ∧ (BL q_8 (Int32.toInt x1_9)) := ha
      obtain ⟨a_11, a_12, a_13, a_14, a_15, a_16⟩ := ha
      show dOk (zX3_measure_s32_42b  (fun q x1 x2 => k_7 (q, x1, x2)) q_8 x1_9 x2_10) _
      unfold zX3_measure_s32_42b
      have hFq_8 : cFr [37, 42, 44] [(32, 17), (32, 18)] q q_8 := hFq_5.t a_12 (by decide) (by decide)
      have f_17 : 0 ≤ Int32.toInt (q_5.1 32 14) ∧ Int32.toInt (q_5.1 32 14) ≤ 46080 := rg_32_14 hTq_5
      have f_18 : 0 ≤ Int32.toInt (q_1.1 32 14) ∧ Int32.toInt (q_1.1 32 14) ≤ 46080 := rg_32_14 hT_3
      have f_19 : 0 ≤ Int32.toInt (q.1 32 14) ∧ Int32.toInt (q.1 32 14) ≤ 46080 := rg_32_14 hT
      have w_20 : Int32.toInt (q_1.1 32 14) = Int32.toInt (q.1 32 14) := by rw [hF_4.1 32 14 (by decide) (by decide)]
      have w_21 : Int32.toInt (q_5.1 32 14) = Int32.toInt (q_1.1 32 14) := by rw [eq_5]; rfl
      have f_22 : 0 ≤ Int32.toInt (q_8.1 32 14) ∧ Int32.toInt (q_8.1 32 14) ≤ 46080 := rg_32_14 a_11
      have w_23 : Int32.toInt (q_8.1 32 14) = Int32.toInt (q_5.1 32 14) := by rw [a_12.1 32 14 (by decide) (by decide)]
      refine dOk_le (A := Int32.toInt (q_8.1 32 14)) (B := Int32.toInt x2_10) rfl rfl (fun c_24 => ?_) (fun c_25 => ?_)
      · unfold zX3_measure_s32_81
        unfold zX3_measure_s32_83
        refine dFix_ok (fun (a : dK × Int32 × Int32) => (TC a.1) ∧ (cFr [42, 44] [] q_8 a.1) ∧ (0 ≤ Int32.toInt a.2.2) ∧ (Int32.toInt a.2.2 ≤ Int32.toInt a.2.1) ∧ (Int32.toInt a.2.1 ≤ Int32.toInt (q_8.1 32 14)) ∧ (BL a.1 (Int32.toInt a.2.1))) (fun (a : dK × Int32 × Int32) => (Int32.toInt (q_8.1 32 14) - Int32.toInt a.2.2).toNat) ?_ _ ?_ _ (dF_gt ?_)
        · intro a ha k_27 hk_26
          obtain ⟨q_28, x1_29, x2_30⟩ := a
          replace ha : (TC q_28) ∧ (cFr [42, 44] [] q_8 q_28) ∧ (0 ≤ Int32.toInt x2_30) ∧ (Int32.toInt x2_30 ≤ Int32.toInt x1_29) ∧ (Int32.toInt x1_29 ≤ Int32.toInt (q_8.1 32 14)) ∧ (BL q_28 (Int32.toInt x1_29)) := ha
          obtain ⟨a_31, a_32, a_33, a_34, a_35, a_36⟩ := ha
          show dOk (zX3_measure_s32_83b  (fun q x1 x2 => k_27 (q, x1, x2)) q_28 x1_29 x2_30) _
          unfold zX3_measure_s32_83b
          have hFq_28 : cFr [37, 42, 44] [(32, 17), (32, 18)] q q_28 := hFq_8.t a_32 (by decide) (by decide)
          have f_37 : 0 ≤ Int32.toInt (q_28.1 32 14) ∧ Int32.toInt (q_28.1 32 14) ≤ 46080 := rg_32_14 a_31
          have w_38 : Int32.toInt (q_28.1 32 14) = Int32.toInt (q_8.1 32 14) := by rw [a_32.1 32 14 (by decide) (by decide)]
          refine dOk_le (A := Int32.toInt (q_28.1 32 14)) (B := Int32.toInt x2_30) rfl rfl (fun c_39 => ?_) (fun c_40 => ?_)
          · unfold zX3_measure_s32_197
            refine dOk_L (fun q_41 eq_41 => ?_)
            have f_42 : 0 ≤ Int32.toInt (q_28.1 32 13) ∧ Int32.toInt (q_28.1 32 13) ≤ 6 := rg_32_13 a_31
            have f_43 : 0 ≤ Int32.toInt (q_8.1 32 13) ∧ Int32.toInt (q_8.1 32 13) ≤ 6 := rg_32_13 a_11
            have f_44 : 0 ≤ Int32.toInt (q_5.1 32 13) ∧ Int32.toInt (q_5.1 32 13) ≤ 6 := rg_32_13 hTq_5
            have f_45 : 0 ≤ Int32.toInt (q_1.1 32 13) ∧ Int32.toInt (q_1.1 32 13) ≤ 6 := rg_32_13 hT_3
            have f_46 : 0 ≤ Int32.toInt (q.1 32 13) ∧ Int32.toInt (q.1 32 13) ≤ 6 := rg_32_13 hT
            have w_47 : Int32.toInt (q_1.1 32 13) = Int32.toInt (q.1 32 13) := by rw [hF_4.1 32 13 (by decide) (by decide)]
            have w_48 : Int32.toInt (q_5.1 32 13) = Int32.toInt (q_1.1 32 13) := by rw [eq_5]; rfl
            have w_49 : Int32.toInt (q_8.1 32 13) = Int32.toInt (q_5.1 32 13) := by rw [a_12.1 32 13 (by decide) (by decide)]
            have w_50 : Int32.toInt (q_28.1 32 13) = Int32.toInt (q_8.1 32 13) := by rw [a_32.1 32 13 (by decide) (by decide)]
            have hTq_41 : TC q_41 := by rw [eq_41]; exact sa_32_17 a_31
            have hFq_41 : cFr [37, 42, 44] [(32, 17), (32, 18)] q q_41 := by rw [eq_41]; exact hFq_28.f (by decide)
            have hB_51 : BL q_41 (Int32.toInt x1_29) := by rw [eq_41]; exact bl_o a_36 rfl
            refine dOk_L (fun q_52 eq_52 => ?_)
            have w_53 : Int32.toInt (q_1.1 32 16) = Int32.toInt (q.1 32 16) := by rw [hF_4.1 32 16 (by decide) (by decide)]
            have w_54 : Int32.toInt (q_5.1 32 16) = Int32.toInt (q_1.1 32 16) := by rw [eq_5]; rfl
            have w_55 : Int32.toInt (q_8.1 32 16) = Int32.toInt (q_5.1 32 16) := by rw [a_12.1 32 16 (by decide) (by decide)]
            have w_56 : Int32.toInt (q_28.1 32 16) = Int32.toInt (q_8.1 32 16) := by rw [a_32.1 32 16 (by decide) (by decide)]
            have w_57 : Int32.toInt (q_41.1 32 16) = Int32.toInt (q_28.1 32 16) := by rw [eq_41, cui_n (by decide)]
            have hTq_52 : TC q_52 := by rw [eq_52]; exact sa_32_18 hTq_41
            have hFq_52 : cFr [37, 42, 44] [(32, 17), (32, 18)] q q_52 := by rw [eq_52]; exact hFq_41.f (by decide)
            have hB_58 : BL q_52 (Int32.toInt x1_29) := by rw [eq_52]; exact bl_o hB_51 rfl
            refine dOk_L (fun q_59 eq_59 => ?_)
            have hTq_59 : TC q_59 := by rw [eq_59]; exact tc_cci hTq_52 (by decide)
            have hFq_59 : cFr [37, 42, 44] [(32, 17), (32, 18)] q q_59 := by rw [eq_59]; exact hFq_52.c (by decide)
            exact dOk_some (show (TC q_59) ∧ (cFr [37, 42, 44] [(32, 17), (32, 18)] q q_59) from ⟨hTq_59, hFq_59⟩)
          · refine dOk_le (A := Int32.toInt x1_29) (B := Int32.toInt x2_30) rfl rfl (fun c_60 => ?_) (fun c_61 => ?_)
            · unfold zX3_measure_s32_197
              refine dOk_L (fun q_62 eq_62 => ?_)
              have f_63 : 0 ≤ Int32.toInt (q_28.1 32 13) ∧ Int32.toInt (q_28.1 32 13) ≤ 6 := rg_32_13 a_31
              have f_64 : 0 ≤ Int32.toInt (q_8.1 32 13) ∧ Int32.toInt (q_8.1 32 13) ≤ 6 := rg_32_13 a_11
              have f_65 : 0 ≤ Int32.toInt (q_5.1 32 13) ∧ Int32.toInt (q_5.1 32 13) ≤ 6 := rg_32_13 hTq_5
              have f_66 : 0 ≤ Int32.toInt (q_1.1 32 13) ∧ Int32.toInt (q_1.1 32 13) ≤ 6 := rg_32_13 hT_3
              have f_67 : 0 ≤ Int32.toInt (q.1 32 13) ∧ Int32.toInt (q.1 32 13) ≤ 6 := rg_32_13 hT
              have w_68 : Int32.toInt (q_1.1 32 13) = Int32.toInt (q.1 32 13) := by rw [hF_4.1 32 13 (by decide) (by decide)]
              have w_69 : Int32.toInt (q_5.1 32 13) = Int32.toInt (q_1.1 32 13) := by rw [eq_5]; rfl
              have w_70 : Int32.toInt (q_8.1 32 13) = Int32.toInt (q_5.1 32 13) := by rw [a_12.1 32 13 (by decide) (by decide)]
              have w_71 : Int32.toInt (q_28.1 32 13) = Int32.toInt (q_8.1 32 13) := by rw [a_32.1 32 13 (by decide) (by decide)]
              have hTq_62 : TC q_62 := by rw [eq_62]; exact sa_32_17 a_31
              have hFq_62 : cFr [37, 42, 44] [(32, 17), (32, 18)] q q_62 := by rw [eq_62]; exact hFq_28.f (by decide)
              have hB_72 : BL q_62 (Int32.toInt x1_29) := by rw [eq_62]; exact bl_o a_36 rfl
              refine dOk_L (fun q_73 eq_73 => ?_)
              have w_74 : Int32.toInt (q_1.1 32 16) = Int32.toInt (q.1 32 16) := by rw [hF_4.1 32 16 (by decide) (by decide)]
              have w_75 : Int32.toInt (q_5.1 32 16) = Int32.toInt (q_1.1 32 16) := by rw [eq_5]; rfl
              have w_76 : Int32.toInt (q_8.1 32 16) = Int32.toInt (q_5.1 32 16) := by rw [a_12.1 32 16 (by decide) (by decide)]
              have w_77 : Int32.toInt (q_28.1 32 16) = Int32.toInt (q_8.1 32 16) := by rw [a_32.1 32 16 (by decide) (by decide)]
              have w_78 : Int32.toInt (q_62.1 32 16) = Int32.toInt (q_28.1 32 16) := by rw [eq_62, cui_n (by decide)]
              have hTq_73 : TC q_73 := by rw [eq_73]; exact sa_32_18 hTq_62
              have hFq_73 : cFr [37, 42, 44] [(32, 17), (32, 18)] q q_73 := by rw [eq_73]; exact hFq_62.f (by decide)
              have hB_79 : BL q_73 (Int32.toInt x1_29) := by rw [eq_73]; exact bl_o hB_72 rfl
              refine dOk_L (fun q_80 eq_80 => ?_)
              have hTq_80 : TC q_80 := by rw [eq_80]; exact tc_cci hTq_73 (by decide)
              have hFq_80 : cFr [37, 42, 44] [(32, 17), (32, 18)] q q_80 := by rw [eq_80]; exact hFq_73.c (by decide)
              exact dOk_some (show (TC q_80) ∧ (cFr [37, 42, 44] [(32, 17), (32, 18)] q q_80) from ⟨hTq_80, hFq_80⟩)
            · have f_81 : 0 ≤ Int32.toInt (q_28.1 32 105) ∧ Int32.toInt (q_28.1 32 105) ≤ 46080 := rg_32_105 a_31
              have f_82 : 0 ≤ Int32.toInt (q_8.1 32 105) ∧ Int32.toInt (q_8.1 32 105) ≤ 46080 := rg_32_105 a_11
              have f_83 : 0 ≤ Int32.toInt (q_5.1 32 105) ∧ Int32.toInt (q_5.1 32 105) ≤ 46080 := rg_32_105 hTq_5
              have f_84 : 0 ≤ Int32.toInt (q_1.1 32 105) ∧ Int32.toInt (q_1.1 32 105) ≤ 46080 := rg_32_105 hT_3
              have f_85 : 0 ≤ Int32.toInt (q.1 32 105) ∧ Int32.toInt (q.1 32 105) ≤ 46080 := rg_32_105 hT
              have w_86 : Int32.toInt (q_1.1 32 105) = Int32.toInt (q.1 32 105) := by rw [hF_4.1 32 105 (by decide) (by decide)]
              have w_87 : Int32.toInt (q_5.1 32 105) = Int32.toInt (q_1.1 32 105) := by rw [eq_5]; rfl
              have w_88 : Int32.toInt (q_8.1 32 105) = Int32.toInt (q_5.1 32 105) := by rw [a_12.1 32 105 (by decide) (by decide)]
              have w_89 : Int32.toInt (q_28.1 32 105) = Int32.toInt (q_8.1 32 105) := by rw [a_32.1 32 105 (by decide) (by decide)]
              refine dOk_G (dg_ok (show 0 ≤ Int32.toInt x2_30 by omega) (show Int32.toInt x2_30 < ((Int32.toNatClampNeg (q_28.1 32 105) : Nat) : Int) by rw [cl_eq (show 0 ≤ Int32.toInt (q_28.1 32 105) by omega)]; omega)) ?_
              have n_90 : ((Int32.toNatClampNeg x2_30 : Nat) : Int) = Int32.toInt x2_30 := cl_eq (by omega)
              refine dOk_L (fun v_91 ev_91 => ?_)
              have f_92 : 0 ≤ Int32.toInt v_91 ∧ Int32.toInt v_91 < Int32.toInt (q_28.1 32 14) := by rw [ev_91]; exact a_36 _ (show ((Int32.toNatClampNeg x2_30 : Nat) : Int) < Int32.toInt x1_29 by omega)
              unfold zX3_measure_s32_106
              refine dFix_ok (fun (a : dK × Int32 × Int32 × Int32 × Int32) => (TC a.1) ∧ (cFr [42, 44] [] q_28 a.1) ∧ (a.2.2.1 = x2_30) ∧ (a.2.2.2.1 = v_91) ∧ (1 ≤ Int32.toInt a.2.2.2.2) ∧ (Int32.toInt a.2.2.2.2 ≤ 7) ∧ (Int32.toInt a.2.2.1 < Int32.toInt a.2.1) ∧ (Int32.toInt a.2.1 ≤ Int32.toInt (q_28.1 32 14)) ∧ (BL a.1 (Int32.toInt a.2.1))) (fun (a : dK × Int32 × Int32 × Int32 × Int32) => (7 - Int32.toInt a.2.2.2.2).toNat) ?_ _ ?_ _ (dF_gt ?_)
              · intro a ha k_94 hk_93
                obtain ⟨q_95, x1_96, x2_97, x3_98, x4_99⟩ := a
                replace ha : (TC q_95) ∧ (cFr [42, 44] [] q_28 q_95) ∧ (x2_97 = x2_30) ∧ (x3_98 = v_91) ∧ (1 ≤ Int32.toInt x4_99) ∧ (Int32.toInt x4_99 ≤ 7) ∧ (Int32.toInt x2_97 < Int32.toInt x1_96) ∧ (Int32.toInt x1_96 ≤ Int32.toInt (q_28.1 32 14)) ∧ (BL q_95 (Int32.toInt x1_96)) := ha
                obtain ⟨a_100, a_101, a_102, a_103, a_104, a_105, a_106, a_107, a_108⟩ := ha
                show dOk (zX3_measure_s32_106b _ (fun q x1 x2 x3 x4 => k_94 (q, x1, x2, x3, x4)) q_95 x1_96 x2_97 x3_98 x4_99) _
                unfold zX3_measure_s32_106b
                have hFq_95 : cFr [37, 42, 44] [(32, 17), (32, 18)] q q_95 := hFq_28.t a_101 (by decide) (by decide)
                subst x2_97
                subst x3_98
                have f_109 : 0 ≤ Int32.toInt (q_95.1 32 13) ∧ Int32.toInt (q_95.1 32 13) ≤ 6 := rg_32_13 a_100
                have f_110 : 0 ≤ Int32.toInt (q_28.1 32 13) ∧ Int32.toInt (q_28.1 32 13) ≤ 6 := rg_32_13 a_31
                have f_111 : 0 ≤ Int32.toInt (q_8.1 32 13) ∧ Int32.toInt (q_8.1 32 13) ≤ 6 := rg_32_13 a_11
                have f_112 : 0 ≤ Int32.toInt (q_5.1 32 13) ∧ Int32.toInt (q_5.1 32 13) ≤ 6 := rg_32_13 hTq_5
                have f_113 : 0 ≤ Int32.toInt (q_1.1 32 13) ∧ Int32.toInt (q_1.1 32 13) ≤ 6 := rg_32_13 hT_3
                have f_114 : 0 ≤ Int32.toInt (q.1 32 13) ∧ Int32.toInt (q.1 32 13) ≤ 6 := rg_32_13 hT
                have w_115 : Int32.toInt (q_1.1 32 13) = Int32.toInt (q.1 32 13) := by rw [hF_4.1 32 13 (by decide) (by decide)]
                have w_116 : Int32.toInt (q_5.1 32 13) = Int32.toInt (q_1.1 32 13) := by rw [eq_5]; rfl
                have w_117 : Int32.toInt (q_8.1 32 13) = Int32.toInt (q_5.1 32 13) := by rw [a_12.1 32 13 (by decide) (by decide)]
                have w_118 : Int32.toInt (q_28.1 32 13) = Int32.toInt (q_8.1 32 13) := by rw [a_32.1 32 13 (by decide) (by decide)]
                have w_119 : Int32.toInt (q_95.1 32 13) = Int32.toInt (q_28.1 32 13) := by rw [a_101.1 32 13 (by decide) (by decide)]
                refine dOk_lt (A := Int32.toInt (q_95.1 32 13)) (B := Int32.toInt x4_99) rfl rfl (fun c_120 => ?_) (fun c_121 => ?_)
                · try have t_122 : Int32.toInt (x2_30 + 1) = Int32.toInt x2_30 + 1 := ti_add rfl (by decide) (by omega) (by omega)
                  exact hk_26 (q_95, x1_96, (x2_30 + 1)) (show (TC q_95) ∧ (cFr [42, 44] [] q_8 q_95) ∧ (0 ≤ Int32.toInt (x2_30 + 1)) ∧ (Int32.toInt (x2_30 + 1) ≤ Int32.toInt x1_96) ∧ (Int32.toInt x1_96 ≤ Int32.toInt (q_8.1 32 14)) ∧ (BL q_95 (Int32.toInt x1_96)) from ⟨a_100, ((((cFr.rf : cFr [42, 44] [] q_8 q_8).t a_32 (by decide) (by decide)) : cFr [42, 44] [] q_8 q_28).t a_101 (by decide) (by decide)), by omega, by omega, by omega, bl_c (n := Int32.toInt x1_96) a_108 (show Int32.toInt x1_96 ≤ Int32.toInt x1_96 by omega)⟩) (show (Int32.toInt (q_8.1 32 14) - Int32.toInt (x2_30 + 1)).toNat < (Int32.toInt (q_8.1 32 14) - Int32.toInt x2_30).toNat by omega)
                · have f_123 : 0 ≤ Int32.toInt (q_95.1 32 14) ∧ Int32.toInt (q_95.1 32 14) ≤ 46080 := rg_32_14 a_100
                  have w_124 : Int32.toInt (q_95.1 32 14) = Int32.toInt (q_28.1 32 14) := by rw [a_101.1 32 14 (by decide) (by decide)]
                  refine dOk_B (ok_X3_turned_s32 q_95 v_91 x4_99 a_100 (ld_fr hp0 hFq_95 rfl) (show 0 ≤ Int32.toInt v_91 by omega) (show Int32.toInt v_91 < Int32.toInt (q_95.1 32 14) by omega)) (fun r_125 q_126 h_127 => ?_)
                  replace h_127 : (q_126 = q_95) ∧ (0 ≤ Int32.toInt r_125) ∧ (Int32.toInt r_125 < Int32.toInt (q_95.1 32 14)) := h_127
                  obtain ⟨i_128, i_129, i_130⟩ := h_127
                  subst q_126
                  have f_131 : 0 ≤ Int32.toInt (q_95.1 32 103) ∧ Int32.toInt (q_95.1 32 103) ≤ 46080 := rg_32_103 a_100
                  have f_132 : 0 ≤ Int32.toInt (q_28.1 32 103) ∧ Int32.toInt (q_28.1 32 103) ≤ 46080 := rg_32_103 a_31
                  have f_133 : 0 ≤ Int32.toInt (q_8.1 32 103) ∧ Int32.toInt (q_8.1 32 103) ≤ 46080 := rg_32_103 a_11
                  have f_134 : 0 ≤ Int32.toInt (q_5.1 32 103) ∧ Int32.toInt (q_5.1 32 103) ≤ 46080 := rg_32_103 hTq_5
                  have f_135 : 0 ≤ Int32.toInt (q_1.1 32 103) ∧ Int32.toInt (q_1.1 32 103) ≤ 46080 := rg_32_103 hT_3
                  have f_136 : 0 ≤ Int32.toInt (q.1 32 103) ∧ Int32.toInt (q.1 32 103) ≤ 46080 := rg_32_103 hT
                  have w_137 : Int32.toInt (q_1.1 32 103) = Int32.toInt (q.1 32 103) := by rw [hF_4.1 32 103 (by decide) (by decide)]
                  have w_138 : Int32.toInt (q_5.1 32 103) = Int32.toInt (q_1.1 32 103) := by rw [eq_5]; rfl
                  have w_139 : Int32.toInt (q_8.1 32 103) = Int32.toInt (q_5.1 32 103) := by rw [a_12.1 32 103 (by decide) (by decide)]
                  have w_140 : Int32.toInt (q_28.1 32 103) = Int32.toInt (q_8.1 32 103) := by rw [a_32.1 32 103 (by decide) (by decide)]
                  have w_141 : Int32.toInt (q_95.1 32 103) = Int32.toInt (q_28.1 32 103) := by rw [a_101.1 32 103 (by decide) (by decide)]
                  refine dOk_G (dg_ok (show 0 ≤ Int32.toInt r_125 by omega) (show Int32.toInt r_125 < ((Int32.toNatClampNeg (q_95.1 32 103) : Nat) : Int) by rw [cl_eq (show 0 ≤ Int32.toInt (q_95.1 32 103) by omega)]; omega)) ?_
                  have n_142 : ((Int32.toNatClampNeg r_125 : Nat) : Int) = Int32.toInt r_125 := cl_eq (by omega)
                  refine dOk_L (fun v_143 ev_143 => ?_)
                  refine dOk_eq (A := Int32.toInt v_143) (B := (-1)) rfl (by decide) (fun c_144z c_144 => ?_) (fun c_145z c_145 => ?_)
                  · refine dOk_B (ok_X3_caseOf_s32 q_95 r_125 x4_99 a_100 (ld_fr hp0 hFq_95 rfl) (show 0 ≤ Int32.toInt r_125 by omega) (show Int32.toInt r_125 < Int32.toInt (q_95.1 32 14) by omega) (show 1 ≤ Int32.toInt x4_99 by omega) (show Int32.toInt x4_99 ≤ Int32.toInt (q_95.1 32 13) by omega)) (fun r_147 q_148 h_149 => ?_)
                    replace h_149 : (q_148 = q_95) ∧ (0 ≤ Int32.toInt r_147) ∧ (Int32.toInt r_147 < 504) := h_149
                    obtain ⟨i_150, i_151, i_152⟩ := h_149
                    subst q_148
                    refine dOk_G (dg_ok (show 0 ≤ Int32.toInt r_147 by omega) (show Int32.toInt r_147 < ((504 : Nat) : Int) by omega)) ?_
                    have n_153 : ((Int32.toNatClampNeg r_147 : Nat) : Int) = Int32.toInt r_147 := cl_eq (by omega)
                    refine dOk_L (fun v_154 ev_154 => ?_)
                    refine dOk_eq (A := Int32.toInt v_154) (B := 0) rfl (by decide) (fun c_155z c_155 => ?_) (fun c_156z c_156 => ?_)
                    · refine dOk_le (A := Int32.toInt (q_95.1 32 14)) (B := Int32.toInt x1_96) rfl rfl (fun c_158 => ?_) (fun c_159 => ?_)
                      · unfold zX3_measure_s32_185
                        try have t_160 : Int32.toInt (x4_99 + 1) = Int32.toInt x4_99 + 1 := ti_add rfl (by decide) (by omega) (by omega)
                        exact hk_93 (q_95, x1_96, x2_30, v_91, (x4_99 + 1)) (show (TC q_95) ∧ (cFr [42, 44] [] q_28 q_95) ∧ (x2_30 = x2_30) ∧ (v_91 = v_91) ∧ (1 ≤ Int32.toInt (x4_99 + 1)) ∧ (Int32.toInt (x4_99 + 1) ≤ 7) ∧ (Int32.toInt x2_30 < Int32.toInt x1_96) ∧ (Int32.toInt x1_96 ≤ Int32.toInt (q_28.1 32 14)) ∧ (BL q_95 (Int32.toInt x1_96)) from ⟨a_100, ((cFr.rf : cFr [42, 44] [] q_28 q_28).t a_101 (by decide) (by decide)), rfl, rfl, by omega, by omega, by omega, by omega, bl_c (n := Int32.toInt x1_96) a_108 (show Int32.toInt x1_96 ≤ Int32.toInt x1_96 by omega)⟩) (show (7 - Int32.toInt (x4_99 + 1)).toNat < (7 - Int32.toInt x4_99).toNat by omega)
                      · refine dOk_G (dg_ok (show 0 ≤ Int32.toInt v_91 by omega) (show Int32.toInt v_91 < ((Int32.toNatClampNeg (q_95.1 32 103) : Nat) : Int) by rw [cl_eq (show 0 ≤ Int32.toInt (q_95.1 32 103) by omega)]; omega)) ?_
                        have n_161 : ((Int32.toNatClampNeg v_91 : Nat) : Int) = Int32.toInt v_91 := cl_eq (by omega)
                        refine dOk_L (fun v_162 ev_162 => ?_)
                        refine dOk_G (dg_ok (show 0 ≤ Int32.toInt r_125 by omega) (show Int32.toInt r_125 < ((Int32.toNatClampNeg (q_95.1 32 103) : Nat) : Int) by rw [cl_eq (show 0 ≤ Int32.toInt (q_95.1 32 103) by omega)]; omega)) ?_
                        refine dOk_L (fun q_163 eq_163 => ?_)
                        have hTq_163 : TC q_163 := by rw [eq_163]; exact sa_42 a_100
                        have hFq_163 : cFr [37, 42, 44] [(32, 17), (32, 18)] q q_163 := by rw [eq_163]; exact hFq_95.i (by decide)
                        have hB_164 : BL q_163 (Int32.toInt x1_96) := by rw [eq_163]; exact bl_o a_108 rfl
                        have f_165 : 0 ≤ Int32.toInt (q_163.1 32 105) ∧ Int32.toInt (q_163.1 32 105) ≤ 46080 := rg_32_105 hTq_163
                        have f_166 : 0 ≤ Int32.toInt (q_95.1 32 105) ∧ Int32.toInt (q_95.1 32 105) ≤ 46080 := rg_32_105 a_100
                        have w_167 : Int32.toInt (q_95.1 32 105) = Int32.toInt (q_28.1 32 105) := by rw [a_101.1 32 105 (by decide) (by decide)]
                        try have w_168 : Int32.toInt (q_163.1 32 105) = Int32.toInt (q_95.1 32 105) := by rw [eq_163, cui_o (by decide)]
                        refine dOk_G (dg_ok (show 0 ≤ Int32.toInt x1_96 by omega) (show Int32.toInt x1_96 < ((Int32.toNatClampNeg (q_163.1 32 105) : Nat) : Int) by rw [cl_eq (show 0 ≤ Int32.toInt (q_163.1 32 105) by omega)]; omega)) ?_
                        have n_169 : ((Int32.toNatClampNeg x1_96 : Nat) : Int) = Int32.toInt x1_96 := cl_eq (by omega)
                        refine dOk_L (fun q_170 eq_170 => ?_)
                        have hTq_170 : TC q_170 := by rw [eq_170]; exact sa_44 hTq_163
                        have hFq_170 : cFr [37, 42, 44] [(32, 17), (32, 18)] q q_170 := by rw [eq_170]; exact hFq_163.i (by decide)
                        have f_171 : 0 ≤ Int32.toInt (q_163.1 32 14) ∧ Int32.toInt (q_163.1 32 14) ≤ 46080 := rg_32_14 hTq_163
                        try have w_172 : Int32.toInt (q_163.1 32 14) = Int32.toInt (q_95.1 32 14) := by rw [eq_163, cui_o (by decide)]
                        have hB_173 : BL q_170 (Int32.toInt x1_96 + 1) := by rw [eq_170]; exact bl_p (n := Int32.toInt x1_96) hB_164 (show ((Int32.toNatClampNeg x1_96 : Nat) : Int) = Int32.toInt x1_96 by omega) (show 0 ≤ Int32.toInt r_125 by omega) (show Int32.toInt r_125 < Int32.toInt (q_163.1 32 14) by omega)
                        unfold zX3_measure_s32_185
                        try have t_174 : Int32.toInt (x1_96 + 1) = Int32.toInt x1_96 + 1 := ti_add rfl (by decide) (by omega) (by omega)
                        try have t_175 : Int32.toInt (x4_99 + 1) = Int32.toInt x4_99 + 1 := ti_add rfl (by decide) (by omega) (by omega)
                        exact hk_93 (q_170, (x1_96 + 1), x2_30, v_91, (x4_99 + 1)) (show (TC q_170) ∧ (cFr [42, 44] [] q_28 q_170) ∧ (x2_30 = x2_30) ∧ (v_91 = v_91) ∧ (1 ≤ Int32.toInt (x4_99 + 1)) ∧ (Int32.toInt (x4_99 + 1) ≤ 7) ∧ (Int32.toInt x2_30 < Int32.toInt (x1_96 + 1)) ∧ (Int32.toInt (x1_96 + 1) ≤ Int32.toInt (q_28.1 32 14)) ∧ (BL q_170 (Int32.toInt (x1_96 + 1))) from ⟨hTq_170, (by rw [eq_170]; exact ((by rw [eq_163]; exact (((cFr.rf : cFr [42, 44] [] q_28 q_28).t a_101 (by decide) (by decide)) : cFr [42, 44] [] q_28 q_95).i (by decide)) : cFr [42, 44] [] q_28 q_163).i (by decide)), rfl, rfl, by omega, by omega, by omega, by omega, bl_c (n := Int32.toInt x1_96 + 1) hB_173 (show Int32.toInt (x1_96 + 1) ≤ Int32.toInt x1_96 + 1 by omega)⟩) (show (7 - Int32.toInt (x4_99 + 1)).toNat < (7 - Int32.toInt x4_99).toNat by omega)
                    · unfold zX3_measure_s32_185
                      try have t_176 : Int32.toInt (x4_99 + 1) = Int32.toInt x4_99 + 1 := ti_add rfl (by decide) (by omega) (by omega)
                      exact hk_93 (q_95, x1_96, x2_30, v_91, (x4_99 + 1)) (show (TC q_95) ∧ (cFr [42, 44] [] q_28 q_95) ∧ (x2_30 = x2_30) ∧ (v_91 = v_91) ∧ (1 ≤ Int32.toInt (x4_99 + 1)) ∧ (Int32.toInt (x4_99 + 1) ≤ 7) ∧ (Int32.toInt x2_30 < Int32.toInt x1_96) ∧ (Int32.toInt x1_96 ≤ Int32.toInt (q_28.1 32 14)) ∧ (BL q_95 (Int32.toInt x1_96)) from ⟨a_100, ((cFr.rf : cFr [42, 44] [] q_28 q_28).t a_101 (by decide) (by decide)), rfl, rfl, by omega, by omega, by omega, by omega, bl_c (n := Int32.toInt x1_96) a_108 (show Int32.toInt x1_96 ≤ Int32.toInt x1_96 by omega)⟩) (show (7 - Int32.toInt (x4_99 + 1)).toNat < (7 - Int32.toInt x4_99).toNat by omega)
                  · unfold zX3_measure_s32_185
                    try have t_177 : Int32.toInt (x4_99 + 1) = Int32.toInt x4_99 + 1 := ti_add rfl (by decide) (by omega) (by omega)
                    exact hk_93 (q_95, x1_96, x2_30, v_91, (x4_99 + 1)) (show (TC q_95) ∧ (cFr [42, 44] [] q_28 q_95) ∧ (x2_30 = x2_30) ∧ (v_91 = v_91) ∧ (1 ≤ Int32.toInt (x4_99 + 1)) ∧ (Int32.toInt (x4_99 + 1) ≤ 7) ∧ (Int32.toInt x2_30 < Int32.toInt x1_96) ∧ (Int32.toInt x1_96 ≤ Int32.toInt (q_28.1 32 14)) ∧ (BL q_95 (Int32.toInt x1_96)) from ⟨a_100, ((cFr.rf : cFr [42, 44] [] q_28 q_28).t a_101 (by decide) (by decide)), rfl, rfl, by omega, by omega, by omega, by omega, bl_c (n := Int32.toInt x1_96) a_108 (show Int32.toInt x1_96 ≤ Int32.toInt x1_96 by omega)⟩) (show (7 - Int32.toInt (x4_99 + 1)).toNat < (7 - Int32.toInt x4_99).toNat by omega)
              · exact (show (TC q_28) ∧ (cFr [42, 44] [] q_28 q_28) ∧ (x2_30 = x2_30) ∧ (v_91 = v_91) ∧ (1 ≤ (1 : Int)) ∧ ((1 : Int) ≤ 7) ∧ (Int32.toInt x2_30 < Int32.toInt x1_29) ∧ (Int32.toInt x1_29 ≤ Int32.toInt (q_28.1 32 14)) ∧ (BL q_28 (Int32.toInt x1_29)) from ⟨a_31, cFr.rf, rfl, rfl, by omega, by omega, by omega, by omega, bl_c (n := Int32.toInt x1_29) a_36 (show Int32.toInt x1_29 ≤ Int32.toInt x1_29 by omega)⟩)
              · show (7 - (1 : Int)).toNat < 1000000000000
                omega
        · exact (show (TC q_8) ∧ (cFr [42, 44] [] q_8 q_8) ∧ (0 ≤ (0 : Int)) ∧ ((0 : Int) ≤ Int32.toInt x1_9) ∧ (Int32.toInt x1_9 ≤ Int32.toInt (q_8.1 32 14)) ∧ (BL q_8 (Int32.toInt x1_9)) from ⟨a_11, cFr.rf, by omega, by omega, by omega, bl_c (n := Int32.toInt x1_9) a_16 (show Int32.toInt x1_9 ≤ Int32.toInt x1_9 by omega)⟩)
        · show (Int32.toInt (q_8.1 32 14) - (0 : Int)).toNat < 1000000000000
          omega
      · refine dOk_B (ok_X3_isOrdered_s32 q_8 x2_10 a_11) (fun r_178 q_179 h_180 => ?_)
        replace h_180 : (q_179 = q_8) ∧ ((Int32.toInt r_178 = 0 ∨ Int32.toInt r_178 = 1)) := h_180
        obtain ⟨i_181, i_182⟩ := h_180
        subst q_179
        refine dOk_eq (A := Int32.toInt r_178) (B := 0) rfl (by decide) (fun c_183z c_183 => ?_) (fun c_184z c_184 => ?_)
        · unfold zX3_measure_s32_81
          unfold zX3_measure_s32_83
          refine dFix_ok (fun (a : dK × Int32 × Int32) => (TC a.1) ∧ (cFr [42, 44] [] q_8 a.1) ∧ (0 ≤ Int32.toInt a.2.2) ∧ (Int32.toInt a.2.2 ≤ Int32.toInt a.2.1) ∧ (Int32.toInt a.2.1 ≤ Int32.toInt (q_8.1 32 14)) ∧ (BL a.1 (Int32.toInt a.2.1))) (fun (a : dK × Int32 × Int32) => (Int32.toInt (q_8.1 32 14) - Int32.toInt a.2.2).toNat) ?_ _ ?_ _ (dF_gt ?_)
          · intro a ha k_187 hk_186
            obtain ⟨q_188, x1_189, x2_190⟩ := a
            replace ha : (TC q_188) ∧ (cFr [42, 44] [] q_8 q_188) ∧ (0 ≤ Int32.toInt x2_190) ∧ (Int32.toInt x2_190 ≤ Int32.toInt x1_189) ∧ (Int32.toInt x1_189 ≤ Int32.toInt (q_8.1 32 14)) ∧ (BL q_188 (Int32.toInt x1_189)) := ha
            obtain ⟨a_191, a_192, a_193, a_194, a_195, a_196⟩ := ha
            show dOk (zX3_measure_s32_83b  (fun q x1 x2 => k_187 (q, x1, x2)) q_188 x1_189 x2_190) _
            unfold zX3_measure_s32_83b
            have hFq_188 : cFr [37, 42, 44] [(32, 17), (32, 18)] q q_188 := hFq_8.t a_192 (by decide) (by decide)
            have f_197 : 0 ≤ Int32.toInt (q_188.1 32 14) ∧ Int32.toInt (q_188.1 32 14) ≤ 46080 := rg_32_14 a_191
            have w_198 : Int32.toInt (q_188.1 32 14) = Int32.toInt (q_8.1 32 14) := by rw [a_192.1 32 14 (by decide) (by decide)]
            refine dOk_le (A := Int32.toInt (q_188.1 32 14)) (B := Int32.toInt x2_190) rfl rfl (fun c_199 => ?_) (fun c_200 => ?_)
            · unfold zX3_measure_s32_197
              refine dOk_L (fun q_201 eq_201 => ?_)
              have f_202 : 0 ≤ Int32.toInt (q_188.1 32 13) ∧ Int32.toInt (q_188.1 32 13) ≤ 6 := rg_32_13 a_191
              have f_203 : 0 ≤ Int32.toInt (q_8.1 32 13) ∧ Int32.toInt (q_8.1 32 13) ≤ 6 := rg_32_13 a_11
              have f_204 : 0 ≤ Int32.toInt (q_5.1 32 13) ∧ Int32.toInt (q_5.1 32 13) ≤ 6 := rg_32_13 hTq_5
              have f_205 : 0 ≤ Int32.toInt (q_1.1 32 13) ∧ Int32.toInt (q_1.1 32 13) ≤ 6 := rg_32_13 hT_3
              have f_206 : 0 ≤ Int32.toInt (q.1 32 13) ∧ Int32.toInt (q.1 32 13) ≤ 6 := rg_32_13 hT
              have w_207 : Int32.toInt (q_1.1 32 13) = Int32.toInt (q.1 32 13) := by rw [hF_4.1 32 13 (by decide) (by decide)]
              have w_208 : Int32.toInt (q_5.1 32 13) = Int32.toInt (q_1.1 32 13) := by rw [eq_5]; rfl
              have w_209 : Int32.toInt (q_8.1 32 13) = Int32.toInt (q_5.1 32 13) := by rw [a_12.1 32 13 (by decide) (by decide)]
              have w_210 : Int32.toInt (q_188.1 32 13) = Int32.toInt (q_8.1 32 13) := by rw [a_192.1 32 13 (by decide) (by decide)]
              have hTq_201 : TC q_201 := by rw [eq_201]; exact sa_32_17 a_191
              have hFq_201 : cFr [37, 42, 44] [(32, 17), (32, 18)] q q_201 := by rw [eq_201]; exact hFq_188.f (by decide)
              have hB_211 : BL q_201 (Int32.toInt x1_189) := by rw [eq_201]; exact bl_o a_196 rfl
              refine dOk_L (fun q_212 eq_212 => ?_)
              have w_213 : Int32.toInt (q_1.1 32 16) = Int32.toInt (q.1 32 16) := by rw [hF_4.1 32 16 (by decide) (by decide)]
              have w_214 : Int32.toInt (q_5.1 32 16) = Int32.toInt (q_1.1 32 16) := by rw [eq_5]; rfl
              have w_215 : Int32.toInt (q_8.1 32 16) = Int32.toInt (q_5.1 32 16) := by rw [a_12.1 32 16 (by decide) (by decide)]
              have w_216 : Int32.toInt (q_188.1 32 16) = Int32.toInt (q_8.1 32 16) := by rw [a_192.1 32 16 (by decide) (by decide)]
              have w_217 : Int32.toInt (q_201.1 32 16) = Int32.toInt (q_188.1 32 16) := by rw [eq_201, cui_n (by decide)]
              have hTq_212 : TC q_212 := by rw [eq_212]; exact sa_32_18 hTq_201
              have hFq_212 : cFr [37, 42, 44] [(32, 17), (32, 18)] q q_212 := by rw [eq_212]; exact hFq_201.f (by decide)
              have hB_218 : BL q_212 (Int32.toInt x1_189) := by rw [eq_212]; exact bl_o hB_211 rfl
              refine dOk_L (fun q_219 eq_219 => ?_)
              have hTq_219 : TC q_219 := by rw [eq_219]; exact tc_cci hTq_212 (by decide)
              have hFq_219 : cFr [37, 42, 44] [(32, 17), (32, 18)] q q_219 := by rw [eq_219]; exact hFq_212.c (by decide)
              exact dOk_some (show (TC q_219) ∧ (cFr [37, 42, 44] [(32, 17), (32, 18)] q q_219) from ⟨hTq_219, hFq_219⟩)
            · refine dOk_le (A := Int32.toInt x1_189) (B := Int32.toInt x2_190) rfl rfl (fun c_220 => ?_) (fun c_221 => ?_)
              · unfold zX3_measure_s32_197
                refine dOk_L (fun q_222 eq_222 => ?_)
                have f_223 : 0 ≤ Int32.toInt (q_188.1 32 13) ∧ Int32.toInt (q_188.1 32 13) ≤ 6 := rg_32_13 a_191
                have f_224 : 0 ≤ Int32.toInt (q_8.1 32 13) ∧ Int32.toInt (q_8.1 32 13) ≤ 6 := rg_32_13 a_11
                have f_225 : 0 ≤ Int32.toInt (q_5.1 32 13) ∧ Int32.toInt (q_5.1 32 13) ≤ 6 := rg_32_13 hTq_5
                have f_226 : 0 ≤ Int32.toInt (q_1.1 32 13) ∧ Int32.toInt (q_1.1 32 13) ≤ 6 := rg_32_13 hT_3
                have f_227 : 0 ≤ Int32.toInt (q.1 32 13) ∧ Int32.toInt (q.1 32 13) ≤ 6 := rg_32_13 hT
                have w_228 : Int32.toInt (q_1.1 32 13) = Int32.toInt (q.1 32 13) := by rw [hF_4.1 32 13 (by decide) (by decide)]
                have w_229 : Int32.toInt (q_5.1 32 13) = Int32.toInt (q_1.1 32 13) := by rw [eq_5]; rfl
                have w_230 : Int32.toInt (q_8.1 32 13) = Int32.toInt (q_5.1 32 13) := by rw [a_12.1 32 13 (by decide) (by decide)]
                have w_231 : Int32.toInt (q_188.1 32 13) = Int32.toInt (q_8.1 32 13) := by rw [a_192.1 32 13 (by decide) (by decide)]
                have hTq_222 : TC q_222 := by rw [eq_222]; exact sa_32_17 a_191
                have hFq_222 : cFr [37, 42, 44] [(32, 17), (32, 18)] q q_222 := by rw [eq_222]; exact hFq_188.f (by decide)
                have hB_232 : BL q_222 (Int32.toInt x1_189) := by rw [eq_222]; exact bl_o a_196 rfl
                refine dOk_L (fun q_233 eq_233 => ?_)
                have w_234 : Int32.toInt (q_1.1 32 16) = Int32.toInt (q.1 32 16) := by rw [hF_4.1 32 16 (by decide) (by decide)]
                have w_235 : Int32.toInt (q_5.1 32 16) = Int32.toInt (q_1.1 32 16) := by rw [eq_5]; rfl
                have w_236 : Int32.toInt (q_8.1 32 16) = Int32.toInt (q_5.1 32 16) := by rw [a_12.1 32 16 (by decide) (by decide)]
                have w_237 : Int32.toInt (q_188.1 32 16) = Int32.toInt (q_8.1 32 16) := by rw [a_192.1 32 16 (by decide) (by decide)]
                have w_238 : Int32.toInt (q_222.1 32 16) = Int32.toInt (q_188.1 32 16) := by rw [eq_222, cui_n (by decide)]
                have hTq_233 : TC q_233 := by rw [eq_233]; exact sa_32_18 hTq_222
                have hFq_233 : cFr [37, 42, 44] [(32, 17), (32, 18)] q q_233 := by rw [eq_233]; exact hFq_222.f (by decide)
                have hB_239 : BL q_233 (Int32.toInt x1_189) := by rw [eq_233]; exact bl_o hB_232 rfl
                refine dOk_L (fun q_240 eq_240 => ?_)
                have hTq_240 : TC q_240 := by rw [eq_240]; exact tc_cci hTq_233 (by decide)
                have hFq_240 : cFr [37, 42, 44] [(32, 17), (32, 18)] q q_240 := by rw [eq_240]; exact hFq_233.c (by decide)
                exact dOk_some (show (TC q_240) ∧ (cFr [37, 42, 44] [(32, 17), (32, 18)] q q_240) from ⟨hTq_240, hFq_240⟩)
              · have f_241 : 0 ≤ Int32.toInt (q_188.1 32 105) ∧ Int32.toInt (q_188.1 32 105) ≤ 46080 := rg_32_105 a_191
                have f_242 : 0 ≤ Int32.toInt (q_8.1 32 105) ∧ Int32.toInt (q_8.1 32 105) ≤ 46080 := rg_32_105 a_11
                have f_243 : 0 ≤ Int32.toInt (q_5.1 32 105) ∧ Int32.toInt (q_5.1 32 105) ≤ 46080 := rg_32_105 hTq_5
                have f_244 : 0 ≤ Int32.toInt (q_1.1 32 105) ∧ Int32.toInt (q_1.1 32 105) ≤ 46080 := rg_32_105 hT_3
                have f_245 : 0 ≤ Int32.toInt (q.1 32 105) ∧ Int32.toInt (q.1 32 105) ≤ 46080 := rg_32_105 hT
                have w_246 : Int32.toInt (q_1.1 32 105) = Int32.toInt (q.1 32 105) := by rw [hF_4.1 32 105 (by decide) (by decide)]
                have w_247 : Int32.toInt (q_5.1 32 105) = Int32.toInt (q_1.1 32 105) := by rw [eq_5]; rfl
                have w_248 : Int32.toInt (q_8.1 32 105) = Int32.toInt (q_5.1 32 105) := by rw [a_12.1 32 105 (by decide) (by decide)]
                have w_249 : Int32.toInt (q_188.1 32 105) = Int32.toInt (q_8.1 32 105) := by rw [a_192.1 32 105 (by decide) (by decide)]
                refine dOk_G (dg_ok (show 0 ≤ Int32.toInt x2_190 by omega) (show Int32.toInt x2_190 < ((Int32.toNatClampNeg (q_188.1 32 105) : Nat) : Int) by rw [cl_eq (show 0 ≤ Int32.toInt (q_188.1 32 105) by omega)]; omega)) ?_
                have n_250 : ((Int32.toNatClampNeg x2_190 : Nat) : Int) = Int32.toInt x2_190 := cl_eq (by omega)
                refine dOk_L (fun v_251 ev_251 => ?_)
                have f_252 : 0 ≤ Int32.toInt v_251 ∧ Int32.toInt v_251 < Int32.toInt (q_188.1 32 14) := by rw [ev_251]; exact a_196 _ (show ((Int32.toNatClampNeg x2_190 : Nat) : Int) < Int32.toInt x1_189 by omega)
                unfold zX3_measure_s32_106
                refine dFix_ok (fun (a : dK × Int32 × Int32 × Int32 × Int32) => (TC a.1) ∧ (cFr [42, 44] [] q_188 a.1) ∧ (a.2.2.1 = x2_190) ∧ (a.2.2.2.1 = v_251) ∧ (1 ≤ Int32.toInt a.2.2.2.2) ∧ (Int32.toInt a.2.2.2.2 ≤ 7) ∧ (Int32.toInt a.2.2.1 < Int32.toInt a.2.1) ∧ (Int32.toInt a.2.1 ≤ Int32.toInt (q_188.1 32 14)) ∧ (BL a.1 (Int32.toInt a.2.1))) (fun (a : dK × Int32 × Int32 × Int32 × Int32) => (7 - Int32.toInt a.2.2.2.2).toNat) ?_ _ ?_ _ (dF_gt ?_)
                · intro a ha k_254 hk_253
                  obtain ⟨q_255, x1_256, x2_257, x3_258, x4_259⟩ := a
                  replace ha : (TC q_255) ∧ (cFr [42, 44] [] q_188 q_255) ∧ (x2_257 = x2_190) ∧ (x3_258 = v_251) ∧ (1 ≤ Int32.toInt x4_259) ∧ (Int32.toInt x4_259 ≤ 7) ∧ (Int32.toInt x2_257 < Int32.toInt x1_256) ∧ (Int32.toInt x1_256 ≤ Int32.toInt (q_188.1 32 14)) ∧ (BL q_255 (Int32.toInt x1_256)) := ha
                  obtain ⟨a_260, a_261, a_262, a_263, a_264, a_265, a_266, a_267, a_268⟩ := ha
                  show dOk (zX3_measure_s32_106b _ (fun q x1 x2 x3 x4 => k_254 (q, x1, x2, x3, x4)) q_255 x1_256 x2_257 x3_258 x4_259) _
                  unfold zX3_measure_s32_106b
                  have hFq_255 : cFr [37, 42, 44] [(32, 17), (32, 18)] q q_255 := hFq_188.t a_261 (by decide) (by decide)
                  subst x2_257
                  subst x3_258
                  have f_269 : 0 ≤ Int32.toInt (q_255.1 32 13) ∧ Int32.toInt (q_255.1 32 13) ≤ 6 := rg_32_13 a_260
                  have f_270 : 0 ≤ Int32.toInt (q_188.1 32 13) ∧ Int32.toInt (q_188.1 32 13) ≤ 6 := rg_32_13 a_191
                  have f_271 : 0 ≤ Int32.toInt (q_8.1 32 13) ∧ Int32.toInt (q_8.1 32 13) ≤ 6 := rg_32_13 a_11
                  have f_272 : 0 ≤ Int32.toInt (q_5.1 32 13) ∧ Int32.toInt (q_5.1 32 13) ≤ 6 := rg_32_13 hTq_5
                  have f_273 : 0 ≤ Int32.toInt (q_1.1 32 13) ∧ Int32.toInt (q_1.1 32 13) ≤ 6 := rg_32_13 hT_3
                  have f_274 : 0 ≤ Int32.toInt (q.1 32 13) ∧ Int32.toInt (q.1 32 13) ≤ 6 := rg_32_13 hT
                  have w_275 : Int32.toInt (q_1.1 32 13) = Int32.toInt (q.1 32 13) := by rw [hF_4.1 32 13 (by decide) (by decide)]
                  have w_276 : Int32.toInt (q_5.1 32 13) = Int32.toInt (q_1.1 32 13) := by rw [eq_5]; rfl
                  have w_277 : Int32.toInt (q_8.1 32 13) = Int32.toInt (q_5.1 32 13) := by rw [a_12.1 32 13 (by decide) (by decide)]
                  have w_278 : Int32.toInt (q_188.1 32 13) = Int32.toInt (q_8.1 32 13) := by rw [a_192.1 32 13 (by decide) (by decide)]
                  have w_279 : Int32.toInt (q_255.1 32 13) = Int32.toInt (q_188.1 32 13) := by rw [a_261.1 32 13 (by decide) (by decide)]
                  refine dOk_lt (A := Int32.toInt (q_255.1 32 13)) (B := Int32.toInt x4_259) rfl rfl (fun c_280 => ?_) (fun c_281 => ?_)
                  · try have t_282 : Int32.toInt (x2_190 + 1) = Int32.toInt x2_190 + 1 := ti_add rfl (by decide) (by omega) (by omega)
                    exact hk_186 (q_255, x1_256, (x2_190 + 1)) (show (TC q_255) ∧ (cFr [42, 44] [] q_8 q_255) ∧ (0 ≤ Int32.toInt (x2_190 + 1)) ∧ (Int32.toInt (x2_190 + 1) ≤ Int32.toInt x1_256) ∧ (Int32.toInt x1_256 ≤ Int32.toInt (q_8.1 32 14)) ∧ (BL q_255 (Int32.toInt x1_256)) from ⟨a_260, ((((cFr.rf : cFr [42, 44] [] q_8 q_8).t a_192 (by decide) (by decide)) : cFr [42, 44] [] q_8 q_188).t a_261 (by decide) (by decide)), by omega, by omega, by omega, bl_c (n := Int32.toInt x1_256) a_268 (show Int32.toInt x1_256 ≤ Int32.toInt x1_256 by omega)⟩) (show (Int32.toInt (q_8.1 32 14) - Int32.toInt (x2_190 + 1)).toNat < (Int32.toInt (q_8.1 32 14) - Int32.toInt x2_190).toNat by omega)
                  · have f_283 : 0 ≤ Int32.toInt (q_255.1 32 14) ∧ Int32.toInt (q_255.1 32 14) ≤ 46080 := rg_32_14 a_260
                    have w_284 : Int32.toInt (q_255.1 32 14) = Int32.toInt (q_188.1 32 14) := by rw [a_261.1 32 14 (by decide) (by decide)]
                    refine dOk_B (ok_X3_turned_s32 q_255 v_251 x4_259 a_260 (ld_fr hp0 hFq_255 rfl) (show 0 ≤ Int32.toInt v_251 by omega) (show Int32.toInt v_251 < Int32.toInt (q_255.1 32 14) by omega)) (fun r_285 q_286 h_287 => ?_)
                    replace h_287 : (q_286 = q_255) ∧ (0 ≤ Int32.toInt r_285) ∧ (Int32.toInt r_285 < Int32.toInt (q_255.1 32 14)) := h_287
                    obtain ⟨i_288, i_289, i_290⟩ := h_287
                    subst q_286
                    have f_291 : 0 ≤ Int32.toInt (q_255.1 32 103) ∧ Int32.toInt (q_255.1 32 103) ≤ 46080 := rg_32_103 a_260
                    have f_292 : 0 ≤ Int32.toInt (q_188.1 32 103) ∧ Int32.toInt (q_188.1 32 103) ≤ 46080 := rg_32_103 a_191
                    have f_293 : 0 ≤ Int32.toInt (q_8.1 32 103) ∧ Int32.toInt (q_8.1 32 103) ≤ 46080 := rg_32_103 a_11
                    have f_294 : 0 ≤ Int32.toInt (q_5.1 32 103) ∧ Int32.toInt (q_5.1 32 103) ≤ 46080 := rg_32_103 hTq_5
                    have f_295 : 0 ≤ Int32.toInt (q_1.1 32 103) ∧ Int32.toInt (q_1.1 32 103) ≤ 46080 := rg_32_103 hT_3
                    have f_296 : 0 ≤ Int32.toInt (q.1 32 103) ∧ Int32.toInt (q.1 32 103) ≤ 46080 := rg_32_103 hT
                    have w_297 : Int32.toInt (q_1.1 32 103) = Int32.toInt (q.1 32 103) := by rw [hF_4.1 32 103 (by decide) (by decide)]
                    have w_298 : Int32.toInt (q_5.1 32 103) = Int32.toInt (q_1.1 32 103) := by rw [eq_5]; rfl
                    have w_299 : Int32.toInt (q_8.1 32 103) = Int32.toInt (q_5.1 32 103) := by rw [a_12.1 32 103 (by decide) (by decide)]
                    have w_300 : Int32.toInt (q_188.1 32 103) = Int32.toInt (q_8.1 32 103) := by rw [a_192.1 32 103 (by decide) (by decide)]
                    have w_301 : Int32.toInt (q_255.1 32 103) = Int32.toInt (q_188.1 32 103) := by rw [a_261.1 32 103 (by decide) (by decide)]
                    refine dOk_G (dg_ok (show 0 ≤ Int32.toInt r_285 by omega) (show Int32.toInt r_285 < ((Int32.toNatClampNeg (q_255.1 32 103) : Nat) : Int) by rw [cl_eq (show 0 ≤ Int32.toInt (q_255.1 32 103) by omega)]; omega)) ?_
                    have n_302 : ((Int32.toNatClampNeg r_285 : Nat) : Int) = Int32.toInt r_285 := cl_eq (by omega)
                    refine dOk_L (fun v_303 ev_303 => ?_)
                    refine dOk_eq (A := Int32.toInt v_303) (B := (-1)) rfl (by decide) (fun c_304z c_304 => ?_) (fun c_305z c_305 => ?_)
                    · refine dOk_B (ok_X3_caseOf_s32 q_255 r_285 x4_259 a_260 (ld_fr hp0 hFq_255 rfl) (show 0 ≤ Int32.toInt r_285 by omega) (show Int32.toInt r_285 < Int32.toInt (q_255.1 32 14) by omega) (show 1 ≤ Int32.toInt x4_259 by omega) (show Int32.toInt x4_259 ≤ Int32.toInt (q_255.1 32 13) by omega)) (fun r_307 q_308 h_309 => ?_)
                      replace h_309 : (q_308 = q_255) ∧ (0 ≤ Int32.toInt r_307) ∧ (Int32.toInt r_307 < 504) := h_309
                      obtain ⟨i_310, i_311, i_312⟩ := h_309
                      subst q_308
                      refine dOk_G (dg_ok (show 0 ≤ Int32.toInt r_307 by omega) (show Int32.toInt r_307 < ((504 : Nat) : Int) by omega)) ?_
                      have n_313 : ((Int32.toNatClampNeg r_307 : Nat) : Int) = Int32.toInt r_307 := cl_eq (by omega)
                      refine dOk_L (fun v_314 ev_314 => ?_)
                      refine dOk_eq (A := Int32.toInt v_314) (B := 0) rfl (by decide) (fun c_315z c_315 => ?_) (fun c_316z c_316 => ?_)
                      · refine dOk_le (A := Int32.toInt (q_255.1 32 14)) (B := Int32.toInt x1_256) rfl rfl (fun c_318 => ?_) (fun c_319 => ?_)
                        · unfold zX3_measure_s32_185
                          try have t_320 : Int32.toInt (x4_259 + 1) = Int32.toInt x4_259 + 1 := ti_add rfl (by decide) (by omega) (by omega)
                          exact hk_253 (q_255, x1_256, x2_190, v_251, (x4_259 + 1)) (show (TC q_255) ∧ (cFr [42, 44] [] q_188 q_255) ∧ (x2_190 = x2_190) ∧ (v_251 = v_251) ∧ (1 ≤ Int32.toInt (x4_259 + 1)) ∧ (Int32.toInt (x4_259 + 1) ≤ 7) ∧ (Int32.toInt x2_190 < Int32.toInt x1_256) ∧ (Int32.toInt x1_256 ≤ Int32.toInt (q_188.1 32 14)) ∧ (BL q_255 (Int32.toInt x1_256)) from ⟨a_260, ((cFr.rf : cFr [42, 44] [] q_188 q_188).t a_261 (by decide) (by decide)), rfl, rfl, by omega, by omega, by omega, by omega, bl_c (n := Int32.toInt x1_256) a_268 (show Int32.toInt x1_256 ≤ Int32.toInt x1_256 by omega)⟩) (show (7 - Int32.toInt (x4_259 + 1)).toNat < (7 - Int32.toInt x4_259).toNat by omega)
                        · refine dOk_G (dg_ok (show 0 ≤ Int32.toInt v_251 by omega) (show Int32.toInt v_251 < ((Int32.toNatClampNeg (q_255.1 32 103) : Nat) : Int) by rw [cl_eq (show 0 ≤ Int32.toInt (q_255.1 32 103) by omega)]; omega)) ?_
                          have n_321 : ((Int32.toNatClampNeg v_251 : Nat) : Int) = Int32.toInt v_251 := cl_eq (by omega)
                          refine dOk_L (fun v_322 ev_322 => ?_)
                          refine dOk_G (dg_ok (show 0 ≤ Int32.toInt r_285 by omega) (show Int32.toInt r_285 < ((Int32.toNatClampNeg (q_255.1 32 103) : Nat) : Int) by rw [cl_eq (show 0 ≤ Int32.toInt (q_255.1 32 103) by omega)]; omega)) ?_
                          refine dOk_L (fun q_323 eq_323 => ?_)
                          have hTq_323 : TC q_323 := by rw [eq_323]; exact sa_42 a_260
                          have hFq_323 : cFr [37, 42, 44] [(32, 17), (32, 18)] q q_323 := by rw [eq_323]; exact hFq_255.i (by decide)
                          have hB_324 : BL q_323 (Int32.toInt x1_256) := by rw [eq_323]; exact bl_o a_268 rfl
                          have f_325 : 0 ≤ Int32.toInt (q_323.1 32 105) ∧ Int32.toInt (q_323.1 32 105) ≤ 46080 := rg_32_105 hTq_323
                          have f_326 : 0 ≤ Int32.toInt (q_255.1 32 105) ∧ Int32.toInt (q_255.1 32 105) ≤ 46080 := rg_32_105 a_260
                          have w_327 : Int32.toInt (q_255.1 32 105) = Int32.toInt (q_188.1 32 105) := by rw [a_261.1 32 105 (by decide) (by decide)]
                          try have w_328 : Int32.toInt (q_323.1 32 105) = Int32.toInt (q_255.1 32 105) := by rw [eq_323, cui_o (by decide)]
                          refine dOk_G (dg_ok (show 0 ≤ Int32.toInt x1_256 by omega) (show Int32.toInt x1_256 < ((Int32.toNatClampNeg (q_323.1 32 105) : Nat) : Int) by rw [cl_eq (show 0 ≤ Int32.toInt (q_323.1 32 105) by omega)]; omega)) ?_
                          have n_329 : ((Int32.toNatClampNeg x1_256 : Nat) : Int) = Int32.toInt x1_256 := cl_eq (by omega)
                          refine dOk_L (fun q_330 eq_330 => ?_)
                          have hTq_330 : TC q_330 := by rw [eq_330]; exact sa_44 hTq_323
                          have hFq_330 : cFr [37, 42, 44] [(32, 17), (32, 18)] q q_330 := by rw [eq_330]; exact hFq_323.i (by decide)
                          have f_331 : 0 ≤ Int32.toInt (q_323.1 32 14) ∧ Int32.toInt (q_323.1 32 14) ≤ 46080 := rg_32_14 hTq_323
                          try have w_332 : Int32.toInt (q_323.1 32 14) = Int32.toInt (q_255.1 32 14) := by rw [eq_323, cui_o (by decide)]
                          have hB_333 : BL q_330 (Int32.toInt x1_256 + 1) := by rw [eq_330]; exact bl_p (n := Int32.toInt x1_256) hB_324 (show ((Int32.toNatClampNeg x1_256 : Nat) : Int) = Int32.toInt x1_256 by omega) (show 0 ≤ Int32.toInt r_285 by omega) (show Int32.toInt r_285 < Int32.toInt (q_323.1 32 14) by omega)
                          unfold zX3_measure_s32_185
                          try have t_334 : Int32.toInt (x1_256 + 1) = Int32.toInt x1_256 + 1 := ti_add rfl (by decide) (by omega) (by omega)
                          try have t_335 : Int32.toInt (x4_259 + 1) = Int32.toInt x4_259 + 1 := ti_add rfl (by decide) (by omega) (by omega)
                          exact hk_253 (q_330, (x1_256 + 1), x2_190, v_251, (x4_259 + 1)) (show (TC q_330) ∧ (cFr [42, 44] [] q_188 q_330) ∧ (x2_190 = x2_190) ∧ (v_251 = v_251) ∧ (1 ≤ Int32.toInt (x4_259 + 1)) ∧ (Int32.toInt (x4_259 + 1) ≤ 7) ∧ (Int32.toInt x2_190 < Int32.toInt (x1_256 + 1)) ∧ (Int32.toInt (x1_256 + 1) ≤ Int32.toInt (q_188.1 32 14)) ∧ (BL q_330 (Int32.toInt (x1_256 + 1))) from ⟨hTq_330, (by rw [eq_330]; exact ((by rw [eq_323]; exact (((cFr.rf : cFr [42, 44] [] q_188 q_188).t a_261 (by decide) (by decide)) : cFr [42, 44] [] q_188 q_255).i (by decide)) : cFr [42, 44] [] q_188 q_323).i (by decide)), rfl, rfl, by omega, by omega, by omega, by omega, bl_c (n := Int32.toInt x1_256 + 1) hB_333 (show Int32.toInt (x1_256 + 1) ≤ Int32.toInt x1_256 + 1 by omega)⟩) (show (7 - Int32.toInt (x4_259 + 1)).toNat < (7 - Int32.toInt x4_259).toNat by omega)
                      · unfold zX3_measure_s32_185
                        try have t_336 : Int32.toInt (x4_259 + 1) = Int32.toInt x4_259 + 1 := ti_add rfl (by decide) (by omega) (by omega)
                        exact hk_253 (q_255, x1_256, x2_190, v_251, (x4_259 + 1)) (show (TC q_255) ∧ (cFr [42, 44] [] q_188 q_255) ∧ (x2_190 = x2_190) ∧ (v_251 = v_251) ∧ (1 ≤ Int32.toInt (x4_259 + 1)) ∧ (Int32.toInt (x4_259 + 1) ≤ 7) ∧ (Int32.toInt x2_190 < Int32.toInt x1_256) ∧ (Int32.toInt x1_256 ≤ Int32.toInt (q_188.1 32 14)) ∧ (BL q_255 (Int32.toInt x1_256)) from ⟨a_260, ((cFr.rf : cFr [42, 44] [] q_188 q_188).t a_261 (by decide) (by decide)), rfl, rfl, by omega, by omega, by omega, by omega, bl_c (n := Int32.toInt x1_256) a_268 (show Int32.toInt x1_256 ≤ Int32.toInt x1_256 by omega)⟩) (show (7 - Int32.toInt (x4_259 + 1)).toNat < (7 - Int32.toInt x4_259).toNat by omega)
                    · unfold zX3_measure_s32_185
                      try have t_337 : Int32.toInt (x4_259 + 1) = Int32.toInt x4_259 + 1 := ti_add rfl (by decide) (by omega) (by omega)
                      exact hk_253 (q_255, x1_256, x2_190, v_251, (x4_259 + 1)) (show (TC q_255) ∧ (cFr [42, 44] [] q_188 q_255) ∧ (x2_190 = x2_190) ∧ (v_251 = v_251) ∧ (1 ≤ Int32.toInt (x4_259 + 1)) ∧ (Int32.toInt (x4_259 + 1) ≤ 7) ∧ (Int32.toInt x2_190 < Int32.toInt x1_256) ∧ (Int32.toInt x1_256 ≤ Int32.toInt (q_188.1 32 14)) ∧ (BL q_255 (Int32.toInt x1_256)) from ⟨a_260, ((cFr.rf : cFr [42, 44] [] q_188 q_188).t a_261 (by decide) (by decide)), rfl, rfl, by omega, by omega, by omega, by omega, bl_c (n := Int32.toInt x1_256) a_268 (show Int32.toInt x1_256 ≤ Int32.toInt x1_256 by omega)⟩) (show (7 - Int32.toInt (x4_259 + 1)).toNat < (7 - Int32.toInt x4_259).toNat by omega)
                · exact (show (TC q_188) ∧ (cFr [42, 44] [] q_188 q_188) ∧ (x2_190 = x2_190) ∧ (v_251 = v_251) ∧ (1 ≤ (1 : Int)) ∧ ((1 : Int) ≤ 7) ∧ (Int32.toInt x2_190 < Int32.toInt x1_189) ∧ (Int32.toInt x1_189 ≤ Int32.toInt (q_188.1 32 14)) ∧ (BL q_188 (Int32.toInt x1_189)) from ⟨a_191, cFr.rf, rfl, rfl, by omega, by omega, by omega, by omega, bl_c (n := Int32.toInt x1_189) a_196 (show Int32.toInt x1_189 ≤ Int32.toInt x1_189 by omega)⟩)
                · show (7 - (1 : Int)).toNat < 1000000000000
                  omega
          · exact (show (TC q_8) ∧ (cFr [42, 44] [] q_8 q_8) ∧ (0 ≤ (0 : Int)) ∧ ((0 : Int) ≤ Int32.toInt x1_9) ∧ (Int32.toInt x1_9 ≤ Int32.toInt (q_8.1 32 14)) ∧ (BL q_8 (Int32.toInt x1_9)) from ⟨a_11, cFr.rf, by omega, by omega, by omega, bl_c (n := Int32.toInt x1_9) a_16 (show Int32.toInt x1_9 ≤ Int32.toInt x1_9 by omega)⟩)
          · show (Int32.toInt (q_8.1 32 14) - (0 : Int)).toNat < 1000000000000
            omega
        · have f_338 : 0 ≤ Int32.toInt (q_8.1 32 103) ∧ Int32.toInt (q_8.1 32 103) ≤ 46080 := rg_32_103 a_11
          have f_339 : 0 ≤ Int32.toInt (q_5.1 32 103) ∧ Int32.toInt (q_5.1 32 103) ≤ 46080 := rg_32_103 hTq_5
          have f_340 : 0 ≤ Int32.toInt (q_1.1 32 103) ∧ Int32.toInt (q_1.1 32 103) ≤ 46080 := rg_32_103 hT_3
          have f_341 : 0 ≤ Int32.toInt (q.1 32 103) ∧ Int32.toInt (q.1 32 103) ≤ 46080 := rg_32_103 hT
          have w_342 : Int32.toInt (q_1.1 32 103) = Int32.toInt (q.1 32 103) := by rw [hF_4.1 32 103 (by decide) (by decide)]
          have w_343 : Int32.toInt (q_5.1 32 103) = Int32.toInt (q_1.1 32 103) := by rw [eq_5]; rfl
          have w_344 : Int32.toInt (q_8.1 32 103) = Int32.toInt (q_5.1 32 103) := by rw [a_12.1 32 103 (by decide) (by decide)]
          refine dOk_G (dg_ok (show 0 ≤ Int32.toInt x2_10 by omega) (show Int32.toInt x2_10 < ((Int32.toNatClampNeg (q_8.1 32 103) : Nat) : Int) by rw [cl_eq (show 0 ≤ Int32.toInt (q_8.1 32 103) by omega)]; omega)) ?_
          have n_345 : ((Int32.toNatClampNeg x2_10 : Nat) : Int) = Int32.toInt x2_10 := cl_eq (by omega)
          refine dOk_L (fun q_346 eq_346 => ?_)
          have hTq_346 : TC q_346 := by rw [eq_346]; exact sa_42 a_11
          have hFq_346 : cFr [37, 42, 44] [(32, 17), (32, 18)] q q_346 := by rw [eq_346]; exact hFq_8.i (by decide)
          have hB_347 : BL q_346 (Int32.toInt x1_9) := by rw [eq_346]; exact bl_o a_16 rfl
          have f_348 : 0 ≤ Int32.toInt (q_346.1 32 105) ∧ Int32.toInt (q_346.1 32 105) ≤ 46080 := rg_32_105 hTq_346
          have f_349 : 0 ≤ Int32.toInt (q_8.1 32 105) ∧ Int32.toInt (q_8.1 32 105) ≤ 46080 := rg_32_105 a_11
          have f_350 : 0 ≤ Int32.toInt (q_5.1 32 105) ∧ Int32.toInt (q_5.1 32 105) ≤ 46080 := rg_32_105 hTq_5
          have f_351 : 0 ≤ Int32.toInt (q_1.1 32 105) ∧ Int32.toInt (q_1.1 32 105) ≤ 46080 := rg_32_105 hT_3
          have f_352 : 0 ≤ Int32.toInt (q.1 32 105) ∧ Int32.toInt (q.1 32 105) ≤ 46080 := rg_32_105 hT
          have w_353 : Int32.toInt (q_1.1 32 105) = Int32.toInt (q.1 32 105) := by rw [hF_4.1 32 105 (by decide) (by decide)]
          have w_354 : Int32.toInt (q_5.1 32 105) = Int32.toInt (q_1.1 32 105) := by rw [eq_5]; rfl
          have w_355 : Int32.toInt (q_8.1 32 105) = Int32.toInt (q_5.1 32 105) := by rw [a_12.1 32 105 (by decide) (by decide)]
          try have w_356 : Int32.toInt (q_346.1 32 105) = Int32.toInt (q_8.1 32 105) := by rw [eq_346, cui_o (by decide)]
          refine dOk_G (dg_ok (show 0 ≤ Int32.toInt x1_9 by omega) (show Int32.toInt x1_9 < ((Int32.toNatClampNeg (q_346.1 32 105) : Nat) : Int) by rw [cl_eq (show 0 ≤ Int32.toInt (q_346.1 32 105) by omega)]; omega)) ?_
          have n_357 : ((Int32.toNatClampNeg x1_9 : Nat) : Int) = Int32.toInt x1_9 := cl_eq (by omega)
          refine dOk_L (fun q_358 eq_358 => ?_)
          have hTq_358 : TC q_358 := by rw [eq_358]; exact sa_44 hTq_346
          have hFq_358 : cFr [37, 42, 44] [(32, 17), (32, 18)] q q_358 := by rw [eq_358]; exact hFq_346.i (by decide)
          have f_359 : 0 ≤ Int32.toInt (q_346.1 32 14) ∧ Int32.toInt (q_346.1 32 14) ≤ 46080 := rg_32_14 hTq_346
          try have w_360 : Int32.toInt (q_346.1 32 14) = Int32.toInt (q_8.1 32 14) := by rw [eq_346, cui_o (by decide)]
          have hB_361 : BL q_358 (Int32.toInt x1_9 + 1) := by rw [eq_358]; exact bl_p (n := Int32.toInt x1_9) hB_347 (show ((Int32.toNatClampNeg x1_9 : Nat) : Int) = Int32.toInt x1_9 by omega) (show 0 ≤ Int32.toInt x2_10 by omega) (show Int32.toInt x2_10 < Int32.toInt (q_346.1 32 14) by omega)
          try have t_362 : Int32.toInt (x1_9 + 1) = Int32.toInt x1_9 + 1 := ti_add rfl (by decide) (by omega) (by omega)
          try have t_363 : Int32.toInt (x2_10 + 1) = Int32.toInt x2_10 + 1 := ti_add rfl (by decide) (by omega) (by omega)
          exact hk_6 (q_358, (x1_9 + 1), (x2_10 + 1)) (show (TC q_358) ∧ (cFr [42, 44] [] q_5 q_358) ∧ (0 ≤ Int32.toInt (x1_9 + 1)) ∧ (Int32.toInt (x1_9 + 1) = Int32.toInt (x2_10 + 1)) ∧ (Int32.toInt (x1_9 + 1) ≤ Int32.toInt (q_5.1 32 14)) ∧ (BL q_358 (Int32.toInt (x1_9 + 1))) from ⟨hTq_358, (by rw [eq_358]; exact ((by rw [eq_346]; exact (((cFr.rf : cFr [42, 44] [] q_5 q_5).t a_12 (by decide) (by decide)) : cFr [42, 44] [] q_5 q_8).i (by decide)) : cFr [42, 44] [] q_5 q_346).i (by decide)), by omega, by omega, by omega, bl_c (n := Int32.toInt x1_9 + 1) hB_361 (show Int32.toInt (x1_9 + 1) ≤ Int32.toInt x1_9 + 1 by omega)⟩) (show (Int32.toInt (q_5.1 32 14) - Int32.toInt (x2_10 + 1)).toNat < (Int32.toInt (q_5.1 32 14) - Int32.toInt x2_10).toNat by omega)
    · have f_364 : 0 ≤ Int32.toInt (q_5.1 32 14) ∧ Int32.toInt (q_5.1 32 14) ≤ 46080 := rg_32_14 hTq_5
      have f_365 : 0 ≤ Int32.toInt (q_1.1 32 14) ∧ Int32.toInt (q_1.1 32 14) ≤ 46080 := rg_32_14 hT_3
      have f_366 : 0 ≤ Int32.toInt (q.1 32 14) ∧ Int32.toInt (q.1 32 14) ≤ 46080 := rg_32_14 hT
      have w_367 : Int32.toInt (q_1.1 32 14) = Int32.toInt (q.1 32 14) := by rw [hF_4.1 32 14 (by decide) (by decide)]
      have w_368 : Int32.toInt (q_5.1 32 14) = Int32.toInt (q_1.1 32 14) := by rw [eq_5]; rfl
      exact (show (TC q_5) ∧ (cFr [42, 44] [] q_5 q_5) ∧ (0 ≤ (0 : Int)) ∧ ((0 : Int) = (0 : Int)) ∧ ((0 : Int) ≤ Int32.toInt (q_5.1 32 14)) ∧ (BL q_5 ((0 : Int))) from ⟨hTq_5, cFr.rf, by omega, by omega, by omega, bl_c (n := 0) bl_0 (show (0 : Int) ≤ 0 by omega)⟩)
    · have f_369 : 0 ≤ Int32.toInt (q_5.1 32 14) ∧ Int32.toInt (q_5.1 32 14) ≤ 46080 := rg_32_14 hTq_5
      have f_370 : 0 ≤ Int32.toInt (q_1.1 32 14) ∧ Int32.toInt (q_1.1 32 14) ≤ 46080 := rg_32_14 hT_3
      have f_371 : 0 ≤ Int32.toInt (q.1 32 14) ∧ Int32.toInt (q.1 32 14) ≤ 46080 := rg_32_14 hT
      have w_372 : Int32.toInt (q_1.1 32 14) = Int32.toInt (q.1 32 14) := by rw [hF_4.1 32 14 (by decide) (by decide)]
      have w_373 : Int32.toInt (q_5.1 32 14) = Int32.toInt (q_1.1 32 14) := by rw [eq_5]; rfl
      show (Int32.toInt (q_5.1 32 14) - (0 : Int)).toNat < 1000000000000
      omega
  have f_374 : 0 ≤ Int32.toInt (q.1 32 13) ∧ Int32.toInt (q.1 32 13) ≤ 6 := rg_32_13 hT
  refine dOk_eq (A := Int32.toInt (q.1 32 17)) (B := Int32.toInt (q.1 32 13)) rfl rfl (fun c_375z c_375 => ?_) (fun c_376z c_376 => ?_)
  · refine dOk_eq (A := Int32.toInt (q.1 32 18)) (B := Int32.toInt (q.1 32 16)) rfl rfl (fun c_378z c_378 => ?_) (fun c_379z c_379 => ?_)
    · refine dOk_B (ok_X3_sameBars_s32 q hT) (fun r_381 q_382 h_383 => ?_)
      replace h_383 : (q_382 = q) ∧ ((Int32.toInt r_381 = 0 ∨ Int32.toInt r_381 = 1)) := h_383
      obtain ⟨i_384, i_385⟩ := h_383
      subst q_382
      refine dOk_eq (A := Int32.toInt r_381) (B := 0) rfl (by decide) (fun c_386z c_386 => ?_) (fun c_387z c_387 => ?_)
      · exact hn_2 q hT cFr.rf 
      · exact dOk_some (show (TC q) ∧ (cFr [37, 42, 44] [(32, 17), (32, 18)] q q) from ⟨hT, (cFr.rf (q := q))⟩)
    · exact hn_2 q hT cFr.rf 
  · exact hn_2 q hT cFr.rf 
end
section
set_option maxHeartbeats 4000000 in
set_option maxRecDepth 100000 in
theorem ok_X3_isCloser_s32 (q : dK) (p1 : Int32) (p2 : Int32) (hT : TC q) (hp0 : LD q) (hp1 : 0 ≤ Int32.toInt p1) (hp2 : Int32.toInt p1 < Int32.toInt (q.1 32 14)) (hp3 : 1 ≤ Int32.toInt p2) (hp4 : Int32.toInt p2 ≤ Int32.toInt (q.1 32 13)) : dOk (zX3_isCloser_s32 q p1 p2) (fun (o : Int32 × dK) => (o.2 = q) ∧ ((Int32.toInt o.1 = 0 ∨ Int32.toInt o.1 = 1))) := by
  unfold zX3_isCloser_s32
  have hLs := ld_sz hp0
  have f_1 : 0 ≤ Int32.toInt (q.1 32 14) ∧ Int32.toInt (q.1 32 14) ≤ 46080 := rg_32_14 hT
  refine dOk_B (ok_X3_turned_s32 q p1 p2 hT hp0 (show 0 ≤ Int32.toInt p1 by omega) (show Int32.toInt p1 < Int32.toInt (q.1 32 14) by omega)) (fun r_2 q_3 h_4 => ?_)
  replace h_4 : (q_3 = q) ∧ (0 ≤ Int32.toInt r_2) ∧ (Int32.toInt r_2 < Int32.toInt (q.1 32 14)) := h_4
  obtain ⟨i_5, i_6, i_7⟩ := h_4
  subst q_3
  have f_8 : 0 ≤ Int32.toInt (q.1 32 103) ∧ Int32.toInt (q.1 32 103) ≤ 46080 := rg_32_103 hT
  refine dOk_G (dg_ok (show 0 ≤ Int32.toInt r_2 by omega) (show Int32.toInt r_2 < ((Int32.toNatClampNeg (q.1 32 103) : Nat) : Int) by rw [cl_eq (show 0 ≤ Int32.toInt (q.1 32 103) by omega)]; omega)) ?_
  have n_9 : ((Int32.toNatClampNeg r_2 : Nat) : Int) = Int32.toInt r_2 := cl_eq (by omega)
  refine dOk_L (fun v_10 ev_10 => ?_)
  refine dOk_G (dg_ok (show 0 ≤ Int32.toInt p1 by omega) (show Int32.toInt p1 < ((Int32.toNatClampNeg (q.1 32 103) : Nat) : Int) by rw [cl_eq (show 0 ≤ Int32.toInt (q.1 32 103) by omega)]; omega)) ?_
  have n_11 : ((Int32.toNatClampNeg p1 : Nat) : Int) = Int32.toInt p1 := cl_eq (by omega)
  refine dOk_L (fun v_12 ev_12 => ?_)
  try have t_13 : Int32.toInt (v_12 - 1) = Int32.toInt v_12 - 1 := ti_sub rfl (by decide) (by omega) (by omega)
  refine dOk_eq (A := Int32.toInt v_10) (B := Int32.toInt (v_12 - 1)) rfl rfl (fun c_14z c_14 => ?_) (fun c_15z c_15 => ?_)
  · refine dOk_G (dg_ok (show 0 ≤ Int32.toInt p1 by omega) (show Int32.toInt p1 < ((Int32.toNatClampNeg (q.1 32 103) : Nat) : Int) by rw [cl_eq (show 0 ≤ Int32.toInt (q.1 32 103) by omega)]; omega)) ?_
    refine dOk_L (fun v_17 ev_17 => ?_)
    have w_18 : Int32.toInt v_17 = Int32.toInt v_12 := by rw [ev_17, ev_12]
    refine dOk_le (A := Int32.toInt v_17) (B := 0) rfl (by decide) (fun c_19 => ?_) (fun c_20 => ?_)
    · unfold zX3_isCloser_s32_49
      unfold zX3_isCloser_s32_50
      refine dOk_G (dbl_ok (show (0 : Int) = 0 ∨ (0 : Int) = 1 by omega)) ?_
      exact dOk_some (show (q = q) ∧ (((0 : Int) = 0 ∨ (0 : Int) = 1)) from ⟨rfl, by omega⟩)
    · have f_21 : 0 ≤ Int32.toInt (q.1 32 13) ∧ Int32.toInt (q.1 32 13) ≤ 6 := rg_32_13 hT
      refine dOk_B (ok_X3_caseOf_s32 q p1 p2 hT hp0 (show 0 ≤ Int32.toInt p1 by omega) (show Int32.toInt p1 < Int32.toInt (q.1 32 14) by omega) (show 1 ≤ Int32.toInt p2 by omega) (show Int32.toInt p2 ≤ Int32.toInt (q.1 32 13) by omega)) (fun r_22 q_23 h_24 => ?_)
      replace h_24 : (q_23 = q) ∧ (0 ≤ Int32.toInt r_22) ∧ (Int32.toInt r_22 < 504) := h_24
      obtain ⟨i_25, i_26, i_27⟩ := h_24
      subst q_23
      refine dOk_G (dg_ok (show 0 ≤ Int32.toInt r_22 by omega) (show Int32.toInt r_22 < ((504 : Nat) : Int) by omega)) ?_
      have n_28 : ((Int32.toNatClampNeg r_22 : Nat) : Int) = Int32.toInt r_22 := cl_eq (by omega)
      refine dOk_L (fun v_29 ev_29 => ?_)
      refine dOk_eq (A := Int32.toInt v_29) (B := 0) rfl (by decide) (fun c_30z c_30 => ?_) (fun c_31z c_31 => ?_)
      · unfold zX3_isCloser_s32_50
        refine dOk_G (dbl_ok (show (1 : Int) = 0 ∨ (1 : Int) = 1 by omega)) ?_
        exact dOk_some (show (q = q) ∧ (((1 : Int) = 0 ∨ (1 : Int) = 1)) from ⟨rfl, by omega⟩)
      · unfold zX3_isCloser_s32_49
        unfold zX3_isCloser_s32_50
        refine dOk_G (dbl_ok (show (0 : Int) = 0 ∨ (0 : Int) = 1 by omega)) ?_
        exact dOk_some (show (q = q) ∧ (((0 : Int) = 0 ∨ (0 : Int) = 1)) from ⟨rfl, by omega⟩)
  · unfold zX3_isCloser_s32_49
    unfold zX3_isCloser_s32_50
    refine dOk_G (dbl_ok (show (0 : Int) = 0 ∨ (0 : Int) = 1 by omega)) ?_
    exact dOk_some (show (q = q) ∧ (((0 : Int) = 0 ∨ (0 : Int) = 1)) from ⟨rfl, by omega⟩)

set_option maxHeartbeats 4000000 in
set_option maxRecDepth 100000 in
theorem ok_X3_firstCloser_s32 (q : dK) (p1 : Int32) (hT : TC q) (hp0 : LD q) (hp1 : 0 ≤ Int32.toInt p1) (hp2 : Int32.toInt p1 < Int32.toInt (q.1 32 14)) : dOk (zX3_firstCloser_s32 q p1) (fun (o : Int32 × dK) => (o.2 = q)) := by
  unfold zX3_firstCloser_s32
  have hLs := ld_sz hp0
  unfold zX3_firstCloser_s32_2
  refine dFix_ok (fun (a : dK × Int32 × Int32) => (a.1 = q) ∧ (a.2.1 = p1) ∧ (1 ≤ Int32.toInt a.2.2) ∧ (Int32.toInt a.2.2 ≤ 7)) (fun (a : dK × Int32 × Int32) => (7 - Int32.toInt a.2.2).toNat) ?_ _ ?_ _ (dF_gt ?_)
  · intro a ha k_2 hk_1
    obtain ⟨q_3, x1_4, x2_5⟩ := a
    replace ha : (q_3 = q) ∧ (x1_4 = p1) ∧ (1 ≤ Int32.toInt x2_5) ∧ (Int32.toInt x2_5 ≤ 7) := ha
    obtain ⟨a_6, a_7, a_8, a_9⟩ := ha
    show dOk (zX3_firstCloser_s32_2b  (fun q x1 x2 => k_2 (q, x1, x2)) q_3 x1_4 x2_5) _
    unfold zX3_firstCloser_s32_2b
    subst q_3
    subst x1_4
    have f_10 : 0 ≤ Int32.toInt (q.1 32 13) ∧ Int32.toInt (q.1 32 13) ≤ 6 := rg_32_13 hT
    refine dOk_lt (A := Int32.toInt (q.1 32 13)) (B := Int32.toInt x2_5) rfl rfl (fun c_11 => ?_) (fun c_12 => ?_)
    · exact dOk_some (show (q = q) from rfl)
    · have f_13 : 0 ≤ Int32.toInt (q.1 32 14) ∧ Int32.toInt (q.1 32 14) ≤ 46080 := rg_32_14 hT
      refine dOk_B (ok_X3_isCloser_s32 q p1 x2_5 hT hp0 (show 0 ≤ Int32.toInt p1 by omega) (show Int32.toInt p1 < Int32.toInt (q.1 32 14) by omega) (show 1 ≤ Int32.toInt x2_5 by omega) (show Int32.toInt x2_5 ≤ Int32.toInt (q.1 32 13) by omega)) (fun r_14 q_15 h_16 => ?_)
      replace h_16 : (q_15 = q) ∧ ((Int32.toInt r_14 = 0 ∨ Int32.toInt r_14 = 1)) := h_16
      obtain ⟨i_17, i_18⟩ := h_16
      subst q_15
      refine dOk_eq (A := Int32.toInt r_14) (B := 0) rfl (by decide) (fun c_19z c_19 => ?_) (fun c_20z c_20 => ?_)
      · try have t_22 : Int32.toInt (x2_5 + 1) = Int32.toInt x2_5 + 1 := ti_add rfl (by decide) (by omega) (by omega)
        exact hk_1 (q, p1, (x2_5 + 1)) (show (q = q) ∧ (p1 = p1) ∧ (1 ≤ Int32.toInt (x2_5 + 1)) ∧ (Int32.toInt (x2_5 + 1) ≤ 7) from ⟨rfl, rfl, by omega, by omega⟩) (show (7 - Int32.toInt (x2_5 + 1)).toNat < (7 - Int32.toInt x2_5).toNat by omega)
      · exact dOk_some (show (q = q) from rfl)
  · exact (show (q = q) ∧ (p1 = p1) ∧ (1 ≤ (1 : Int)) ∧ ((1 : Int) ≤ 7) from ⟨rfl, rfl, by omega, by omega⟩)
  · show (7 - (1 : Int)).toNat < 1000000000000
    omega

set_option maxHeartbeats 4000000 in
set_option maxRecDepth 100000 in
theorem ok_X3_turnOfFirstRow_s32 (q : dK) (p1 : Int32) (hT : TC q) (hp0 : LD q) (hp1 : 0 ≤ Int32.toInt (q.1 32 15)) (hp2 : Int32.toInt (q.1 32 15) < Int32.toInt (q.1 32 14)) : dOk (zX3_turnOfFirstRow_s32 q p1) (fun (o : Int32 × dK) => (TC o.2) ∧ (cFr [37, 42, 44] [(32, 17), (32, 18)] q o.2)) := by
  unfold zX3_turnOfFirstRow_s32
  have hLs := ld_sz hp0
  refine dOk_V (ok_X3_measure_s32 q hT hp0) (fun q_1 h_2 => ?_)
  replace h_2 : (TC q_1) ∧ (cFr [37, 42, 44] [(32, 17), (32, 18)] q q_1) := h_2
  obtain ⟨i_3, i_4⟩ := h_2
  have hFq_1 : cFr [37, 42, 44] [(32, 17), (32, 18)] q q_1 := (cFr.rf (q := q)).t i_4 (by decide) (by decide)
  refine dOk_lt (A := Int32.toInt p1) (B := 0) rfl (by decide) (fun c_5 => ?_) (fun c_6 => ?_)
  · unfold zX3_turnOfFirstRow_s32_21
    exact dOk_some (show (TC q_1) ∧ (cFr [37, 42, 44] [(32, 17), (32, 18)] q q_1) from ⟨i_3, hFq_1⟩)
  · have f_7 : 0 ≤ Int32.toInt (q_1.1 32 15) ∧ Int32.toInt (q_1.1 32 15) ≤ 46079 := rg_32_15 i_3
    have f_8 : 0 ≤ Int32.toInt (q.1 32 15) ∧ Int32.toInt (q.1 32 15) ≤ 46079 := rg_32_15 hT
    have w_9 : Int32.toInt (q_1.1 32 15) = Int32.toInt (q.1 32 15) := by rw [i_4.1 32 15 (by decide) (by decide)]
    have f_10 : 0 ≤ Int32.toInt (q_1.1 32 103) ∧ Int32.toInt (q_1.1 32 103) ≤ 46080 := rg_32_103 i_3
    have f_11 : 0 ≤ Int32.toInt (q.1 32 103) ∧ Int32.toInt (q.1 32 103) ≤ 46080 := rg_32_103 hT
    have w_12 : Int32.toInt (q_1.1 32 103) = Int32.toInt (q.1 32 103) := by rw [i_4.1 32 103 (by decide) (by decide)]
    refine dOk_G (dg_ok (show 0 ≤ Int32.toInt (q_1.1 32 15) by omega) (show Int32.toInt (q_1.1 32 15) < ((Int32.toNatClampNeg (q_1.1 32 103) : Nat) : Int) by rw [cl_eq (show 0 ≤ Int32.toInt (q_1.1 32 103) by omega)]; omega)) ?_
    have n_13 : ((Int32.toNatClampNeg (q_1.1 32 15) : Nat) : Int) = Int32.toInt (q_1.1 32 15) := cl_eq (by omega)
    refine dOk_L (fun v_14 ev_14 => ?_)
    refine dOk_lt (A := Int32.toInt p1) (B := Int32.toInt v_14) rfl rfl (fun c_15 => ?_) (fun c_16 => ?_)
    · unfold zX3_turnOfFirstRow_s32_30
      refine dFix_ok (fun (a : dK × Int32 × Int32 × Int32) => (a.1 = q_1) ∧ (a.2.1 = p1) ∧ (0 ≤ Int32.toInt a.2.2.2) ∧ (Int32.toInt a.2.2.2 ≤ Int32.toInt a.2.1) ∧ (0 ≤ Int32.toInt a.2.2.1) ∧ (Int32.toInt a.2.2.1 < Int32.toInt (q_1.1 32 14))) (fun (a : dK × Int32 × Int32 × Int32) => (Int32.toInt a.2.1 - Int32.toInt a.2.2.2).toNat) ?_ _ ?_ _ (dF_gt ?_)
      · intro a ha k_18 hk_17
        obtain ⟨q_19, x1_20, x2_21, x3_22⟩ := a
        replace ha : (q_19 = q_1) ∧ (x1_20 = p1) ∧ (0 ≤ Int32.toInt x3_22) ∧ (Int32.toInt x3_22 ≤ Int32.toInt x1_20) ∧ (0 ≤ Int32.toInt x2_21) ∧ (Int32.toInt x2_21 < Int32.toInt (q_1.1 32 14)) := ha
        obtain ⟨a_23, a_24, a_25, a_26, a_27, a_28⟩ := ha
        show dOk (zX3_turnOfFirstRow_s32_30b  (fun q x1 x2 x3 => k_18 (q, x1, x2, x3)) q_19 x1_20 x2_21 x3_22) _
        unfold zX3_turnOfFirstRow_s32_30b
        subst q_19
        subst x1_20
        have f_29 : 0 ≤ Int32.toInt (q_1.1 32 14) ∧ Int32.toInt (q_1.1 32 14) ≤ 46080 := rg_32_14 i_3
        have f_30 : 0 ≤ Int32.toInt (q.1 32 14) ∧ Int32.toInt (q.1 32 14) ≤ 46080 := rg_32_14 hT
        have w_31 : Int32.toInt (q_1.1 32 14) = Int32.toInt (q.1 32 14) := by rw [i_4.1 32 14 (by decide) (by decide)]
        have hb9 := ti_rg p1
        refine dOk_le (A := Int32.toInt p1) (B := Int32.toInt x3_22) rfl rfl (fun c_32 => ?_) (fun c_33 => ?_)
        · refine dOk_B (ok_X3_firstCloser_s32 q_1 x2_21 i_3 (ld_fr hp0 hFq_1 rfl) (show 0 ≤ Int32.toInt x2_21 by omega) (show Int32.toInt x2_21 < Int32.toInt (q_1.1 32 14) by omega)) (fun r_34 q_35 h_36 => ?_)
          replace h_36 : (q_35 = q_1) := h_36
          have i_37 := h_36
          subst q_35
          exact dOk_some (show (TC q_1) ∧ (cFr [37, 42, 44] [(32, 17), (32, 18)] q q_1) from ⟨i_3, hFq_1⟩)
        · refine dOk_B (ok_X3_firstCloser_s32 q_1 x2_21 i_3 (ld_fr hp0 hFq_1 rfl) (show 0 ≤ Int32.toInt x2_21 by omega) (show Int32.toInt x2_21 < Int32.toInt (q_1.1 32 14) by omega)) (fun r_38 q_39 h_40 => ?_)
          replace h_40 : (q_39 = q_1) := h_40
          have i_41 := h_40
          subst q_39
          refine dOk_B (ok_X3_turned_s32 q_1 x2_21 r_38 i_3 (ld_fr hp0 hFq_1 rfl) (show 0 ≤ Int32.toInt x2_21 by omega) (show Int32.toInt x2_21 < Int32.toInt (q_1.1 32 14) by omega)) (fun r_42 q_43 h_44 => ?_)
          replace h_44 : (q_43 = q_1) ∧ (0 ≤ Int32.toInt r_42) ∧ (Int32.toInt r_42 < Int32.toInt (q_1.1 32 14)) := h_44
          obtain ⟨i_45, i_46, i_47⟩ := h_44
          subst q_43
          try have t_48 : Int32.toInt (x3_22 + 1) = Int32.toInt x3_22 + 1 := ti_add rfl (by decide) (by omega) (by omega)
          exact hk_17 (q_1, p1, r_42, (x3_22 + 1)) (show (q_1 = q_1) ∧ (p1 = p1) ∧ (0 ≤ Int32.toInt (x3_22 + 1)) ∧ (Int32.toInt (x3_22 + 1) ≤ Int32.toInt p1) ∧ (0 ≤ Int32.toInt r_42) ∧ (Int32.toInt r_42 < Int32.toInt (q_1.1 32 14)) from ⟨rfl, rfl, by omega, by omega, by omega, by omega⟩) (show (Int32.toInt p1 - Int32.toInt (x3_22 + 1)).toNat < (Int32.toInt p1 - Int32.toInt x3_22).toNat by omega)
      · have f_49 : 0 ≤ Int32.toInt (q_1.1 32 14) ∧ Int32.toInt (q_1.1 32 14) ≤ 46080 := rg_32_14 i_3
        have f_50 : 0 ≤ Int32.toInt (q.1 32 14) ∧ Int32.toInt (q.1 32 14) ≤ 46080 := rg_32_14 hT
        have w_51 : Int32.toInt (q_1.1 32 14) = Int32.toInt (q.1 32 14) := by rw [i_4.1 32 14 (by decide) (by decide)]
        exact (show (q_1 = q_1) ∧ (p1 = p1) ∧ (0 ≤ (0 : Int)) ∧ ((0 : Int) ≤ Int32.toInt p1) ∧ (0 ≤ Int32.toInt (q_1.1 32 15)) ∧ (Int32.toInt (q_1.1 32 15) < Int32.toInt (q_1.1 32 14)) from ⟨rfl, rfl, by omega, by omega, by omega, by omega⟩)
      · have hm9 := ti_rg p1
        show (Int32.toInt p1 - (0 : Int)).toNat < 1000000000000
        omega
    · unfold zX3_turnOfFirstRow_s32_21
      exact dOk_some (show (TC q_1) ∧ (cFr [37, 42, 44] [(32, 17), (32, 18)] q q_1) from ⟨i_3, hFq_1⟩)

set_option maxHeartbeats 4000000 in
set_option maxRecDepth 100000 in
theorem ok_X3_turnsToOrder_s32 (q : dK) (hT : TC q) (hp0 : LD q) (hp1 : 0 ≤ Int32.toInt (q.1 32 15)) (hp2 : Int32.toInt (q.1 32 15) < Int32.toInt (q.1 32 14)) : dOk (zX3_turnsToOrder_s32 q) (fun (o : Int32 × dK) => (TC o.2) ∧ (cFr [37, 42, 44] [(32, 17), (32, 18)] q o.2)) := by
  unfold zX3_turnsToOrder_s32
  have hLs := ld_sz hp0
  refine dOk_V (ok_X3_measure_s32 q hT hp0) (fun q_1 h_2 => ?_)
  replace h_2 : (TC q_1) ∧ (cFr [37, 42, 44] [(32, 17), (32, 18)] q q_1) := h_2
  obtain ⟨i_3, i_4⟩ := h_2
  have hFq_1 : cFr [37, 42, 44] [(32, 17), (32, 18)] q q_1 := (cFr.rf (q := q)).t i_4 (by decide) (by decide)
  have f_5 : 0 ≤ Int32.toInt (q_1.1 32 15) ∧ Int32.toInt (q_1.1 32 15) ≤ 46079 := rg_32_15 i_3
  have f_6 : 0 ≤ Int32.toInt (q.1 32 15) ∧ Int32.toInt (q.1 32 15) ≤ 46079 := rg_32_15 hT
  have w_7 : Int32.toInt (q_1.1 32 15) = Int32.toInt (q.1 32 15) := by rw [i_4.1 32 15 (by decide) (by decide)]
  have f_8 : 0 ≤ Int32.toInt (q_1.1 32 103) ∧ Int32.toInt (q_1.1 32 103) ≤ 46080 := rg_32_103 i_3
  have f_9 : 0 ≤ Int32.toInt (q.1 32 103) ∧ Int32.toInt (q.1 32 103) ≤ 46080 := rg_32_103 hT
  have w_10 : Int32.toInt (q_1.1 32 103) = Int32.toInt (q.1 32 103) := by rw [i_4.1 32 103 (by decide) (by decide)]
  refine dOk_G (dg_ok (show 0 ≤ Int32.toInt (q_1.1 32 15) by omega) (show Int32.toInt (q_1.1 32 15) < ((Int32.toNatClampNeg (q_1.1 32 103) : Nat) : Int) by rw [cl_eq (show 0 ≤ Int32.toInt (q_1.1 32 103) by omega)]; omega)) ?_
  have n_11 : ((Int32.toNatClampNeg (q_1.1 32 15) : Nat) : Int) = Int32.toInt (q_1.1 32 15) := cl_eq (by omega)
  refine dOk_L (fun v_12 ev_12 => ?_)
  exact dOk_some (show (TC q_1) ∧ (cFr [37, 42, 44] [(32, 17), (32, 18)] q q_1) from ⟨i_3, hFq_1⟩)
end
section
set_option maxHeartbeats 4000000 in
set_option maxRecDepth 100000 in
theorem ok_X3_rowsToOrder_s32 (q : dK) (hT : TC q) (hp0 : LD q) (hp1 : 0 ≤ Int32.toInt (q.1 32 15)) (hp2 : Int32.toInt (q.1 32 15) < Int32.toInt (q.1 32 14)) : dOk (zX3_rowsToOrder_s32 q) (fun (o : Int32 × dK) => (TC o.2) ∧ (cFr [37, 42, 43, 44] [(32, 17), (32, 18)] q o.2)) := by
  unfold zX3_rowsToOrder_s32
  have hLs := ld_sz hp0
  refine dOk_V (ok_X3_measure_s32 q hT hp0) (fun q_1 h_2 => ?_)
  replace h_2 : (TC q_1) ∧ (cFr [37, 42, 44] [(32, 17), (32, 18)] q q_1) := h_2
  obtain ⟨i_3, i_4⟩ := h_2
  have hFq_1 : cFr [37, 42, 43, 44] [(32, 17), (32, 18)] q q_1 := (cFr.rf (q := q)).t i_4 (by decide) (by decide)
  have f_5 : 0 ≤ Int32.toInt (q_1.1 32 15) ∧ Int32.toInt (q_1.1 32 15) ≤ 46079 := rg_32_15 i_3
  have f_6 : 0 ≤ Int32.toInt (q.1 32 15) ∧ Int32.toInt (q.1 32 15) ≤ 46079 := rg_32_15 hT
  have w_7 : Int32.toInt (q_1.1 32 15) = Int32.toInt (q.1 32 15) := by rw [i_4.1 32 15 (by decide) (by decide)]
  have f_8 : 0 ≤ Int32.toInt (q_1.1 32 103) ∧ Int32.toInt (q_1.1 32 103) ≤ 46080 := rg_32_103 i_3
  have f_9 : 0 ≤ Int32.toInt (q.1 32 103) ∧ Int32.toInt (q.1 32 103) ≤ 46080 := rg_32_103 hT
  have w_10 : Int32.toInt (q_1.1 32 103) = Int32.toInt (q.1 32 103) := by rw [i_4.1 32 103 (by decide) (by decide)]
  refine dOk_G (dg_ok (show 0 ≤ Int32.toInt (q_1.1 32 15) by omega) (show Int32.toInt (q_1.1 32 15) < ((Int32.toNatClampNeg (q_1.1 32 103) : Nat) : Int) by rw [cl_eq (show 0 ≤ Int32.toInt (q_1.1 32 103) by omega)]; omega)) ?_
  have n_11 : ((Int32.toNatClampNeg (q_1.1 32 15) : Nat) : Int) = Int32.toInt (q_1.1 32 15) := cl_eq (by omega)
  refine dOk_L (fun v_12 ev_12 => ?_)
  refine dOk_eq (A := Int32.toInt v_12) (B := (-1)) rfl (by decide) (fun c_13z c_13 => ?_) (fun c_14z c_14 => ?_)
  · exact dOk_some (show (TC q_1) ∧ (cFr [37, 42, 43, 44] [(32, 17), (32, 18)] q q_1) from ⟨i_3, hFq_1⟩)
  · refine dOk_L (fun q_16 eq_16 => ?_)
    have hTq_16 : TC q_16 := by rw [eq_16]; exact tc_cfi i_3 (by decide)
    have hFq_16 : cFr [37, 42, 43, 44] [(32, 17), (32, 18)] q q_16 := by rw [eq_16]; exact hFq_1.g (by decide)
    have f_17 : 0 ≤ Int32.toInt (q_16.1 32 15) ∧ Int32.toInt (q_16.1 32 15) ≤ 46079 := rg_32_15 hTq_16
    have w_18 : Int32.toInt (q_16.1 32 15) = Int32.toInt (q_1.1 32 15) := by rw [eq_16]; rfl
    have f_19 : 0 ≤ Int32.toInt (q_16.1 32 104) ∧ Int32.toInt (q_16.1 32 104) ≤ 46080 := rg_32_104 hTq_16
    have f_20 : 0 ≤ Int32.toInt (q_1.1 32 104) ∧ Int32.toInt (q_1.1 32 104) ≤ 46080 := rg_32_104 i_3
    have f_21 : 0 ≤ Int32.toInt (q.1 32 104) ∧ Int32.toInt (q.1 32 104) ≤ 46080 := rg_32_104 hT
    have w_22 : Int32.toInt (q_1.1 32 104) = Int32.toInt (q.1 32 104) := by rw [i_4.1 32 104 (by decide) (by decide)]
    have w_23 : Int32.toInt (q_16.1 32 104) = Int32.toInt (q_1.1 32 104) := by rw [eq_16]; rfl
    refine dOk_G (dg_ok (show 0 ≤ Int32.toInt (q_16.1 32 15) by omega) (show Int32.toInt (q_16.1 32 15) < ((Int32.toNatClampNeg (q_16.1 32 104) : Nat) : Int) by rw [cl_eq (show 0 ≤ Int32.toInt (q_16.1 32 104) by omega)]; omega)) ?_
    have n_24 : ((Int32.toNatClampNeg (q_16.1 32 15) : Nat) : Int) = Int32.toInt (q_16.1 32 15) := cl_eq (by omega)
    refine dOk_L (fun q_25 eq_25 => ?_)
    have hTq_25 : TC q_25 := by rw [eq_25]; exact sa_43 hTq_16
    have hFq_25 : cFr [37, 42, 43, 44] [(32, 17), (32, 18)] q q_25 := by rw [eq_25]; exact hFq_16.i (by decide)
    have f_26 : 0 ≤ Int32.toInt (q_25.1 32 105) ∧ Int32.toInt (q_25.1 32 105) ≤ 46080 := rg_32_105 hTq_25
    have f_27 : 0 ≤ Int32.toInt (q_16.1 32 105) ∧ Int32.toInt (q_16.1 32 105) ≤ 46080 := rg_32_105 hTq_16
    have f_28 : 0 ≤ Int32.toInt (q_1.1 32 105) ∧ Int32.toInt (q_1.1 32 105) ≤ 46080 := rg_32_105 i_3
    have f_29 : 0 ≤ Int32.toInt (q.1 32 105) ∧ Int32.toInt (q.1 32 105) ≤ 46080 := rg_32_105 hT
    have w_30 : Int32.toInt (q_1.1 32 105) = Int32.toInt (q.1 32 105) := by rw [i_4.1 32 105 (by decide) (by decide)]
    have w_31 : Int32.toInt (q_16.1 32 105) = Int32.toInt (q_1.1 32 105) := by rw [eq_16]; rfl
    try have w_32 : Int32.toInt (q_25.1 32 105) = Int32.toInt (q_16.1 32 105) := by rw [eq_25, cui_o (by decide)]
    refine dOk_G (dg_ok (show 0 ≤ (0 : Int) by omega) (show (0 : Int) < ((Int32.toNatClampNeg (q_25.1 32 105) : Nat) : Int) by rw [cl_eq (show 0 ≤ Int32.toInt (q_25.1 32 105) by omega)]; omega)) ?_
    refine dOk_L (fun q_33 eq_33 => ?_)
    have hTq_33 : TC q_33 := by rw [eq_33]; exact sa_44 hTq_25
    have hFq_33 : cFr [37, 42, 43, 44] [(32, 17), (32, 18)] q q_33 := by rw [eq_33]; exact hFq_25.i (by decide)
    have f_34 : 0 ≤ Int32.toInt (q_25.1 32 15) ∧ Int32.toInt (q_25.1 32 15) ≤ 46079 := rg_32_15 hTq_25
    try have w_35 : Int32.toInt (q_25.1 32 15) = Int32.toInt (q_16.1 32 15) := by rw [eq_25, cui_o (by decide)]
    have f_36 : 0 ≤ Int32.toInt (q_25.1 32 14) ∧ Int32.toInt (q_25.1 32 14) ≤ 46080 := rg_32_14 hTq_25
    have f_37 : 0 ≤ Int32.toInt (q_16.1 32 14) ∧ Int32.toInt (q_16.1 32 14) ≤ 46080 := rg_32_14 hTq_16
    have f_38 : 0 ≤ Int32.toInt (q_1.1 32 14) ∧ Int32.toInt (q_1.1 32 14) ≤ 46080 := rg_32_14 i_3
    have f_39 : 0 ≤ Int32.toInt (q.1 32 14) ∧ Int32.toInt (q.1 32 14) ≤ 46080 := rg_32_14 hT
    have w_40 : Int32.toInt (q_1.1 32 14) = Int32.toInt (q.1 32 14) := by rw [i_4.1 32 14 (by decide) (by decide)]
    have w_41 : Int32.toInt (q_16.1 32 14) = Int32.toInt (q_1.1 32 14) := by rw [eq_16]; rfl
    try have w_42 : Int32.toInt (q_25.1 32 14) = Int32.toInt (q_16.1 32 14) := by rw [eq_25, cui_o (by decide)]
    have hB_43 : BL q_33 (0 + 1) := by rw [eq_33]; exact bl_p (n := 0) bl_0 (show ((0 : Nat) : Int) = 0 by omega) (show 0 ≤ Int32.toInt (q_25.1 32 15) by omega) (show Int32.toInt (q_25.1 32 15) < Int32.toInt (q_25.1 32 14) by omega)
    unfold zX3_rowsToOrder_s32_53
    refine dFix_ok (fun (a : dK × Int32 × Int32 × Int32) => (TC a.1) ∧ (cFr [43, 44] [] q_33 a.1) ∧ (0 ≤ Int32.toInt a.2.2.2) ∧ (Int32.toInt a.2.2.2 ≤ Int32.toInt a.2.1) ∧ (Int32.toInt a.2.1 ≤ Int32.toInt (q_33.1 32 14)) ∧ (BL a.1 (Int32.toInt a.2.1))) (fun (a : dK × Int32 × Int32 × Int32) => (Int32.toInt (q_33.1 32 14) - Int32.toInt a.2.2.2).toNat) ?_ _ ?_ _ (dF_gt ?_)
    · intro a ha k_45 hk_44
      obtain ⟨q_46, x1_47, x2_48, x3_49⟩ := a
      replace ha : (TC q_46) ∧ (cFr [43, 44] [] q_33 q_46) ∧ (0 ≤ Int32.toInt x3_49) ∧ (Int32.toInt x3_49 ≤ Int32.toInt x1_47) ∧ (Int32.toInt x1_47 ≤ Int32.toInt (q_33.1 32 14)) ∧ (BL q_46 (Int32.toInt x1_47)) := ha
      obtain ⟨a_50, a_51, a_52, a_53, a_54, a_55⟩ := ha
      show dOk (zX3_rowsToOrder_s32_53b  (fun q x1 x2 x3 => k_45 (q, x1, x2, x3)) q_46 x1_47 x2_48 x3_49) _
      unfold zX3_rowsToOrder_s32_53b
      have hFq_46 : cFr [37, 42, 43, 44] [(32, 17), (32, 18)] q q_46 := hFq_33.t a_51 (by decide) (by decide)
      have f_56 : 0 ≤ Int32.toInt (q_33.1 32 14) ∧ Int32.toInt (q_33.1 32 14) ≤ 46080 := rg_32_14 hTq_33
      have w_57 : Int32.toInt (q_33.1 32 14) = Int32.toInt (q_25.1 32 14) := by rw [eq_33, cui_o (by decide)]
      have f_58 : 0 ≤ Int32.toInt (q_46.1 32 14) ∧ Int32.toInt (q_46.1 32 14) ≤ 46080 := rg_32_14 a_50
      have w_59 : Int32.toInt (q_46.1 32 14) = Int32.toInt (q_33.1 32 14) := by rw [a_51.1 32 14 (by decide) (by decide)]
      refine dOk_le (A := Int32.toInt (q_46.1 32 14)) (B := Int32.toInt x3_49) rfl rfl (fun c_60 => ?_) (fun c_61 => ?_)
      · unfold zX3_rowsToOrder_s32_200
        exact dOk_some (show (TC q_46) ∧ (cFr [37, 42, 43, 44] [(32, 17), (32, 18)] q q_46) from ⟨a_50, hFq_46⟩)
      · refine dOk_le (A := Int32.toInt x1_47) (B := Int32.toInt x3_49) rfl rfl (fun c_62 => ?_) (fun c_63 => ?_)
        · unfold zX3_rowsToOrder_s32_200
          exact dOk_some (show (TC q_46) ∧ (cFr [37, 42, 43, 44] [(32, 17), (32, 18)] q q_46) from ⟨a_50, hFq_46⟩)
        · have f_64 : 0 ≤ Int32.toInt (q_46.1 32 105) ∧ Int32.toInt (q_46.1 32 105) ≤ 46080 := rg_32_105 a_50
          have f_65 : 0 ≤ Int32.toInt (q_33.1 32 105) ∧ Int32.toInt (q_33.1 32 105) ≤ 46080 := rg_32_105 hTq_33
          have w_66 : Int32.toInt (q_33.1 32 105) = Int32.toInt (q_25.1 32 105) := by rw [eq_33, cui_o (by decide)]
          have w_67 : Int32.toInt (q_46.1 32 105) = Int32.toInt (q_33.1 32 105) := by rw [a_51.1 32 105 (by decide) (by decide)]
          refine dOk_G (dg_ok (show 0 ≤ Int32.toInt x3_49 by omega) (show Int32.toInt x3_49 < ((Int32.toNatClampNeg (q_46.1 32 105) : Nat) : Int) by rw [cl_eq (show 0 ≤ Int32.toInt (q_46.1 32 105) by omega)]; omega)) ?_
          have n_68 : ((Int32.toNatClampNeg x3_49 : Nat) : Int) = Int32.toInt x3_49 := cl_eq (by omega)
          refine dOk_L (fun v_69 ev_69 => ?_)
          have f_70 : 0 ≤ Int32.toInt v_69 ∧ Int32.toInt v_69 < Int32.toInt (q_46.1 32 14) := by rw [ev_69]; exact a_55 _ (show ((Int32.toNatClampNeg x3_49 : Nat) : Int) < Int32.toInt x1_47 by omega)
          have f_71 : 0 ≤ Int32.toInt (q_46.1 32 103) ∧ Int32.toInt (q_46.1 32 103) ≤ 46080 := rg_32_103 a_50
          have f_72 : 0 ≤ Int32.toInt (q_33.1 32 103) ∧ Int32.toInt (q_33.1 32 103) ≤ 46080 := rg_32_103 hTq_33
          have f_73 : 0 ≤ Int32.toInt (q_25.1 32 103) ∧ Int32.toInt (q_25.1 32 103) ≤ 46080 := rg_32_103 hTq_25
          have f_74 : 0 ≤ Int32.toInt (q_16.1 32 103) ∧ Int32.toInt (q_16.1 32 103) ≤ 46080 := rg_32_103 hTq_16
          have w_75 : Int32.toInt (q_16.1 32 103) = Int32.toInt (q_1.1 32 103) := by rw [eq_16]; rfl
          try have w_76 : Int32.toInt (q_25.1 32 103) = Int32.toInt (q_16.1 32 103) := by rw [eq_25, cui_o (by decide)]
          have w_77 : Int32.toInt (q_33.1 32 103) = Int32.toInt (q_25.1 32 103) := by rw [eq_33, cui_o (by decide)]
          have w_78 : Int32.toInt (q_46.1 32 103) = Int32.toInt (q_33.1 32 103) := by rw [a_51.1 32 103 (by decide) (by decide)]
          refine dOk_G (dg_ok (show 0 ≤ Int32.toInt v_69 by omega) (show Int32.toInt v_69 < ((Int32.toNatClampNeg (q_46.1 32 103) : Nat) : Int) by rw [cl_eq (show 0 ≤ Int32.toInt (q_46.1 32 103) by omega)]; omega)) ?_
          have n_79 : ((Int32.toNatClampNeg v_69 : Nat) : Int) = Int32.toInt v_69 := cl_eq (by omega)
          refine dOk_L (fun v_80 ev_80 => ?_)
          refine dOk_eq (A := Int32.toInt v_80) (B := 0) rfl (by decide) (fun c_81z c_81 => ?_) (fun c_82z c_82 => ?_)
          · have f_84 : 0 ≤ Int32.toInt (q_46.1 32 104) ∧ Int32.toInt (q_46.1 32 104) ≤ 46080 := rg_32_104 a_50
            have f_85 : 0 ≤ Int32.toInt (q_33.1 32 104) ∧ Int32.toInt (q_33.1 32 104) ≤ 46080 := rg_32_104 hTq_33
            have f_86 : 0 ≤ Int32.toInt (q_25.1 32 104) ∧ Int32.toInt (q_25.1 32 104) ≤ 46080 := rg_32_104 hTq_25
            try have w_87 : Int32.toInt (q_25.1 32 104) = Int32.toInt (q_16.1 32 104) := by rw [eq_25, cui_o (by decide)]
            have w_88 : Int32.toInt (q_33.1 32 104) = Int32.toInt (q_25.1 32 104) := by rw [eq_33, cui_o (by decide)]
            have w_89 : Int32.toInt (q_46.1 32 104) = Int32.toInt (q_33.1 32 104) := by rw [a_51.1 32 104 (by decide) (by decide)]
            refine dOk_G (dg_ok (show 0 ≤ Int32.toInt v_69 by omega) (show Int32.toInt v_69 < ((Int32.toNatClampNeg (q_46.1 32 104) : Nat) : Int) by rw [cl_eq (show 0 ≤ Int32.toInt (q_46.1 32 104) by omega)]; omega)) ?_
            refine dOk_L (fun v_90 ev_90 => ?_)
            unfold zX3_rowsToOrder_s32_99
            unfold zX3_rowsToOrder_s32_102
            refine dFix_ok (fun (a : dK × Int32 × Int32 × Int32 × Int32 × Int32) => (TC a.1) ∧ (cFr [43, 44] [] q_46 a.1) ∧ (a.2.2.1 = (mnI 1000000000 (x2_48 + v_90))) ∧ (a.2.2.2.1 = x3_49) ∧ (a.2.2.2.2.1 = v_69) ∧ (1 ≤ Int32.toInt a.2.2.2.2.2) ∧ (Int32.toInt a.2.2.2.2.2 ≤ 7) ∧ (Int32.toInt a.2.2.2.1 < Int32.toInt a.2.1) ∧ (Int32.toInt a.2.1 ≤ Int32.toInt (q_46.1 32 14)) ∧ (BL a.1 (Int32.toInt a.2.1))) (fun (a : dK × Int32 × Int32 × Int32 × Int32 × Int32) => (7 - Int32.toInt a.2.2.2.2.2).toNat) ?_ _ ?_ _ (dF_gt ?_)
            · intro a ha k_92 hk_91
              obtain ⟨q_93, x1_94, x2_95, x3_96, x4_97, x5_98⟩ := a
              replace ha : (TC q_93) ∧ (cFr [43, 44] [] q_46 q_93) ∧ (x2_95 = (mnI 1000000000 (x2_48 + v_90))) ∧ (x3_96 = x3_49) ∧ (x4_97 = v_69) ∧ (1 ≤ Int32.toInt x5_98) ∧ (Int32.toInt x5_98 ≤ 7) ∧ (Int32.toInt x3_96 < Int32.toInt x1_94) ∧ (Int32.toInt x1_94 ≤ Int32.toInt (q_46.1 32 14)) ∧ (BL q_93 (Int32.toInt x1_94)) := ha
              obtain ⟨a_99, a_100, a_101, a_102, a_103, a_104, a_105, a_106, a_107, a_108⟩ := ha
              show dOk (zX3_rowsToOrder_s32_102b _ (fun q x1 x2 x3 x4 x5 => k_92 (q, x1, x2, x3, x4, x5)) q_93 x1_94 x2_95 x3_96 x4_97 x5_98) _
              unfold zX3_rowsToOrder_s32_102b
              have hFq_93 : cFr [37, 42, 43, 44] [(32, 17), (32, 18)] q q_93 := hFq_46.t a_100 (by decide) (by decide)
              subst x2_95
              subst x3_96
              subst x4_97
              have f_109 : 0 ≤ Int32.toInt (q_93.1 32 13) ∧ Int32.toInt (q_93.1 32 13) ≤ 6 := rg_32_13 a_99
              have f_110 : 0 ≤ Int32.toInt (q_46.1 32 13) ∧ Int32.toInt (q_46.1 32 13) ≤ 6 := rg_32_13 a_50
              have f_111 : 0 ≤ Int32.toInt (q_33.1 32 13) ∧ Int32.toInt (q_33.1 32 13) ≤ 6 := rg_32_13 hTq_33
              have f_112 : 0 ≤ Int32.toInt (q_25.1 32 13) ∧ Int32.toInt (q_25.1 32 13) ≤ 6 := rg_32_13 hTq_25
              have f_113 : 0 ≤ Int32.toInt (q_16.1 32 13) ∧ Int32.toInt (q_16.1 32 13) ≤ 6 := rg_32_13 hTq_16
              have f_114 : 0 ≤ Int32.toInt (q_1.1 32 13) ∧ Int32.toInt (q_1.1 32 13) ≤ 6 := rg_32_13 i_3
              have f_115 : 0 ≤ Int32.toInt (q.1 32 13) ∧ Int32.toInt (q.1 32 13) ≤ 6 := rg_32_13 hT
              have w_116 : Int32.toInt (q_1.1 32 13) = Int32.toInt (q.1 32 13) := by rw [i_4.1 32 13 (by decide) (by decide)]
              have w_117 : Int32.toInt (q_16.1 32 13) = Int32.toInt (q_1.1 32 13) := by rw [eq_16]; rfl
              try have w_118 : Int32.toInt (q_25.1 32 13) = Int32.toInt (q_16.1 32 13) := by rw [eq_25, cui_o (by decide)]
              have w_119 : Int32.toInt (q_33.1 32 13) = Int32.toInt (q_25.1 32 13) := by rw [eq_33, cui_o (by decide)]
              have w_120 : Int32.toInt (q_46.1 32 13) = Int32.toInt (q_33.1 32 13) := by rw [a_51.1 32 13 (by decide) (by decide)]
              have w_121 : Int32.toInt (q_93.1 32 13) = Int32.toInt (q_46.1 32 13) := by rw [a_100.1 32 13 (by decide) (by decide)]
              refine dOk_lt (A := Int32.toInt (q_93.1 32 13)) (B := Int32.toInt x5_98) rfl rfl (fun c_122 => ?_) (fun c_123 => ?_)
              · try have t_124 : Int32.toInt (x2_48 + v_90) = Int32.toInt x2_48 + Int32.toInt v_90 := ti_add rfl rfl (by omega) (by omega)
                have t_125 : Int32.toInt (mnI 1000000000 (x2_48 + v_90)) ≤ 1000000000 ∧ Int32.toInt (mnI 1000000000 (x2_48 + v_90)) ≤ Int32.toInt (x2_48 + v_90) ∧ (Int32.toInt (mnI 1000000000 (x2_48 + v_90)) = 1000000000 ∨ Int32.toInt (mnI 1000000000 (x2_48 + v_90)) = Int32.toInt (x2_48 + v_90)) := mn_k (by decide)
                try have t_126 : Int32.toInt (x3_49 + 1) = Int32.toInt x3_49 + 1 := ti_add rfl (by decide) (by omega) (by omega)
                exact hk_44 (q_93, x1_94, (mnI 1000000000 (x2_48 + v_90)), (x3_49 + 1)) (show (TC q_93) ∧ (cFr [43, 44] [] q_33 q_93) ∧ (0 ≤ Int32.toInt (x3_49 + 1)) ∧ (Int32.toInt (x3_49 + 1) ≤ Int32.toInt x1_94) ∧ (Int32.toInt x1_94 ≤ Int32.toInt (q_33.1 32 14)) ∧ (BL q_93 (Int32.toInt x1_94)) from ⟨a_99, ((((cFr.rf : cFr [43, 44] [] q_33 q_33).t a_51 (by decide) (by decide)) : cFr [43, 44] [] q_33 q_46).t a_100 (by decide) (by decide)), by omega, by omega, by omega, bl_c (n := Int32.toInt x1_94) a_108 (show Int32.toInt x1_94 ≤ Int32.toInt x1_94 by omega)⟩) (show (Int32.toInt (q_33.1 32 14) - Int32.toInt (x3_49 + 1)).toNat < (Int32.toInt (q_33.1 32 14) - Int32.toInt x3_49).toNat by omega)
              · have f_127 : 0 ≤ Int32.toInt (q_93.1 32 14) ∧ Int32.toInt (q_93.1 32 14) ≤ 46080 := rg_32_14 a_99
                have w_128 : Int32.toInt (q_93.1 32 14) = Int32.toInt (q_46.1 32 14) := by rw [a_100.1 32 14 (by decide) (by decide)]
                refine dOk_B (ok_X3_isCloser_s32 q_93 v_69 x5_98 a_99 (ld_fr hp0 hFq_93 rfl) (show 0 ≤ Int32.toInt v_69 by omega) (show Int32.toInt v_69 < Int32.toInt (q_93.1 32 14) by omega) (show 1 ≤ Int32.toInt x5_98 by omega) (show Int32.toInt x5_98 ≤ Int32.toInt (q_93.1 32 13) by omega)) (fun r_129 q_130 h_131 => ?_)
                replace h_131 : (q_130 = q_93) ∧ ((Int32.toInt r_129 = 0 ∨ Int32.toInt r_129 = 1)) := h_131
                obtain ⟨i_132, i_133⟩ := h_131
                subst q_130
                refine dOk_eq (A := Int32.toInt r_129) (B := 0) rfl (by decide) (fun c_134z c_134 => ?_) (fun c_135z c_135 => ?_)
                · unfold zX3_rowsToOrder_s32_188
                  try have t_137 : Int32.toInt (x2_48 + v_90) = Int32.toInt x2_48 + Int32.toInt v_90 := ti_add rfl rfl (by omega) (by omega)
                  have t_138 : Int32.toInt (mnI 1000000000 (x2_48 + v_90)) ≤ 1000000000 ∧ Int32.toInt (mnI 1000000000 (x2_48 + v_90)) ≤ Int32.toInt (x2_48 + v_90) ∧ (Int32.toInt (mnI 1000000000 (x2_48 + v_90)) = 1000000000 ∨ Int32.toInt (mnI 1000000000 (x2_48 + v_90)) = Int32.toInt (x2_48 + v_90)) := mn_k (by decide)
                  try have t_139 : Int32.toInt (x5_98 + 1) = Int32.toInt x5_98 + 1 := ti_add rfl (by decide) (by omega) (by omega)
                  exact hk_91 (q_93, x1_94, (mnI 1000000000 (x2_48 + v_90)), x3_49, v_69, (x5_98 + 1)) (show (TC q_93) ∧ (cFr [43, 44] [] q_46 q_93) ∧ ((mnI 1000000000 (x2_48 + v_90)) = (mnI 1000000000 (x2_48 + v_90))) ∧ (x3_49 = x3_49) ∧ (v_69 = v_69) ∧ (1 ≤ Int32.toInt (x5_98 + 1)) ∧ (Int32.toInt (x5_98 + 1) ≤ 7) ∧ (Int32.toInt x3_49 < Int32.toInt x1_94) ∧ (Int32.toInt x1_94 ≤ Int32.toInt (q_46.1 32 14)) ∧ (BL q_93 (Int32.toInt x1_94)) from ⟨a_99, ((cFr.rf : cFr [43, 44] [] q_46 q_46).t a_100 (by decide) (by decide)), rfl, rfl, rfl, by omega, by omega, by omega, by omega, bl_c (n := Int32.toInt x1_94) a_108 (show Int32.toInt x1_94 ≤ Int32.toInt x1_94 by omega)⟩) (show (7 - Int32.toInt (x5_98 + 1)).toNat < (7 - Int32.toInt x5_98).toNat by omega)
                · refine dOk_B (ok_X3_turned_s32 q_93 v_69 x5_98 a_99 (ld_fr hp0 hFq_93 rfl) (show 0 ≤ Int32.toInt v_69 by omega) (show Int32.toInt v_69 < Int32.toInt (q_93.1 32 14) by omega)) (fun r_140 q_141 h_142 => ?_)
                  replace h_142 : (q_141 = q_93) ∧ (0 ≤ Int32.toInt r_140) ∧ (Int32.toInt r_140 < Int32.toInt (q_93.1 32 14)) := h_142
                  obtain ⟨i_143, i_144, i_145⟩ := h_142
                  subst q_141
                  have f_146 : 0 ≤ Int32.toInt (q_93.1 32 104) ∧ Int32.toInt (q_93.1 32 104) ≤ 46080 := rg_32_104 a_99
                  have w_147 : Int32.toInt (q_93.1 32 104) = Int32.toInt (q_46.1 32 104) := by rw [a_100.1 32 104 (by decide) (by decide)]
                  refine dOk_G (dg_ok (show 0 ≤ Int32.toInt r_140 by omega) (show Int32.toInt r_140 < ((Int32.toNatClampNeg (q_93.1 32 104) : Nat) : Int) by rw [cl_eq (show 0 ≤ Int32.toInt (q_93.1 32 104) by omega)]; omega)) ?_
                  have n_148 : ((Int32.toNatClampNeg r_140 : Nat) : Int) = Int32.toInt r_140 := cl_eq (by omega)
                  refine dOk_L (fun v_149 ev_149 => ?_)
                  refine dOk_eq (A := Int32.toInt v_149) (B := 0) rfl (by decide) (fun c_150z c_150 => ?_) (fun c_151z c_151 => ?_)
                  · refine dOk_le (A := Int32.toInt (q_93.1 32 14)) (B := Int32.toInt x1_94) rfl rfl (fun c_153 => ?_) (fun c_154 => ?_)
                    · unfold zX3_rowsToOrder_s32_161
                      refine dOk_G (dg_ok (show 0 ≤ Int32.toInt r_140 by omega) (show Int32.toInt r_140 < ((Int32.toNatClampNeg (q_93.1 32 104) : Nat) : Int) by rw [cl_eq (show 0 ≤ Int32.toInt (q_93.1 32 104) by omega)]; omega)) ?_
                      refine dOk_L (fun v_155 ev_155 => ?_)
                      have w_156 : Int32.toInt v_155 = Int32.toInt v_149 := by rw [ev_155, ev_149]
                      refine dOk_G (dg_ok (show 0 ≤ Int32.toInt v_69 by omega) (show Int32.toInt v_69 < ((Int32.toNatClampNeg (q_93.1 32 104) : Nat) : Int) by rw [cl_eq (show 0 ≤ Int32.toInt (q_93.1 32 104) by omega)]; omega)) ?_
                      refine dOk_L (fun v_157 ev_157 => ?_)
                      refine dOk_G (dg_ok (show 0 ≤ Int32.toInt r_140 by omega) (show Int32.toInt r_140 < ((Int32.toNatClampNeg (q_93.1 32 104) : Nat) : Int) by rw [cl_eq (show 0 ≤ Int32.toInt (q_93.1 32 104) by omega)]; omega)) ?_
                      refine dOk_L (fun q_158 eq_158 => ?_)
                      have hTq_158 : TC q_158 := by rw [eq_158]; exact sa_43 a_99
                      have hFq_158 : cFr [37, 42, 43, 44] [(32, 17), (32, 18)] q q_158 := by rw [eq_158]; exact hFq_93.i (by decide)
                      have hB_159 : BL q_158 (Int32.toInt x1_94) := by rw [eq_158]; exact bl_o a_108 rfl
                      unfold zX3_rowsToOrder_s32_188
                      try have t_160 : Int32.toInt (x2_48 + v_90) = Int32.toInt x2_48 + Int32.toInt v_90 := ti_add rfl rfl (by omega) (by omega)
                      have t_161 : Int32.toInt (mnI 1000000000 (x2_48 + v_90)) ≤ 1000000000 ∧ Int32.toInt (mnI 1000000000 (x2_48 + v_90)) ≤ Int32.toInt (x2_48 + v_90) ∧ (Int32.toInt (mnI 1000000000 (x2_48 + v_90)) = 1000000000 ∨ Int32.toInt (mnI 1000000000 (x2_48 + v_90)) = Int32.toInt (x2_48 + v_90)) := mn_k (by decide)
                      try have t_162 : Int32.toInt (x5_98 + 1) = Int32.toInt x5_98 + 1 := ti_add rfl (by decide) (by omega) (by omega)
                      exact hk_91 (q_158, x1_94, (mnI 1000000000 (x2_48 + v_90)), x3_49, v_69, (x5_98 + 1)) (show (TC q_158) ∧ (cFr [43, 44] [] q_46 q_158) ∧ ((mnI 1000000000 (x2_48 + v_90)) = (mnI 1000000000 (x2_48 + v_90))) ∧ (x3_49 = x3_49) ∧ (v_69 = v_69) ∧ (1 ≤ Int32.toInt (x5_98 + 1)) ∧ (Int32.toInt (x5_98 + 1) ≤ 7) ∧ (Int32.toInt x3_49 < Int32.toInt x1_94) ∧ (Int32.toInt x1_94 ≤ Int32.toInt (q_46.1 32 14)) ∧ (BL q_158 (Int32.toInt x1_94)) from ⟨hTq_158, (by rw [eq_158]; exact (((cFr.rf : cFr [43, 44] [] q_46 q_46).t a_100 (by decide) (by decide)) : cFr [43, 44] [] q_46 q_93).i (by decide)), rfl, rfl, rfl, by omega, by omega, by omega, by omega, bl_c (n := Int32.toInt x1_94) hB_159 (show Int32.toInt x1_94 ≤ Int32.toInt x1_94 by omega)⟩) (show (7 - Int32.toInt (x5_98 + 1)).toNat < (7 - Int32.toInt x5_98).toNat by omega)
                    · have f_163 : 0 ≤ Int32.toInt (q_93.1 32 105) ∧ Int32.toInt (q_93.1 32 105) ≤ 46080 := rg_32_105 a_99
                      have w_164 : Int32.toInt (q_93.1 32 105) = Int32.toInt (q_46.1 32 105) := by rw [a_100.1 32 105 (by decide) (by decide)]
                      refine dOk_G (dg_ok (show 0 ≤ Int32.toInt x1_94 by omega) (show Int32.toInt x1_94 < ((Int32.toNatClampNeg (q_93.1 32 105) : Nat) : Int) by rw [cl_eq (show 0 ≤ Int32.toInt (q_93.1 32 105) by omega)]; omega)) ?_
                      have n_165 : ((Int32.toNatClampNeg x1_94 : Nat) : Int) = Int32.toInt x1_94 := cl_eq (by omega)
                      refine dOk_L (fun q_166 eq_166 => ?_)
                      have hTq_166 : TC q_166 := by rw [eq_166]; exact sa_44 a_99
                      have hFq_166 : cFr [37, 42, 43, 44] [(32, 17), (32, 18)] q q_166 := by rw [eq_166]; exact hFq_93.i (by decide)
                      have hB_167 : BL q_166 (Int32.toInt x1_94 + 1) := by rw [eq_166]; exact bl_p (n := Int32.toInt x1_94) a_108 (show ((Int32.toNatClampNeg x1_94 : Nat) : Int) = Int32.toInt x1_94 by omega) (show 0 ≤ Int32.toInt r_140 by omega) (show Int32.toInt r_140 < Int32.toInt (q_93.1 32 14) by omega)
                      unfold zX3_rowsToOrder_s32_161
                      have f_168 : 0 ≤ Int32.toInt (q_166.1 32 104) ∧ Int32.toInt (q_166.1 32 104) ≤ 46080 := rg_32_104 hTq_166
                      try have w_169 : Int32.toInt (q_166.1 32 104) = Int32.toInt (q_93.1 32 104) := by rw [eq_166, cui_o (by decide)]
                      refine dOk_G (dg_ok (show 0 ≤ Int32.toInt r_140 by omega) (show Int32.toInt r_140 < ((Int32.toNatClampNeg (q_166.1 32 104) : Nat) : Int) by rw [cl_eq (show 0 ≤ Int32.toInt (q_166.1 32 104) by omega)]; omega)) ?_
                      refine dOk_L (fun v_170 ev_170 => ?_)
                      refine dOk_G (dg_ok (show 0 ≤ Int32.toInt v_69 by omega) (show Int32.toInt v_69 < ((Int32.toNatClampNeg (q_166.1 32 104) : Nat) : Int) by rw [cl_eq (show 0 ≤ Int32.toInt (q_166.1 32 104) by omega)]; omega)) ?_
                      refine dOk_L (fun v_171 ev_171 => ?_)
                      refine dOk_G (dg_ok (show 0 ≤ Int32.toInt r_140 by omega) (show Int32.toInt r_140 < ((Int32.toNatClampNeg (q_166.1 32 104) : Nat) : Int) by rw [cl_eq (show 0 ≤ Int32.toInt (q_166.1 32 104) by omega)]; omega)) ?_
                      refine dOk_L (fun q_172 eq_172 => ?_)
                      have hTq_172 : TC q_172 := by rw [eq_172]; exact sa_43 hTq_166
                      have hFq_172 : cFr [37, 42, 43, 44] [(32, 17), (32, 18)] q q_172 := by rw [eq_172]; exact hFq_166.i (by decide)
                      have hB_173 : BL q_172 (Int32.toInt x1_94 + 1) := by rw [eq_172]; exact bl_o hB_167 rfl
                      unfold zX3_rowsToOrder_s32_188
                      try have t_174 : Int32.toInt (x1_94 + 1) = Int32.toInt x1_94 + 1 := ti_add rfl (by decide) (by omega) (by omega)
                      try have t_175 : Int32.toInt (x2_48 + v_90) = Int32.toInt x2_48 + Int32.toInt v_90 := ti_add rfl rfl (by omega) (by omega)
                      have t_176 : Int32.toInt (mnI 1000000000 (x2_48 + v_90)) ≤ 1000000000 ∧ Int32.toInt (mnI 1000000000 (x2_48 + v_90)) ≤ Int32.toInt (x2_48 + v_90) ∧ (Int32.toInt (mnI 1000000000 (x2_48 + v_90)) = 1000000000 ∨ Int32.toInt (mnI 1000000000 (x2_48 + v_90)) = Int32.toInt (x2_48 + v_90)) := mn_k (by decide)
                      try have t_177 : Int32.toInt (x5_98 + 1) = Int32.toInt x5_98 + 1 := ti_add rfl (by decide) (by omega) (by omega)
                      exact hk_91 (q_172, (x1_94 + 1), (mnI 1000000000 (x2_48 + v_90)), x3_49, v_69, (x5_98 + 1)) (show (TC q_172) ∧ (cFr [43, 44] [] q_46 q_172) ∧ ((mnI 1000000000 (x2_48 + v_90)) = (mnI 1000000000 (x2_48 + v_90))) ∧ (x3_49 = x3_49) ∧ (v_69 = v_69) ∧ (1 ≤ Int32.toInt (x5_98 + 1)) ∧ (Int32.toInt (x5_98 + 1) ≤ 7) ∧ (Int32.toInt x3_49 < Int32.toInt (x1_94 + 1)) ∧ (Int32.toInt (x1_94 + 1) ≤ Int32.toInt (q_46.1 32 14)) ∧ (BL q_172 (Int32.toInt (x1_94 + 1))) from ⟨hTq_172, (by rw [eq_172]; exact ((by rw [eq_166]; exact (((cFr.rf : cFr [43, 44] [] q_46 q_46).t a_100 (by decide) (by decide)) : cFr [43, 44] [] q_46 q_93).i (by decide)) : cFr [43, 44] [] q_46 q_166).i (by decide)), rfl, rfl, rfl, by omega, by omega, by omega, by omega, bl_c (n := Int32.toInt x1_94 + 1) hB_173 (show Int32.toInt (x1_94 + 1) ≤ Int32.toInt x1_94 + 1 by omega)⟩) (show (7 - Int32.toInt (x5_98 + 1)).toNat < (7 - Int32.toInt x5_98).toNat by omega)
                  · unfold zX3_rowsToOrder_s32_161
                    refine dOk_G (dg_ok (show 0 ≤ Int32.toInt r_140 by omega) (show Int32.toInt r_140 < ((Int32.toNatClampNeg (q_93.1 32 104) : Nat) : Int) by rw [cl_eq (show 0 ≤ Int32.toInt (q_93.1 32 104) by omega)]; omega)) ?_
                    refine dOk_L (fun v_178 ev_178 => ?_)
                    have w_179 : Int32.toInt v_178 = Int32.toInt v_149 := by rw [ev_178, ev_149]
                    refine dOk_G (dg_ok (show 0 ≤ Int32.toInt v_69 by omega) (show Int32.toInt v_69 < ((Int32.toNatClampNeg (q_93.1 32 104) : Nat) : Int) by rw [cl_eq (show 0 ≤ Int32.toInt (q_93.1 32 104) by omega)]; omega)) ?_
                    refine dOk_L (fun v_180 ev_180 => ?_)
                    refine dOk_G (dg_ok (show 0 ≤ Int32.toInt r_140 by omega) (show Int32.toInt r_140 < ((Int32.toNatClampNeg (q_93.1 32 104) : Nat) : Int) by rw [cl_eq (show 0 ≤ Int32.toInt (q_93.1 32 104) by omega)]; omega)) ?_
                    refine dOk_L (fun q_181 eq_181 => ?_)
                    have hTq_181 : TC q_181 := by rw [eq_181]; exact sa_43 a_99
                    have hFq_181 : cFr [37, 42, 43, 44] [(32, 17), (32, 18)] q q_181 := by rw [eq_181]; exact hFq_93.i (by decide)
                    have hB_182 : BL q_181 (Int32.toInt x1_94) := by rw [eq_181]; exact bl_o a_108 rfl
                    unfold zX3_rowsToOrder_s32_188
                    try have t_183 : Int32.toInt (x2_48 + v_90) = Int32.toInt x2_48 + Int32.toInt v_90 := ti_add rfl rfl (by omega) (by omega)
                    have t_184 : Int32.toInt (mnI 1000000000 (x2_48 + v_90)) ≤ 1000000000 ∧ Int32.toInt (mnI 1000000000 (x2_48 + v_90)) ≤ Int32.toInt (x2_48 + v_90) ∧ (Int32.toInt (mnI 1000000000 (x2_48 + v_90)) = 1000000000 ∨ Int32.toInt (mnI 1000000000 (x2_48 + v_90)) = Int32.toInt (x2_48 + v_90)) := mn_k (by decide)
                    try have t_185 : Int32.toInt (x5_98 + 1) = Int32.toInt x5_98 + 1 := ti_add rfl (by decide) (by omega) (by omega)
                    exact hk_91 (q_181, x1_94, (mnI 1000000000 (x2_48 + v_90)), x3_49, v_69, (x5_98 + 1)) (show (TC q_181) ∧ (cFr [43, 44] [] q_46 q_181) ∧ ((mnI 1000000000 (x2_48 + v_90)) = (mnI 1000000000 (x2_48 + v_90))) ∧ (x3_49 = x3_49) ∧ (v_69 = v_69) ∧ (1 ≤ Int32.toInt (x5_98 + 1)) ∧ (Int32.toInt (x5_98 + 1) ≤ 7) ∧ (Int32.toInt x3_49 < Int32.toInt x1_94) ∧ (Int32.toInt x1_94 ≤ Int32.toInt (q_46.1 32 14)) ∧ (BL q_181 (Int32.toInt x1_94)) from ⟨hTq_181, (by rw [eq_181]; exact (((cFr.rf : cFr [43, 44] [] q_46 q_46).t a_100 (by decide) (by decide)) : cFr [43, 44] [] q_46 q_93).i (by decide)), rfl, rfl, rfl, by omega, by omega, by omega, by omega, bl_c (n := Int32.toInt x1_94) hB_182 (show Int32.toInt x1_94 ≤ Int32.toInt x1_94 by omega)⟩) (show (7 - Int32.toInt (x5_98 + 1)).toNat < (7 - Int32.toInt x5_98).toNat by omega)
            · try have t_186 : Int32.toInt (x2_48 + v_90) = Int32.toInt x2_48 + Int32.toInt v_90 := ti_add rfl rfl (by omega) (by omega)
              have t_187 : Int32.toInt (mnI 1000000000 (x2_48 + v_90)) ≤ 1000000000 ∧ Int32.toInt (mnI 1000000000 (x2_48 + v_90)) ≤ Int32.toInt (x2_48 + v_90) ∧ (Int32.toInt (mnI 1000000000 (x2_48 + v_90)) = 1000000000 ∨ Int32.toInt (mnI 1000000000 (x2_48 + v_90)) = Int32.toInt (x2_48 + v_90)) := mn_k (by decide)
              exact (show (TC q_46) ∧ (cFr [43, 44] [] q_46 q_46) ∧ ((mnI 1000000000 (x2_48 + v_90)) = (mnI 1000000000 (x2_48 + v_90))) ∧ (x3_49 = x3_49) ∧ (v_69 = v_69) ∧ (1 ≤ (1 : Int)) ∧ ((1 : Int) ≤ 7) ∧ (Int32.toInt x3_49 < Int32.toInt x1_47) ∧ (Int32.toInt x1_47 ≤ Int32.toInt (q_46.1 32 14)) ∧ (BL q_46 (Int32.toInt x1_47)) from ⟨a_50, cFr.rf, rfl, rfl, rfl, by omega, by omega, by omega, by omega, bl_c (n := Int32.toInt x1_47) a_55 (show Int32.toInt x1_47 ≤ Int32.toInt x1_47 by omega)⟩)
            · try have t_188 : Int32.toInt (x2_48 + v_90) = Int32.toInt x2_48 + Int32.toInt v_90 := ti_add rfl rfl (by omega) (by omega)
              have t_189 : Int32.toInt (mnI 1000000000 (x2_48 + v_90)) ≤ 1000000000 ∧ Int32.toInt (mnI 1000000000 (x2_48 + v_90)) ≤ Int32.toInt (x2_48 + v_90) ∧ (Int32.toInt (mnI 1000000000 (x2_48 + v_90)) = 1000000000 ∨ Int32.toInt (mnI 1000000000 (x2_48 + v_90)) = Int32.toInt (x2_48 + v_90)) := mn_k (by decide)
              show (7 - (1 : Int)).toNat < 1000000000000
              omega
          · unfold zX3_rowsToOrder_s32_99
            unfold zX3_rowsToOrder_s32_102
            refine dFix_ok (fun (a : dK × Int32 × Int32 × Int32 × Int32 × Int32) => (TC a.1) ∧ (cFr [43, 44] [] q_46 a.1) ∧ (a.2.2.1 = x2_48) ∧ (a.2.2.2.1 = x3_49) ∧ (a.2.2.2.2.1 = v_69) ∧ (1 ≤ Int32.toInt a.2.2.2.2.2) ∧ (Int32.toInt a.2.2.2.2.2 ≤ 7) ∧ (Int32.toInt a.2.2.2.1 < Int32.toInt a.2.1) ∧ (Int32.toInt a.2.1 ≤ Int32.toInt (q_46.1 32 14)) ∧ (BL a.1 (Int32.toInt a.2.1))) (fun (a : dK × Int32 × Int32 × Int32 × Int32 × Int32) => (7 - Int32.toInt a.2.2.2.2.2).toNat) ?_ _ ?_ _ (dF_gt ?_)
            · intro a ha k_191 hk_190
              obtain ⟨q_192, x1_193, x2_194, x3_195, x4_196, x5_197⟩ := a
              replace ha : (TC q_192) ∧ (cFr [43, 44] [] q_46 q_192) ∧ (x2_194 = x2_48) ∧ (x3_195 = x3_49) ∧ (x4_196 = v_69) ∧ (1 ≤ Int32.toInt x5_197) ∧ (Int32.toInt x5_197 ≤ 7) ∧ (Int32.toInt x3_195 < Int32.toInt x1_193) ∧ (Int32.toInt x1_193 ≤ Int32.toInt (q_46.1 32 14)) ∧ (BL q_192 (Int32.toInt x1_193)) := ha
              obtain ⟨a_198, a_199, a_200, a_201, a_202, a_203, a_204, a_205, a_206, a_207⟩ := ha
              show dOk (zX3_rowsToOrder_s32_102b _ (fun q x1 x2 x3 x4 x5 => k_191 (q, x1, x2, x3, x4, x5)) q_192 x1_193 x2_194 x3_195 x4_196 x5_197) _
              unfold zX3_rowsToOrder_s32_102b
              have hFq_192 : cFr [37, 42, 43, 44] [(32, 17), (32, 18)] q q_192 := hFq_46.t a_199 (by decide) (by decide)
              subst x2_194
              subst x3_195
              subst x4_196
              have f_208 : 0 ≤ Int32.toInt (q_192.1 32 13) ∧ Int32.toInt (q_192.1 32 13) ≤ 6 := rg_32_13 a_198
              have f_209 : 0 ≤ Int32.toInt (q_46.1 32 13) ∧ Int32.toInt (q_46.1 32 13) ≤ 6 := rg_32_13 a_50
              have f_210 : 0 ≤ Int32.toInt (q_33.1 32 13) ∧ Int32.toInt (q_33.1 32 13) ≤ 6 := rg_32_13 hTq_33
              have f_211 : 0 ≤ Int32.toInt (q_25.1 32 13) ∧ Int32.toInt (q_25.1 32 13) ≤ 6 := rg_32_13 hTq_25
              have f_212 : 0 ≤ Int32.toInt (q_16.1 32 13) ∧ Int32.toInt (q_16.1 32 13) ≤ 6 := rg_32_13 hTq_16
              have f_213 : 0 ≤ Int32.toInt (q_1.1 32 13) ∧ Int32.toInt (q_1.1 32 13) ≤ 6 := rg_32_13 i_3
              have f_214 : 0 ≤ Int32.toInt (q.1 32 13) ∧ Int32.toInt (q.1 32 13) ≤ 6 := rg_32_13 hT
              have w_215 : Int32.toInt (q_1.1 32 13) = Int32.toInt (q.1 32 13) := by rw [i_4.1 32 13 (by decide) (by decide)]
              have w_216 : Int32.toInt (q_16.1 32 13) = Int32.toInt (q_1.1 32 13) := by rw [eq_16]; rfl
              try have w_217 : Int32.toInt (q_25.1 32 13) = Int32.toInt (q_16.1 32 13) := by rw [eq_25, cui_o (by decide)]
              have w_218 : Int32.toInt (q_33.1 32 13) = Int32.toInt (q_25.1 32 13) := by rw [eq_33, cui_o (by decide)]
              have w_219 : Int32.toInt (q_46.1 32 13) = Int32.toInt (q_33.1 32 13) := by rw [a_51.1 32 13 (by decide) (by decide)]
              have w_220 : Int32.toInt (q_192.1 32 13) = Int32.toInt (q_46.1 32 13) := by rw [a_199.1 32 13 (by decide) (by decide)]
              refine dOk_lt (A := Int32.toInt (q_192.1 32 13)) (B := Int32.toInt x5_197) rfl rfl (fun c_221 => ?_) (fun c_222 => ?_)
              · try have t_223 : Int32.toInt (x3_49 + 1) = Int32.toInt x3_49 + 1 := ti_add rfl (by decide) (by omega) (by omega)
                exact hk_44 (q_192, x1_193, x2_48, (x3_49 + 1)) (show (TC q_192) ∧ (cFr [43, 44] [] q_33 q_192) ∧ (0 ≤ Int32.toInt (x3_49 + 1)) ∧ (Int32.toInt (x3_49 + 1) ≤ Int32.toInt x1_193) ∧ (Int32.toInt x1_193 ≤ Int32.toInt (q_33.1 32 14)) ∧ (BL q_192 (Int32.toInt x1_193)) from ⟨a_198, ((((cFr.rf : cFr [43, 44] [] q_33 q_33).t a_51 (by decide) (by decide)) : cFr [43, 44] [] q_33 q_46).t a_199 (by decide) (by decide)), by omega, by omega, by omega, bl_c (n := Int32.toInt x1_193) a_207 (show Int32.toInt x1_193 ≤ Int32.toInt x1_193 by omega)⟩) (show (Int32.toInt (q_33.1 32 14) - Int32.toInt (x3_49 + 1)).toNat < (Int32.toInt (q_33.1 32 14) - Int32.toInt x3_49).toNat by omega)
              · have f_224 : 0 ≤ Int32.toInt (q_192.1 32 14) ∧ Int32.toInt (q_192.1 32 14) ≤ 46080 := rg_32_14 a_198
                have w_225 : Int32.toInt (q_192.1 32 14) = Int32.toInt (q_46.1 32 14) := by rw [a_199.1 32 14 (by decide) (by decide)]
                refine dOk_B (ok_X3_isCloser_s32 q_192 v_69 x5_197 a_198 (ld_fr hp0 hFq_192 rfl) (show 0 ≤ Int32.toInt v_69 by omega) (show Int32.toInt v_69 < Int32.toInt (q_192.1 32 14) by omega) (show 1 ≤ Int32.toInt x5_197 by omega) (show Int32.toInt x5_197 ≤ Int32.toInt (q_192.1 32 13) by omega)) (fun r_226 q_227 h_228 => ?_)
                replace h_228 : (q_227 = q_192) ∧ ((Int32.toInt r_226 = 0 ∨ Int32.toInt r_226 = 1)) := h_228
                obtain ⟨i_229, i_230⟩ := h_228
                subst q_227
                refine dOk_eq (A := Int32.toInt r_226) (B := 0) rfl (by decide) (fun c_231z c_231 => ?_) (fun c_232z c_232 => ?_)
                · unfold zX3_rowsToOrder_s32_188
                  try have t_234 : Int32.toInt (x5_197 + 1) = Int32.toInt x5_197 + 1 := ti_add rfl (by decide) (by omega) (by omega)
                  exact hk_190 (q_192, x1_193, x2_48, x3_49, v_69, (x5_197 + 1)) (show (TC q_192) ∧ (cFr [43, 44] [] q_46 q_192) ∧ (x2_48 = x2_48) ∧ (x3_49 = x3_49) ∧ (v_69 = v_69) ∧ (1 ≤ Int32.toInt (x5_197 + 1)) ∧ (Int32.toInt (x5_197 + 1) ≤ 7) ∧ (Int32.toInt x3_49 < Int32.toInt x1_193) ∧ (Int32.toInt x1_193 ≤ Int32.toInt (q_46.1 32 14)) ∧ (BL q_192 (Int32.toInt x1_193)) from ⟨a_198, ((cFr.rf : cFr [43, 44] [] q_46 q_46).t a_199 (by decide) (by decide)), rfl, rfl, rfl, by omega, by omega, by omega, by omega, bl_c (n := Int32.toInt x1_193) a_207 (show Int32.toInt x1_193 ≤ Int32.toInt x1_193 by omega)⟩) (show (7 - Int32.toInt (x5_197 + 1)).toNat < (7 - Int32.toInt x5_197).toNat by omega)
                · refine dOk_B (ok_X3_turned_s32 q_192 v_69 x5_197 a_198 (ld_fr hp0 hFq_192 rfl) (show 0 ≤ Int32.toInt v_69 by omega) (show Int32.toInt v_69 < Int32.toInt (q_192.1 32 14) by omega)) (fun r_235 q_236 h_237 => ?_)
                  replace h_237 : (q_236 = q_192) ∧ (0 ≤ Int32.toInt r_235) ∧ (Int32.toInt r_235 < Int32.toInt (q_192.1 32 14)) := h_237
                  obtain ⟨i_238, i_239, i_240⟩ := h_237
                  subst q_236
                  have f_241 : 0 ≤ Int32.toInt (q_192.1 32 104) ∧ Int32.toInt (q_192.1 32 104) ≤ 46080 := rg_32_104 a_198
                  have f_242 : 0 ≤ Int32.toInt (q_46.1 32 104) ∧ Int32.toInt (q_46.1 32 104) ≤ 46080 := rg_32_104 a_50
                  have f_243 : 0 ≤ Int32.toInt (q_33.1 32 104) ∧ Int32.toInt (q_33.1 32 104) ≤ 46080 := rg_32_104 hTq_33
                  have f_244 : 0 ≤ Int32.toInt (q_25.1 32 104) ∧ Int32.toInt (q_25.1 32 104) ≤ 46080 := rg_32_104 hTq_25
                  try have w_245 : Int32.toInt (q_25.1 32 104) = Int32.toInt (q_16.1 32 104) := by rw [eq_25, cui_o (by decide)]
                  have w_246 : Int32.toInt (q_33.1 32 104) = Int32.toInt (q_25.1 32 104) := by rw [eq_33, cui_o (by decide)]
                  have w_247 : Int32.toInt (q_46.1 32 104) = Int32.toInt (q_33.1 32 104) := by rw [a_51.1 32 104 (by decide) (by decide)]
                  have w_248 : Int32.toInt (q_192.1 32 104) = Int32.toInt (q_46.1 32 104) := by rw [a_199.1 32 104 (by decide) (by decide)]
                  refine dOk_G (dg_ok (show 0 ≤ Int32.toInt r_235 by omega) (show Int32.toInt r_235 < ((Int32.toNatClampNeg (q_192.1 32 104) : Nat) : Int) by rw [cl_eq (show 0 ≤ Int32.toInt (q_192.1 32 104) by omega)]; omega)) ?_
                  have n_249 : ((Int32.toNatClampNeg r_235 : Nat) : Int) = Int32.toInt r_235 := cl_eq (by omega)
                  refine dOk_L (fun v_250 ev_250 => ?_)
                  refine dOk_eq (A := Int32.toInt v_250) (B := 0) rfl (by decide) (fun c_251z c_251 => ?_) (fun c_252z c_252 => ?_)
                  · refine dOk_le (A := Int32.toInt (q_192.1 32 14)) (B := Int32.toInt x1_193) rfl rfl (fun c_254 => ?_) (fun c_255 => ?_)
                    · unfold zX3_rowsToOrder_s32_161
                      refine dOk_G (dg_ok (show 0 ≤ Int32.toInt r_235 by omega) (show Int32.toInt r_235 < ((Int32.toNatClampNeg (q_192.1 32 104) : Nat) : Int) by rw [cl_eq (show 0 ≤ Int32.toInt (q_192.1 32 104) by omega)]; omega)) ?_
                      refine dOk_L (fun v_256 ev_256 => ?_)
                      have w_257 : Int32.toInt v_256 = Int32.toInt v_250 := by rw [ev_256, ev_250]
                      refine dOk_G (dg_ok (show 0 ≤ Int32.toInt v_69 by omega) (show Int32.toInt v_69 < ((Int32.toNatClampNeg (q_192.1 32 104) : Nat) : Int) by rw [cl_eq (show 0 ≤ Int32.toInt (q_192.1 32 104) by omega)]; omega)) ?_
                      refine dOk_L (fun v_258 ev_258 => ?_)
                      refine dOk_G (dg_ok (show 0 ≤ Int32.toInt r_235 by omega) (show Int32.toInt r_235 < ((Int32.toNatClampNeg (q_192.1 32 104) : Nat) : Int) by rw [cl_eq (show 0 ≤ Int32.toInt (q_192.1 32 104) by omega)]; omega)) ?_
                      refine dOk_L (fun q_259 eq_259 => ?_)
                      have hTq_259 : TC q_259 := by rw [eq_259]; exact sa_43 a_198
                      have hFq_259 : cFr [37, 42, 43, 44] [(32, 17), (32, 18)] q q_259 := by rw [eq_259]; exact hFq_192.i (by decide)
                      have hB_260 : BL q_259 (Int32.toInt x1_193) := by rw [eq_259]; exact bl_o a_207 rfl
                      unfold zX3_rowsToOrder_s32_188
                      try have t_261 : Int32.toInt (x5_197 + 1) = Int32.toInt x5_197 + 1 := ti_add rfl (by decide) (by omega) (by omega)
                      exact hk_190 (q_259, x1_193, x2_48, x3_49, v_69, (x5_197 + 1)) (show (TC q_259) ∧ (cFr [43, 44] [] q_46 q_259) ∧ (x2_48 = x2_48) ∧ (x3_49 = x3_49) ∧ (v_69 = v_69) ∧ (1 ≤ Int32.toInt (x5_197 + 1)) ∧ (Int32.toInt (x5_197 + 1) ≤ 7) ∧ (Int32.toInt x3_49 < Int32.toInt x1_193) ∧ (Int32.toInt x1_193 ≤ Int32.toInt (q_46.1 32 14)) ∧ (BL q_259 (Int32.toInt x1_193)) from ⟨hTq_259, (by rw [eq_259]; exact (((cFr.rf : cFr [43, 44] [] q_46 q_46).t a_199 (by decide) (by decide)) : cFr [43, 44] [] q_46 q_192).i (by decide)), rfl, rfl, rfl, by omega, by omega, by omega, by omega, bl_c (n := Int32.toInt x1_193) hB_260 (show Int32.toInt x1_193 ≤ Int32.toInt x1_193 by omega)⟩) (show (7 - Int32.toInt (x5_197 + 1)).toNat < (7 - Int32.toInt x5_197).toNat by omega)
                    · have f_262 : 0 ≤ Int32.toInt (q_192.1 32 105) ∧ Int32.toInt (q_192.1 32 105) ≤ 46080 := rg_32_105 a_198
                      have w_263 : Int32.toInt (q_192.1 32 105) = Int32.toInt (q_46.1 32 105) := by rw [a_199.1 32 105 (by decide) (by decide)]
                      refine dOk_G (dg_ok (show 0 ≤ Int32.toInt x1_193 by omega) (show Int32.toInt x1_193 < ((Int32.toNatClampNeg (q_192.1 32 105) : Nat) : Int) by rw [cl_eq (show 0 ≤ Int32.toInt (q_192.1 32 105) by omega)]; omega)) ?_
                      have n_264 : ((Int32.toNatClampNeg x1_193 : Nat) : Int) = Int32.toInt x1_193 := cl_eq (by omega)
                      refine dOk_L (fun q_265 eq_265 => ?_)
                      have hTq_265 : TC q_265 := by rw [eq_265]; exact sa_44 a_198
                      have hFq_265 : cFr [37, 42, 43, 44] [(32, 17), (32, 18)] q q_265 := by rw [eq_265]; exact hFq_192.i (by decide)
                      have hB_266 : BL q_265 (Int32.toInt x1_193 + 1) := by rw [eq_265]; exact bl_p (n := Int32.toInt x1_193) a_207 (show ((Int32.toNatClampNeg x1_193 : Nat) : Int) = Int32.toInt x1_193 by omega) (show 0 ≤ Int32.toInt r_235 by omega) (show Int32.toInt r_235 < Int32.toInt (q_192.1 32 14) by omega)
                      unfold zX3_rowsToOrder_s32_161
                      have f_267 : 0 ≤ Int32.toInt (q_265.1 32 104) ∧ Int32.toInt (q_265.1 32 104) ≤ 46080 := rg_32_104 hTq_265
                      try have w_268 : Int32.toInt (q_265.1 32 104) = Int32.toInt (q_192.1 32 104) := by rw [eq_265, cui_o (by decide)]
                      refine dOk_G (dg_ok (show 0 ≤ Int32.toInt r_235 by omega) (show Int32.toInt r_235 < ((Int32.toNatClampNeg (q_265.1 32 104) : Nat) : Int) by rw [cl_eq (show 0 ≤ Int32.toInt (q_265.1 32 104) by omega)]; omega)) ?_
                      refine dOk_L (fun v_269 ev_269 => ?_)
                      refine dOk_G (dg_ok (show 0 ≤ Int32.toInt v_69 by omega) (show Int32.toInt v_69 < ((Int32.toNatClampNeg (q_265.1 32 104) : Nat) : Int) by rw [cl_eq (show 0 ≤ Int32.toInt (q_265.1 32 104) by omega)]; omega)) ?_
                      refine dOk_L (fun v_270 ev_270 => ?_)
                      refine dOk_G (dg_ok (show 0 ≤ Int32.toInt r_235 by omega) (show Int32.toInt r_235 < ((Int32.toNatClampNeg (q_265.1 32 104) : Nat) : Int) by rw [cl_eq (show 0 ≤ Int32.toInt (q_265.1 32 104) by omega)]; omega)) ?_
                      refine dOk_L (fun q_271 eq_271 => ?_)
                      have hTq_271 : TC q_271 := by rw [eq_271]; exact sa_43 hTq_265
                      have hFq_271 : cFr [37, 42, 43, 44] [(32, 17), (32, 18)] q q_271 := by rw [eq_271]; exact hFq_265.i (by decide)
                      have hB_272 : BL q_271 (Int32.toInt x1_193 + 1) := by rw [eq_271]; exact bl_o hB_266 rfl
                      unfold zX3_rowsToOrder_s32_188
                      try have t_273 : Int32.toInt (x1_193 + 1) = Int32.toInt x1_193 + 1 := ti_add rfl (by decide) (by omega) (by omega)
                      try have t_274 : Int32.toInt (x5_197 + 1) = Int32.toInt x5_197 + 1 := ti_add rfl (by decide) (by omega) (by omega)
                      exact hk_190 (q_271, (x1_193 + 1), x2_48, x3_49, v_69, (x5_197 + 1)) (show (TC q_271) ∧ (cFr [43, 44] [] q_46 q_271) ∧ (x2_48 = x2_48) ∧ (x3_49 = x3_49) ∧ (v_69 = v_69) ∧ (1 ≤ Int32.toInt (x5_197 + 1)) ∧ (Int32.toInt (x5_197 + 1) ≤ 7) ∧ (Int32.toInt x3_49 < Int32.toInt (x1_193 + 1)) ∧ (Int32.toInt (x1_193 + 1) ≤ Int32.toInt (q_46.1 32 14)) ∧ (BL q_271 (Int32.toInt (x1_193 + 1))) from ⟨hTq_271, (by rw [eq_271]; exact ((by rw [eq_265]; exact (((cFr.rf : cFr [43, 44] [] q_46 q_46).t a_199 (by decide) (by decide)) : cFr [43, 44] [] q_46 q_192).i (by decide)) : cFr [43, 44] [] q_46 q_265).i (by decide)), rfl, rfl, rfl, by omega, by omega, by omega, by omega, bl_c (n := Int32.toInt x1_193 + 1) hB_272 (show Int32.toInt (x1_193 + 1) ≤ Int32.toInt x1_193 + 1 by omega)⟩) (show (7 - Int32.toInt (x5_197 + 1)).toNat < (7 - Int32.toInt x5_197).toNat by omega)
                  · unfold zX3_rowsToOrder_s32_161
                    refine dOk_G (dg_ok (show 0 ≤ Int32.toInt r_235 by omega) (show Int32.toInt r_235 < ((Int32.toNatClampNeg (q_192.1 32 104) : Nat) : Int) by rw [cl_eq (show 0 ≤ Int32.toInt (q_192.1 32 104) by omega)]; omega)) ?_
                    refine dOk_L (fun v_275 ev_275 => ?_)
                    have w_276 : Int32.toInt v_275 = Int32.toInt v_250 := by rw [ev_275, ev_250]
                    refine dOk_G (dg_ok (show 0 ≤ Int32.toInt v_69 by omega) (show Int32.toInt v_69 < ((Int32.toNatClampNeg (q_192.1 32 104) : Nat) : Int) by rw [cl_eq (show 0 ≤ Int32.toInt (q_192.1 32 104) by omega)]; omega)) ?_
                    refine dOk_L (fun v_277 ev_277 => ?_)
                    refine dOk_G (dg_ok (show 0 ≤ Int32.toInt r_235 by omega) (show Int32.toInt r_235 < ((Int32.toNatClampNeg (q_192.1 32 104) : Nat) : Int) by rw [cl_eq (show 0 ≤ Int32.toInt (q_192.1 32 104) by omega)]; omega)) ?_
                    refine dOk_L (fun q_278 eq_278 => ?_)
                    have hTq_278 : TC q_278 := by rw [eq_278]; exact sa_43 a_198
                    have hFq_278 : cFr [37, 42, 43, 44] [(32, 17), (32, 18)] q q_278 := by rw [eq_278]; exact hFq_192.i (by decide)
                    have hB_279 : BL q_278 (Int32.toInt x1_193) := by rw [eq_278]; exact bl_o a_207 rfl
                    unfold zX3_rowsToOrder_s32_188
                    try have t_280 : Int32.toInt (x5_197 + 1) = Int32.toInt x5_197 + 1 := ti_add rfl (by decide) (by omega) (by omega)
                    exact hk_190 (q_278, x1_193, x2_48, x3_49, v_69, (x5_197 + 1)) (show (TC q_278) ∧ (cFr [43, 44] [] q_46 q_278) ∧ (x2_48 = x2_48) ∧ (x3_49 = x3_49) ∧ (v_69 = v_69) ∧ (1 ≤ Int32.toInt (x5_197 + 1)) ∧ (Int32.toInt (x5_197 + 1) ≤ 7) ∧ (Int32.toInt x3_49 < Int32.toInt x1_193) ∧ (Int32.toInt x1_193 ≤ Int32.toInt (q_46.1 32 14)) ∧ (BL q_278 (Int32.toInt x1_193)) from ⟨hTq_278, (by rw [eq_278]; exact (((cFr.rf : cFr [43, 44] [] q_46 q_46).t a_199 (by decide) (by decide)) : cFr [43, 44] [] q_46 q_192).i (by decide)), rfl, rfl, rfl, by omega, by omega, by omega, by omega, bl_c (n := Int32.toInt x1_193) hB_279 (show Int32.toInt x1_193 ≤ Int32.toInt x1_193 by omega)⟩) (show (7 - Int32.toInt (x5_197 + 1)).toNat < (7 - Int32.toInt x5_197).toNat by omega)
            · exact (show (TC q_46) ∧ (cFr [43, 44] [] q_46 q_46) ∧ (x2_48 = x2_48) ∧ (x3_49 = x3_49) ∧ (v_69 = v_69) ∧ (1 ≤ (1 : Int)) ∧ ((1 : Int) ≤ 7) ∧ (Int32.toInt x3_49 < Int32.toInt x1_47) ∧ (Int32.toInt x1_47 ≤ Int32.toInt (q_46.1 32 14)) ∧ (BL q_46 (Int32.toInt x1_47)) from ⟨a_50, cFr.rf, rfl, rfl, rfl, by omega, by omega, by omega, by omega, bl_c (n := Int32.toInt x1_47) a_55 (show Int32.toInt x1_47 ≤ Int32.toInt x1_47 by omega)⟩)
            · show (7 - (1 : Int)).toNat < 1000000000000
              omega
    · have f_281 : 0 ≤ Int32.toInt (q_33.1 32 14) ∧ Int32.toInt (q_33.1 32 14) ≤ 46080 := rg_32_14 hTq_33
      have w_282 : Int32.toInt (q_33.1 32 14) = Int32.toInt (q_25.1 32 14) := by rw [eq_33, cui_o (by decide)]
      exact (show (TC q_33) ∧ (cFr [43, 44] [] q_33 q_33) ∧ (0 ≤ (0 : Int)) ∧ ((0 : Int) ≤ (1 : Int)) ∧ ((1 : Int) ≤ Int32.toInt (q_33.1 32 14)) ∧ (BL q_33 ((1 : Int))) from ⟨hTq_33, cFr.rf, by omega, by omega, by omega, bl_c (n := 0 + 1) hB_43 (show (1 : Int) ≤ 0 + 1 by omega)⟩)
    · have f_283 : 0 ≤ Int32.toInt (q_33.1 32 14) ∧ Int32.toInt (q_33.1 32 14) ≤ 46080 := rg_32_14 hTq_33
      have w_284 : Int32.toInt (q_33.1 32 14) = Int32.toInt (q_25.1 32 14) := by rw [eq_33, cui_o (by decide)]
      show (Int32.toInt (q_33.1 32 14) - (0 : Int)).toNat < 1000000000000
      omega
end
section
set_option maxHeartbeats 4000000 in
set_option maxRecDepth 100000 in
theorem ok_X3_worstTowers_s32 (q : dK) (p1 : Int32) (hT : TC q) (hp0 : LD q) : dOk (zX3_worstTowers_s32 q p1) (fun (o : Int32 × dK) => (TC o.2) ∧ (cFr [37, 42, 44] [(32, 17), (32, 18)] q o.2)) := by
  unfold zX3_worstTowers_s32
  have hLs := ld_sz hp0
  refine dOk_V (ok_X3_measure_s32 q hT hp0) (fun q_1 h_2 => ?_)
  replace h_2 : (TC q_1) ∧ (cFr [37, 42, 44] [(32, 17), (32, 18)] q q_1) := h_2
  obtain ⟨i_3, i_4⟩ := h_2
  have hFq_1 : cFr [37, 42, 44] [(32, 17), (32, 18)] q q_1 := (cFr.rf (q := q)).t i_4 (by decide) (by decide)
  unfold zX3_worstTowers_s32_14
  refine dFix_ok (fun (a : dK × Int32 × Int32 × Int32 × Int32 × Int32) => (a.1 = q_1) ∧ (a.2.1 = p1) ∧ (0 ≤ Int32.toInt a.2.2.2.2.2) ∧ (Int32.toInt a.2.2.2.2.2 ≤ Int32.toInt (q_1.1 32 14))) (fun (a : dK × Int32 × Int32 × Int32 × Int32 × Int32) => (Int32.toInt (q_1.1 32 14) - Int32.toInt a.2.2.2.2.2).toNat) ?_ _ ?_ _ (dF_gt ?_)
  · intro a ha k_6 hk_5
    obtain ⟨q_7, x1_8, x2_9, x3_10, x4_11, x5_12⟩ := a
    replace ha : (q_7 = q_1) ∧ (x1_8 = p1) ∧ (0 ≤ Int32.toInt x5_12) ∧ (Int32.toInt x5_12 ≤ Int32.toInt (q_1.1 32 14)) := ha
    obtain ⟨a_13, a_14, a_15, a_16⟩ := ha
    show dOk (zX3_worstTowers_s32_14b  (fun q x1 x2 x3 x4 x5 => k_6 (q, x1, x2, x3, x4, x5)) q_7 x1_8 x2_9 x3_10 x4_11 x5_12) _
    unfold zX3_worstTowers_s32_14b
    subst q_7
    subst x1_8
    have f_17 : 0 ≤ Int32.toInt (q_1.1 32 14) ∧ Int32.toInt (q_1.1 32 14) ≤ 46080 := rg_32_14 i_3
    have f_18 : 0 ≤ Int32.toInt (q.1 32 14) ∧ Int32.toInt (q.1 32 14) ≤ 46080 := rg_32_14 hT
    have w_19 : Int32.toInt (q_1.1 32 14) = Int32.toInt (q.1 32 14) := by rw [i_4.1 32 14 (by decide) (by decide)]
    refine dOk_le (A := Int32.toInt (q_1.1 32 14)) (B := Int32.toInt x5_12) rfl rfl (fun c_20 => ?_) (fun c_21 => ?_)
    · refine dOk_eq (A := Int32.toInt p1) (B := 0) rfl (by decide) (fun c_22z c_22 => ?_) (fun c_23z c_23 => ?_)
      · exact dOk_some (show (TC q_1) ∧ (cFr [37, 42, 44] [(32, 17), (32, 18)] q q_1) from ⟨i_3, hFq_1⟩)
      · refine dOk_eq (A := Int32.toInt p1) (B := 1) rfl (by decide) (fun c_25z c_25 => ?_) (fun c_26z c_26 => ?_)
        · unfold zX3_worstTowers_s32_102
          exact dOk_some (show (TC q_1) ∧ (cFr [37, 42, 44] [(32, 17), (32, 18)] q q_1) from ⟨i_3, hFq_1⟩)
        · unfold zX3_worstTowers_s32_102
          exact dOk_some (show (TC q_1) ∧ (cFr [37, 42, 44] [(32, 17), (32, 18)] q q_1) from ⟨i_3, hFq_1⟩)
    · have f_28 : 0 ≤ Int32.toInt (q_1.1 32 103) ∧ Int32.toInt (q_1.1 32 103) ≤ 46080 := rg_32_103 i_3
      have f_29 : 0 ≤ Int32.toInt (q.1 32 103) ∧ Int32.toInt (q.1 32 103) ≤ 46080 := rg_32_103 hT
      have w_30 : Int32.toInt (q_1.1 32 103) = Int32.toInt (q.1 32 103) := by rw [i_4.1 32 103 (by decide) (by decide)]
      refine dOk_G (dg_ok (show 0 ≤ Int32.toInt x5_12 by omega) (show Int32.toInt x5_12 < ((Int32.toNatClampNeg (q_1.1 32 103) : Nat) : Int) by rw [cl_eq (show 0 ≤ Int32.toInt (q_1.1 32 103) by omega)]; omega)) ?_
      have n_31 : ((Int32.toNatClampNeg x5_12 : Nat) : Int) = Int32.toInt x5_12 := cl_eq (by omega)
      refine dOk_L (fun v_32 ev_32 => ?_)
      refine dOk_le (A := Int32.toInt v_32) (B := Int32.toInt x2_9) rfl rfl (fun c_33 => ?_) (fun c_34 => ?_)
      · unfold zX3_worstTowers_s32_43
        refine dOk_eq (A := Int32.toInt v_32) (B := Int32.toInt x2_9) rfl rfl (fun c_35z c_35 => ?_) (fun c_36z c_36 => ?_)
        · unfold zX3_worstTowers_s32_55
          refine dOk_V (ok_X9_bit 1) (fun r_38 h_39 => ?_)
          replace h_39 : ((Int32.toInt r_38 = 0 ∨ Int32.toInt r_38 = 1)) := h_39
          have i_40 := h_39
          refine dOk_eq (A := Int32.toInt v_32) (B := (-1)) rfl (by decide) (fun c_41z c_41 => ?_) (fun c_42z c_42 => ?_)
          · unfold zX3_worstTowers_s32_73
            refine dOk_V (ok_X9_bit 0) (fun r_44 h_45 => ?_)
            replace h_45 : ((Int32.toInt r_44 = 0 ∨ Int32.toInt r_44 = 1)) := h_45
            have i_46 := h_45
            try have t_47 : Int32.toInt (x3_10 + r_38) = Int32.toInt x3_10 + Int32.toInt r_38 := ti_add rfl rfl (by omega) (by omega)
            try have t_48 : Int32.toInt (x4_11 + r_44) = Int32.toInt x4_11 + Int32.toInt r_44 := ti_add rfl rfl (by omega) (by omega)
            try have t_49 : Int32.toInt (x5_12 + 1) = Int32.toInt x5_12 + 1 := ti_add rfl (by decide) (by omega) (by omega)
            exact hk_5 (q_1, p1, x2_9, (x3_10 + r_38), (x4_11 + r_44), (x5_12 + 1)) (show (q_1 = q_1) ∧ (p1 = p1) ∧ (0 ≤ Int32.toInt (x5_12 + 1)) ∧ (Int32.toInt (x5_12 + 1) ≤ Int32.toInt (q_1.1 32 14)) from ⟨rfl, rfl, by omega, by omega⟩) (show (Int32.toInt (q_1.1 32 14) - Int32.toInt (x5_12 + 1)).toNat < (Int32.toInt (q_1.1 32 14) - Int32.toInt x5_12).toNat by omega)
          · unfold zX3_worstTowers_s32_73
            refine dOk_V (ok_X9_bit 1) (fun r_50 h_51 => ?_)
            replace h_51 : ((Int32.toInt r_50 = 0 ∨ Int32.toInt r_50 = 1)) := h_51
            have i_52 := h_51
            try have t_53 : Int32.toInt (x3_10 + r_38) = Int32.toInt x3_10 + Int32.toInt r_38 := ti_add rfl rfl (by omega) (by omega)
            try have t_54 : Int32.toInt (x4_11 + r_50) = Int32.toInt x4_11 + Int32.toInt r_50 := ti_add rfl rfl (by omega) (by omega)
            try have t_55 : Int32.toInt (x5_12 + 1) = Int32.toInt x5_12 + 1 := ti_add rfl (by decide) (by omega) (by omega)
            exact hk_5 (q_1, p1, x2_9, (x3_10 + r_38), (x4_11 + r_50), (x5_12 + 1)) (show (q_1 = q_1) ∧ (p1 = p1) ∧ (0 ≤ Int32.toInt (x5_12 + 1)) ∧ (Int32.toInt (x5_12 + 1) ≤ Int32.toInt (q_1.1 32 14)) from ⟨rfl, rfl, by omega, by omega⟩) (show (Int32.toInt (q_1.1 32 14) - Int32.toInt (x5_12 + 1)).toNat < (Int32.toInt (q_1.1 32 14) - Int32.toInt x5_12).toNat by omega)
        · unfold zX3_worstTowers_s32_55
          refine dOk_V (ok_X9_bit 0) (fun r_56 h_57 => ?_)
          replace h_57 : ((Int32.toInt r_56 = 0 ∨ Int32.toInt r_56 = 1)) := h_57
          have i_58 := h_57
          refine dOk_eq (A := Int32.toInt v_32) (B := (-1)) rfl (by decide) (fun c_59z c_59 => ?_) (fun c_60z c_60 => ?_)
          · unfold zX3_worstTowers_s32_73
            refine dOk_V (ok_X9_bit 0) (fun r_62 h_63 => ?_)
            replace h_63 : ((Int32.toInt r_62 = 0 ∨ Int32.toInt r_62 = 1)) := h_63
            have i_64 := h_63
            try have t_65 : Int32.toInt (x3_10 + r_56) = Int32.toInt x3_10 + Int32.toInt r_56 := ti_add rfl rfl (by omega) (by omega)
            try have t_66 : Int32.toInt (x4_11 + r_62) = Int32.toInt x4_11 + Int32.toInt r_62 := ti_add rfl rfl (by omega) (by omega)
            try have t_67 : Int32.toInt (x5_12 + 1) = Int32.toInt x5_12 + 1 := ti_add rfl (by decide) (by omega) (by omega)
            exact hk_5 (q_1, p1, x2_9, (x3_10 + r_56), (x4_11 + r_62), (x5_12 + 1)) (show (q_1 = q_1) ∧ (p1 = p1) ∧ (0 ≤ Int32.toInt (x5_12 + 1)) ∧ (Int32.toInt (x5_12 + 1) ≤ Int32.toInt (q_1.1 32 14)) from ⟨rfl, rfl, by omega, by omega⟩) (show (Int32.toInt (q_1.1 32 14) - Int32.toInt (x5_12 + 1)).toNat < (Int32.toInt (q_1.1 32 14) - Int32.toInt x5_12).toNat by omega)
          · unfold zX3_worstTowers_s32_73
            refine dOk_V (ok_X9_bit 1) (fun r_68 h_69 => ?_)
            replace h_69 : ((Int32.toInt r_68 = 0 ∨ Int32.toInt r_68 = 1)) := h_69
            have i_70 := h_69
            try have t_71 : Int32.toInt (x3_10 + r_56) = Int32.toInt x3_10 + Int32.toInt r_56 := ti_add rfl rfl (by omega) (by omega)
            try have t_72 : Int32.toInt (x4_11 + r_68) = Int32.toInt x4_11 + Int32.toInt r_68 := ti_add rfl rfl (by omega) (by omega)
            try have t_73 : Int32.toInt (x5_12 + 1) = Int32.toInt x5_12 + 1 := ti_add rfl (by decide) (by omega) (by omega)
            exact hk_5 (q_1, p1, x2_9, (x3_10 + r_56), (x4_11 + r_68), (x5_12 + 1)) (show (q_1 = q_1) ∧ (p1 = p1) ∧ (0 ≤ Int32.toInt (x5_12 + 1)) ∧ (Int32.toInt (x5_12 + 1) ≤ Int32.toInt (q_1.1 32 14)) from ⟨rfl, rfl, by omega, by omega⟩) (show (Int32.toInt (q_1.1 32 14) - Int32.toInt (x5_12 + 1)).toNat < (Int32.toInt (q_1.1 32 14) - Int32.toInt x5_12).toNat by omega)
      · unfold zX3_worstTowers_s32_43
        refine dOk_eq (A := Int32.toInt v_32) (B := Int32.toInt v_32) rfl rfl (fun c_74z c_74 => ?_) (fun c_75z c_75 => ?_)
        · unfold zX3_worstTowers_s32_55
          refine dOk_V (ok_X9_bit 1) (fun r_77 h_78 => ?_)
          replace h_78 : ((Int32.toInt r_77 = 0 ∨ Int32.toInt r_77 = 1)) := h_78
          have i_79 := h_78
          refine dOk_eq (A := Int32.toInt v_32) (B := (-1)) rfl (by decide) (fun c_80z c_80 => ?_) (fun c_81z c_81 => ?_)
          · unfold zX3_worstTowers_s32_73
            refine dOk_V (ok_X9_bit 0) (fun r_83 h_84 => ?_)
            replace h_84 : ((Int32.toInt r_83 = 0 ∨ Int32.toInt r_83 = 1)) := h_84
            have i_85 := h_84
            try have t_86 : Int32.toInt (0 + r_77) = 0 + Int32.toInt r_77 := ti_add (by decide) rfl (by omega) (by omega)
            try have t_87 : Int32.toInt (x4_11 + r_83) = Int32.toInt x4_11 + Int32.toInt r_83 := ti_add rfl rfl (by omega) (by omega)
            try have t_88 : Int32.toInt (x5_12 + 1) = Int32.toInt x5_12 + 1 := ti_add rfl (by decide) (by omega) (by omega)
            exact hk_5 (q_1, p1, v_32, (0 + r_77), (x4_11 + r_83), (x5_12 + 1)) (show (q_1 = q_1) ∧ (p1 = p1) ∧ (0 ≤ Int32.toInt (x5_12 + 1)) ∧ (Int32.toInt (x5_12 + 1) ≤ Int32.toInt (q_1.1 32 14)) from ⟨rfl, rfl, by omega, by omega⟩) (show (Int32.toInt (q_1.1 32 14) - Int32.toInt (x5_12 + 1)).toNat < (Int32.toInt (q_1.1 32 14) - Int32.toInt x5_12).toNat by omega)
          · unfold zX3_worstTowers_s32_73
            refine dOk_V (ok_X9_bit 1) (fun r_89 h_90 => ?_)
            replace h_90 : ((Int32.toInt r_89 = 0 ∨ Int32.toInt r_89 = 1)) := h_90
            have i_91 := h_90
            try have t_92 : Int32.toInt (0 + r_77) = 0 + Int32.toInt r_77 := ti_add (by decide) rfl (by omega) (by omega)
            try have t_93 : Int32.toInt (x4_11 + r_89) = Int32.toInt x4_11 + Int32.toInt r_89 := ti_add rfl rfl (by omega) (by omega)
            try have t_94 : Int32.toInt (x5_12 + 1) = Int32.toInt x5_12 + 1 := ti_add rfl (by decide) (by omega) (by omega)
            exact hk_5 (q_1, p1, v_32, (0 + r_77), (x4_11 + r_89), (x5_12 + 1)) (show (q_1 = q_1) ∧ (p1 = p1) ∧ (0 ≤ Int32.toInt (x5_12 + 1)) ∧ (Int32.toInt (x5_12 + 1) ≤ Int32.toInt (q_1.1 32 14)) from ⟨rfl, rfl, by omega, by omega⟩) (show (Int32.toInt (q_1.1 32 14) - Int32.toInt (x5_12 + 1)).toNat < (Int32.toInt (q_1.1 32 14) - Int32.toInt x5_12).toNat by omega)
        · unfold zX3_worstTowers_s32_55
          refine dOk_V (ok_X9_bit 0) (fun r_95 h_96 => ?_)
          replace h_96 : ((Int32.toInt r_95 = 0 ∨ Int32.toInt r_95 = 1)) := h_96
          have i_97 := h_96
          refine dOk_eq (A := Int32.toInt v_32) (B := (-1)) rfl (by decide) (fun c_98z c_98 => ?_) (fun c_99z c_99 => ?_)
          · unfold zX3_worstTowers_s32_73
            refine dOk_V (ok_X9_bit 0) (fun r_101 h_102 => ?_)
            replace h_102 : ((Int32.toInt r_101 = 0 ∨ Int32.toInt r_101 = 1)) := h_102
            have i_103 := h_102
            try have t_104 : Int32.toInt (0 + r_95) = 0 + Int32.toInt r_95 := ti_add (by decide) rfl (by omega) (by omega)
            try have t_105 : Int32.toInt (x4_11 + r_101) = Int32.toInt x4_11 + Int32.toInt r_101 := ti_add rfl rfl (by omega) (by omega)
            try have t_106 : Int32.toInt (x5_12 + 1) = Int32.toInt x5_12 + 1 := ti_add rfl (by decide) (by omega) (by omega)
            exact hk_5 (q_1, p1, v_32, (0 + r_95), (x4_11 + r_101), (x5_12 + 1)) (show (q_1 = q_1) ∧ (p1 = p1) ∧ (0 ≤ Int32.toInt (x5_12 + 1)) ∧ (Int32.toInt (x5_12 + 1) ≤ Int32.toInt (q_1.1 32 14)) from ⟨rfl, rfl, by omega, by omega⟩) (show (Int32.toInt (q_1.1 32 14) - Int32.toInt (x5_12 + 1)).toNat < (Int32.toInt (q_1.1 32 14) - Int32.toInt x5_12).toNat by omega)
          · unfold zX3_worstTowers_s32_73
            refine dOk_V (ok_X9_bit 1) (fun r_107 h_108 => ?_)
            replace h_108 : ((Int32.toInt r_107 = 0 ∨ Int32.toInt r_107 = 1)) := h_108
            have i_109 := h_108
            try have t_110 : Int32.toInt (0 + r_95) = 0 + Int32.toInt r_95 := ti_add (by decide) rfl (by omega) (by omega)
            try have t_111 : Int32.toInt (x4_11 + r_107) = Int32.toInt x4_11 + Int32.toInt r_107 := ti_add rfl rfl (by omega) (by omega)
            try have t_112 : Int32.toInt (x5_12 + 1) = Int32.toInt x5_12 + 1 := ti_add rfl (by decide) (by omega) (by omega)
            exact hk_5 (q_1, p1, v_32, (0 + r_95), (x4_11 + r_107), (x5_12 + 1)) (show (q_1 = q_1) ∧ (p1 = p1) ∧ (0 ≤ Int32.toInt (x5_12 + 1)) ∧ (Int32.toInt (x5_12 + 1) ≤ Int32.toInt (q_1.1 32 14)) from ⟨rfl, rfl, by omega, by omega⟩) (show (Int32.toInt (q_1.1 32 14) - Int32.toInt (x5_12 + 1)).toNat < (Int32.toInt (q_1.1 32 14) - Int32.toInt x5_12).toNat by omega)
  · have f_113 : 0 ≤ Int32.toInt (q_1.1 32 14) ∧ Int32.toInt (q_1.1 32 14) ≤ 46080 := rg_32_14 i_3
    have f_114 : 0 ≤ Int32.toInt (q.1 32 14) ∧ Int32.toInt (q.1 32 14) ≤ 46080 := rg_32_14 hT
    have w_115 : Int32.toInt (q_1.1 32 14) = Int32.toInt (q.1 32 14) := by rw [i_4.1 32 14 (by decide) (by decide)]
    exact (show (q_1 = q_1) ∧ (p1 = p1) ∧ (0 ≤ (0 : Int)) ∧ ((0 : Int) ≤ Int32.toInt (q_1.1 32 14)) from ⟨rfl, rfl, by omega, by omega⟩)
  · have f_116 : 0 ≤ Int32.toInt (q_1.1 32 14) ∧ Int32.toInt (q_1.1 32 14) ≤ 46080 := rg_32_14 i_3
    have f_117 : 0 ≤ Int32.toInt (q.1 32 14) ∧ Int32.toInt (q.1 32 14) ≤ 46080 := rg_32_14 hT
    have w_118 : Int32.toInt (q_1.1 32 14) = Int32.toInt (q.1 32 14) := by rw [i_4.1 32 14 (by decide) (by decide)]
    show (Int32.toInt (q_1.1 32 14) - (0 : Int)).toNat < 1000000000000
    omega

set_option maxHeartbeats 4000000 in
set_option maxRecDepth 100000 in
theorem ok_X3_fits_s32 (q : dK) (p1 : Int32) (p2 : Int32) (p3 : Int32) (hT : TC q) (hp0 : LD q) (hp1 : 0 ≤ Int32.toInt p1) (hp2 : Int32.toInt p1 < Int32.toInt (q.1 32 14)) : dOk (zX3_fits_s32 q p1 p2 p3) (fun (o : Int32 × dK) => (o.2 = q) ∧ ((Int32.toInt o.1 = 0 ∨ Int32.toInt o.1 = 1))) := by
  unfold zX3_fits_s32
  have hLs := ld_sz hp0
  refine dOk_eq (A := Int32.toInt p2) (B := 1) rfl (by decide) (fun c_1z c_1 => ?_) (fun c_2z c_2 => ?_)
  · have f_4 : 0 ≤ Int32.toInt (q.1 32 13) ∧ Int32.toInt (q.1 32 13) ≤ 6 := rg_32_13 hT
    have f_5 : 0 ≤ Int32.toInt (q.1 32 14) ∧ Int32.toInt (q.1 32 14) ≤ 46080 := rg_32_14 hT
    have f_6 : 0 ≤ Int32.toInt (q.1 32 100) ∧ Int32.toInt (q.1 32 100) ≤ 46080 := rg_32_100 hT
    try have t_7 := ld_o (t := p1) hp0 (by omega) (by omega)
    try have t_8 := ti_shr (x := p1) (s := q.1 32 13) (by omega)
    refine dOk_eq (A := Int32.toInt (p1 >>> ((q.1 32 13 : Int32) &&& 31))) (B := Int32.toInt p3) rfl rfl (fun c_9z c_9 => ?_) (fun c_10z c_10 => ?_)
    · unfold zX3_fits_s32_24
      refine dOk_G (dbl_ok (show (1 : Int) = 0 ∨ (1 : Int) = 1 by omega)) ?_
      exact dOk_some (show (q = q) ∧ (((1 : Int) = 0 ∨ (1 : Int) = 1)) from ⟨rfl, by omega⟩)
    · unfold zX3_fits_s32_24
      refine dOk_G (dbl_ok (show (0 : Int) = 0 ∨ (0 : Int) = 1 by omega)) ?_
      exact dOk_some (show (q = q) ∧ (((0 : Int) = 0 ∨ (0 : Int) = 1)) from ⟨rfl, by omega⟩)
  · refine dOk_eq (A := Int32.toInt p2) (B := 2) rfl (by decide) (fun c_12z c_12 => ?_) (fun c_13z c_13 => ?_)
    · have f_15 : 0 ≤ Int32.toInt (q.1 32 13) ∧ Int32.toInt (q.1 32 13) ≤ 6 := rg_32_13 hT
      have f_16 : 0 ≤ Int32.toInt (q.1 32 14) ∧ Int32.toInt (q.1 32 14) ≤ 46080 := rg_32_14 hT
      have f_17 : 0 ≤ Int32.toInt (q.1 32 100) ∧ Int32.toInt (q.1 32 100) ≤ 46080 := rg_32_100 hT
      try have t_18 := ld_o (t := p1) hp0 (by omega) (by omega)
      try have t_19 := ti_shr (x := p1) (s := q.1 32 13) (by omega)
      refine dOk_G (dg_ok (show 0 ≤ Int32.toInt (p1 >>> ((q.1 32 13 : Int32) &&& 31)) by omega) (show Int32.toInt (p1 >>> ((q.1 32 13 : Int32) &&& 31)) < ((Int32.toNatClampNeg (q.1 32 100) : Nat) : Int) by rw [cl_eq (show 0 ≤ Int32.toInt (q.1 32 100) by omega)]; omega)) ?_
      have n_20 : ((Int32.toNatClampNeg (p1 >>> ((q.1 32 13 : Int32) &&& 31)) : Nat) : Int) = Int32.toInt (p1 >>> ((q.1 32 13 : Int32) &&& 31)) := cl_eq (by omega)
      refine dOk_L (fun v_21 ev_21 => ?_)
      refine dOk_eq (A := Int32.toInt (v_21 &&& 7)) (B := Int32.toInt p3) rfl rfl (fun c_22z c_22 => ?_) (fun c_23z c_23 => ?_)
      · unfold zX3_fits_s32_49
        refine dOk_G (dbl_ok (show (1 : Int) = 0 ∨ (1 : Int) = 1 by omega)) ?_
        exact dOk_some (show (q = q) ∧ (((1 : Int) = 0 ∨ (1 : Int) = 1)) from ⟨rfl, by omega⟩)
      · unfold zX3_fits_s32_48
        unfold zX3_fits_s32_49
        refine dOk_G (dbl_ok (show (0 : Int) = 0 ∨ (0 : Int) = 1 by omega)) ?_
        exact dOk_some (show (q = q) ∧ (((0 : Int) = 0 ∨ (0 : Int) = 1)) from ⟨rfl, by omega⟩)
    · unfold zX3_fits_s32_48
      unfold zX3_fits_s32_49
      refine dOk_G (dbl_ok (show (0 : Int) = 0 ∨ (0 : Int) = 1 by omega)) ?_
      exact dOk_some (show (q = q) ∧ (((0 : Int) = 0 ∨ (0 : Int) = 1)) from ⟨rfl, by omega⟩)
end
section
set_option maxHeartbeats 4000000 in
set_option maxRecDepth 100000 in
theorem ok_X3_nearest_s32 (q : dK) (p1 : Int32) (p2 : Int32) (hT : TC q) (hp0 : LD q) (hp1 : 0 ≤ Int32.toInt (q.1 32 15)) (hp2 : Int32.toInt (q.1 32 15) < Int32.toInt (q.1 32 14)) : dOk (zX3_nearest_s32 q p1 p2) (fun (o : Int32 × dK) => (TC o.2) ∧ (cFr [43, 44] [(32, 19)] q o.2)) := by
  unfold zX3_nearest_s32
  have hLs := ld_sz hp0
  refine dOk_L (fun q_1 eq_1 => ?_)
  have hTq_1 : TC q_1 := by rw [eq_1]; exact tc_cfi hT (by decide)
  have hFq_1 : cFr [43, 44] [(32, 19)] q q_1 := by rw [eq_1]; exact (cFr.rf (q := q)).g (by decide)
  have f_2 : 0 ≤ Int32.toInt (q_1.1 32 15) ∧ Int32.toInt (q_1.1 32 15) ≤ 46079 := rg_32_15 hTq_1
  have f_3 : 0 ≤ Int32.toInt (q.1 32 15) ∧ Int32.toInt (q.1 32 15) ≤ 46079 := rg_32_15 hT
  have w_4 : Int32.toInt (q_1.1 32 15) = Int32.toInt (q.1 32 15) := by rw [eq_1]; rfl
  have f_5 : 0 ≤ Int32.toInt (q_1.1 32 104) ∧ Int32.toInt (q_1.1 32 104) ≤ 46080 := rg_32_104 hTq_1
  have f_6 : 0 ≤ Int32.toInt (q.1 32 104) ∧ Int32.toInt (q.1 32 104) ≤ 46080 := rg_32_104 hT
  have w_7 : Int32.toInt (q_1.1 32 104) = Int32.toInt (q.1 32 104) := by rw [eq_1]; rfl
  refine dOk_G (dg_ok (show 0 ≤ Int32.toInt (q_1.1 32 15) by omega) (show Int32.toInt (q_1.1 32 15) < ((Int32.toNatClampNeg (q_1.1 32 104) : Nat) : Int) by rw [cl_eq (show 0 ≤ Int32.toInt (q_1.1 32 104) by omega)]; omega)) ?_
  have n_8 : ((Int32.toNatClampNeg (q_1.1 32 15) : Nat) : Int) = Int32.toInt (q_1.1 32 15) := cl_eq (by omega)
  refine dOk_L (fun q_9 eq_9 => ?_)
  have hTq_9 : TC q_9 := by rw [eq_9]; exact sa_43 hTq_1
  have hFq_9 : cFr [43, 44] [(32, 19)] q q_9 := by rw [eq_9]; exact hFq_1.i (by decide)
  have f_10 : 0 ≤ Int32.toInt (q_9.1 32 105) ∧ Int32.toInt (q_9.1 32 105) ≤ 46080 := rg_32_105 hTq_9
  have f_11 : 0 ≤ Int32.toInt (q_1.1 32 105) ∧ Int32.toInt (q_1.1 32 105) ≤ 46080 := rg_32_105 hTq_1
  have f_12 : 0 ≤ Int32.toInt (q.1 32 105) ∧ Int32.toInt (q.1 32 105) ≤ 46080 := rg_32_105 hT
  have w_13 : Int32.toInt (q_1.1 32 105) = Int32.toInt (q.1 32 105) := by rw [eq_1]; rfl
  try have w_14 : Int32.toInt (q_9.1 32 105) = Int32.toInt (q_1.1 32 105) := by rw [eq_9, cui_o (by decide)]
  refine dOk_G (dg_ok (show 0 ≤ (0 : Int) by omega) (show (0 : Int) < ((Int32.toNatClampNeg (q_9.1 32 105) : Nat) : Int) by rw [cl_eq (show 0 ≤ Int32.toInt (q_9.1 32 105) by omega)]; omega)) ?_
  refine dOk_L (fun q_15 eq_15 => ?_)
  have hTq_15 : TC q_15 := by rw [eq_15]; exact sa_44 hTq_9
  have hFq_15 : cFr [43, 44] [(32, 19)] q q_15 := by rw [eq_15]; exact hFq_9.i (by decide)
  have f_16 : 0 ≤ Int32.toInt (q_9.1 32 15) ∧ Int32.toInt (q_9.1 32 15) ≤ 46079 := rg_32_15 hTq_9
  try have w_17 : Int32.toInt (q_9.1 32 15) = Int32.toInt (q_1.1 32 15) := by rw [eq_9, cui_o (by decide)]
  have f_18 : 0 ≤ Int32.toInt (q_9.1 32 14) ∧ Int32.toInt (q_9.1 32 14) ≤ 46080 := rg_32_14 hTq_9
  have f_19 : 0 ≤ Int32.toInt (q_1.1 32 14) ∧ Int32.toInt (q_1.1 32 14) ≤ 46080 := rg_32_14 hTq_1
  have f_20 : 0 ≤ Int32.toInt (q.1 32 14) ∧ Int32.toInt (q.1 32 14) ≤ 46080 := rg_32_14 hT
  have w_21 : Int32.toInt (q_1.1 32 14) = Int32.toInt (q.1 32 14) := by rw [eq_1]; rfl
  try have w_22 : Int32.toInt (q_9.1 32 14) = Int32.toInt (q_1.1 32 14) := by rw [eq_9, cui_o (by decide)]
  have hB_23 : BL q_15 (0 + 1) := by rw [eq_15]; exact bl_p (n := 0) bl_0 (show ((0 : Nat) : Int) = 0 by omega) (show 0 ≤ Int32.toInt (q_9.1 32 15) by omega) (show Int32.toInt (q_9.1 32 15) < Int32.toInt (q_9.1 32 14) by omega)
  refine dOk_L (fun q_24 eq_24 => ?_)
  have hTq_24 : TC q_24 := by rw [eq_24]; exact sa_32_19 hTq_15
  have hFq_24 : cFr [43, 44] [(32, 19)] q q_24 := by rw [eq_24]; exact hFq_15.f (by decide)
  have hB_25 : BL q_24 (0 + 1) := by rw [eq_24]; exact bl_o hB_23 rfl
  unfold zX3_nearest_s32_35
  refine dFix_ok (fun (a : dK × Int32 × Int32 × Int32) => (TC a.1) ∧ (cFr [43, 44] [(32, 19)] q_24 a.1) ∧ (a.2.1 = p1) ∧ (a.2.2.1 = p2) ∧ (0 ≤ Int32.toInt a.2.2.2) ∧ (Int32.toInt a.2.2.2 ≤ Int32.toInt (a.1.1 32 19)) ∧ (Int32.toInt (a.1.1 32 19) ≤ Int32.toInt (q_24.1 32 14)) ∧ (BL a.1 (Int32.toInt (a.1.1 32 19)))) (fun (a : dK × Int32 × Int32 × Int32) => (Int32.toInt (q_24.1 32 14) - Int32.toInt a.2.2.2).toNat) ?_ _ ?_ _ (dF_gt ?_)
  · intro a ha k_27 hk_26
    obtain ⟨q_28, x1_29, x2_30, x3_31⟩ := a
    replace ha : (TC q_28) ∧ (cFr [43, 44] [(32, 19)] q_24 q_28) ∧ (x1_29 = p1) ∧ (x2_30 = p2) ∧ (0 ≤ Int32.toInt x3_31) ∧ (Int32.toInt x3_31 ≤ Int32.toInt (q_28.1 32 19)) ∧ (Int32.toInt (q_28.1 32 19) ≤ Int32.toInt (q_24.1 32 14)) ∧ (BL q_28 (Int32.toInt (q_28.1 32 19))) := ha
    obtain ⟨a_32, a_33, a_34, a_35, a_36, a_37, a_38, a_39⟩ := ha
    show dOk (zX3_nearest_s32_35b  (fun q x1 x2 x3 => k_27 (q, x1, x2, x3)) q_28 x1_29 x2_30 x3_31) _
    unfold zX3_nearest_s32_35b
    have hFq_28 : cFr [43, 44] [(32, 19)] q q_28 := hFq_24.t a_33 (by decide) (by decide)
    subst x1_29
    subst x2_30
    have f_40 : 0 ≤ Int32.toInt (q_24.1 32 14) ∧ Int32.toInt (q_24.1 32 14) ≤ 46080 := rg_32_14 hTq_24
    have f_41 : 0 ≤ Int32.toInt (q_15.1 32 14) ∧ Int32.toInt (q_15.1 32 14) ≤ 46080 := rg_32_14 hTq_15
    have w_42 : Int32.toInt (q_15.1 32 14) = Int32.toInt (q_9.1 32 14) := by rw [eq_15, cui_o (by decide)]
    have w_43 : Int32.toInt (q_24.1 32 14) = Int32.toInt (q_15.1 32 14) := by rw [eq_24, cui_n (by decide)]
    have f_44 : 0 ≤ Int32.toInt (q_28.1 32 14) ∧ Int32.toInt (q_28.1 32 14) ≤ 46080 := rg_32_14 a_32
    have w_45 : Int32.toInt (q_28.1 32 14) = Int32.toInt (q_24.1 32 14) := by rw [a_33.1 32 14 (by decide) (by decide)]
    refine dOk_le (A := Int32.toInt (q_28.1 32 14)) (B := Int32.toInt x3_31) rfl rfl (fun c_46 => ?_) (fun c_47 => ?_)
    · unfold zX3_nearest_s32_187
      exact dOk_some (show (TC q_28) ∧ (cFr [43, 44] [(32, 19)] q q_28) from ⟨a_32, hFq_28⟩)
    · refine dOk_le (A := Int32.toInt (q_28.1 32 19)) (B := Int32.toInt x3_31) rfl rfl (fun c_48 => ?_) (fun c_49 => ?_)
      · unfold zX3_nearest_s32_187
        exact dOk_some (show (TC q_28) ∧ (cFr [43, 44] [(32, 19)] q q_28) from ⟨a_32, hFq_28⟩)
      · have f_50 : 0 ≤ Int32.toInt (q_28.1 32 105) ∧ Int32.toInt (q_28.1 32 105) ≤ 46080 := rg_32_105 a_32
        have f_51 : 0 ≤ Int32.toInt (q_24.1 32 105) ∧ Int32.toInt (q_24.1 32 105) ≤ 46080 := rg_32_105 hTq_24
        have f_52 : 0 ≤ Int32.toInt (q_15.1 32 105) ∧ Int32.toInt (q_15.1 32 105) ≤ 46080 := rg_32_105 hTq_15
        have w_53 : Int32.toInt (q_15.1 32 105) = Int32.toInt (q_9.1 32 105) := by rw [eq_15, cui_o (by decide)]
        have w_54 : Int32.toInt (q_24.1 32 105) = Int32.toInt (q_15.1 32 105) := by rw [eq_24, cui_n (by decide)]
        have w_55 : Int32.toInt (q_28.1 32 105) = Int32.toInt (q_24.1 32 105) := by rw [a_33.1 32 105 (by decide) (by decide)]
        refine dOk_G (dg_ok (show 0 ≤ Int32.toInt x3_31 by omega) (show Int32.toInt x3_31 < ((Int32.toNatClampNeg (q_28.1 32 105) : Nat) : Int) by rw [cl_eq (show 0 ≤ Int32.toInt (q_28.1 32 105) by omega)]; omega)) ?_
        have n_56 : ((Int32.toNatClampNeg x3_31 : Nat) : Int) = Int32.toInt x3_31 := cl_eq (by omega)
        refine dOk_L (fun v_57 ev_57 => ?_)
        have f_58 : 0 ≤ Int32.toInt v_57 ∧ Int32.toInt v_57 < Int32.toInt (q_28.1 32 14) := by rw [ev_57]; exact a_39 _ (show ((Int32.toNatClampNeg x3_31 : Nat) : Int) < Int32.toInt (q_28.1 32 19) by omega)
        refine dOk_B (ok_X3_fits_s32 q_28 v_57 p1 p2 a_32 (ld_fr hp0 hFq_28 rfl) (show 0 ≤ Int32.toInt v_57 by omega) (show Int32.toInt v_57 < Int32.toInt (q_28.1 32 14) by omega)) (fun r_59 q_60 h_61 => ?_)
        replace h_61 : (q_60 = q_28) ∧ ((Int32.toInt r_59 = 0 ∨ Int32.toInt r_59 = 1)) := h_61
        obtain ⟨i_62, i_63⟩ := h_61
        subst q_60
        refine dOk_eq (A := Int32.toInt r_59) (B := 0) rfl (by decide) (fun c_64z c_64 => ?_) (fun c_65z c_65 => ?_)
        · unfold zX3_nearest_s32_81
          refine dFix_ok (fun (a : dK × Int32 × Int32 × Int32 × Int32 × Int32) => (TC a.1) ∧ (cFr [43, 44] [(32, 19)] q_28 a.1) ∧ (a.2.1 = p1) ∧ (a.2.2.1 = p2) ∧ (a.2.2.2.1 = x3_31) ∧ (a.2.2.2.2.1 = v_57) ∧ (1 ≤ Int32.toInt a.2.2.2.2.2) ∧ (Int32.toInt a.2.2.2.2.2 ≤ 7) ∧ (Int32.toInt a.2.2.2.1 < Int32.toInt (a.1.1 32 19)) ∧ (Int32.toInt (a.1.1 32 19) ≤ Int32.toInt (q_28.1 32 14)) ∧ (BL a.1 (Int32.toInt (a.1.1 32 19)))) (fun (a : dK × Int32 × Int32 × Int32 × Int32 × Int32) => (7 - Int32.toInt a.2.2.2.2.2).toNat) ?_ _ ?_ _ (dF_gt ?_)
          · intro a ha k_68 hk_67
            obtain ⟨q_69, x1_70, x2_71, x3_72, x4_73, x5_74⟩ := a
            replace ha : (TC q_69) ∧ (cFr [43, 44] [(32, 19)] q_28 q_69) ∧ (x1_70 = p1) ∧ (x2_71 = p2) ∧ (x3_72 = x3_31) ∧ (x4_73 = v_57) ∧ (1 ≤ Int32.toInt x5_74) ∧ (Int32.toInt x5_74 ≤ 7) ∧ (Int32.toInt x3_72 < Int32.toInt (q_69.1 32 19)) ∧ (Int32.toInt (q_69.1 32 19) ≤ Int32.toInt (q_28.1 32 14)) ∧ (BL q_69 (Int32.toInt (q_69.1 32 19))) := ha
            obtain ⟨a_75, a_76, a_77, a_78, a_79, a_80, a_81, a_82, a_83, a_84, a_85⟩ := ha
            show dOk (zX3_nearest_s32_81b _ (fun q x1 x2 x3 x4 x5 => k_68 (q, x1, x2, x3, x4, x5)) q_69 x1_70 x2_71 x3_72 x4_73 x5_74) _
            unfold zX3_nearest_s32_81b
            have hFq_69 : cFr [43, 44] [(32, 19)] q q_69 := hFq_28.t a_76 (by decide) (by decide)
            subst x1_70
            subst x2_71
            subst x3_72
            subst x4_73
            have f_86 : 0 ≤ Int32.toInt (q_69.1 32 13) ∧ Int32.toInt (q_69.1 32 13) ≤ 6 := rg_32_13 a_75
            have f_87 : 0 ≤ Int32.toInt (q_28.1 32 13) ∧ Int32.toInt (q_28.1 32 13) ≤ 6 := rg_32_13 a_32
            have f_88 : 0 ≤ Int32.toInt (q_24.1 32 13) ∧ Int32.toInt (q_24.1 32 13) ≤ 6 := rg_32_13 hTq_24
            have f_89 : 0 ≤ Int32.toInt (q_15.1 32 13) ∧ Int32.toInt (q_15.1 32 13) ≤ 6 := rg_32_13 hTq_15
            have f_90 : 0 ≤ Int32.toInt (q_9.1 32 13) ∧ Int32.toInt (q_9.1 32 13) ≤ 6 := rg_32_13 hTq_9
            have f_91 : 0 ≤ Int32.toInt (q_1.1 32 13) ∧ Int32.toInt (q_1.1 32 13) ≤ 6 := rg_32_13 hTq_1
            have f_92 : 0 ≤ Int32.toInt (q.1 32 13) ∧ Int32.toInt (q.1 32 13) ≤ 6 := rg_32_13 hT
            have w_93 : Int32.toInt (q_1.1 32 13) = Int32.toInt (q.1 32 13) := by rw [eq_1]; rfl
            try have w_94 : Int32.toInt (q_9.1 32 13) = Int32.toInt (q_1.1 32 13) := by rw [eq_9, cui_o (by decide)]
            have w_95 : Int32.toInt (q_15.1 32 13) = Int32.toInt (q_9.1 32 13) := by rw [eq_15, cui_o (by decide)]
            have w_96 : Int32.toInt (q_24.1 32 13) = Int32.toInt (q_15.1 32 13) := by rw [eq_24, cui_n (by decide)]
            have w_97 : Int32.toInt (q_28.1 32 13) = Int32.toInt (q_24.1 32 13) := by rw [a_33.1 32 13 (by decide) (by decide)]
            have w_98 : Int32.toInt (q_69.1 32 13) = Int32.toInt (q_28.1 32 13) := by rw [a_76.1 32 13 (by decide) (by decide)]
            refine dOk_lt (A := Int32.toInt (q_69.1 32 13)) (B := Int32.toInt x5_74) rfl rfl (fun c_99 => ?_) (fun c_100 => ?_)
            · try have t_101 : Int32.toInt (x3_31 + 1) = Int32.toInt x3_31 + 1 := ti_add rfl (by decide) (by omega) (by omega)
              exact hk_26 (q_69, p1, p2, (x3_31 + 1)) (show (TC q_69) ∧ (cFr [43, 44] [(32, 19)] q_24 q_69) ∧ (p1 = p1) ∧ (p2 = p2) ∧ (0 ≤ Int32.toInt (x3_31 + 1)) ∧ (Int32.toInt (x3_31 + 1) ≤ Int32.toInt (q_69.1 32 19)) ∧ (Int32.toInt (q_69.1 32 19) ≤ Int32.toInt (q_24.1 32 14)) ∧ (BL q_69 (Int32.toInt (q_69.1 32 19))) from ⟨a_75, ((((cFr.rf : cFr [43, 44] [(32, 19)] q_24 q_24).t a_33 (by decide) (by decide)) : cFr [43, 44] [(32, 19)] q_24 q_28).t a_76 (by decide) (by decide)), rfl, rfl, by omega, by omega, by omega, bl_c (n := Int32.toInt (q_69.1 32 19)) a_85 (show Int32.toInt (q_69.1 32 19) ≤ Int32.toInt (q_69.1 32 19) by omega)⟩) (show (Int32.toInt (q_24.1 32 14) - Int32.toInt (x3_31 + 1)).toNat < (Int32.toInt (q_24.1 32 14) - Int32.toInt x3_31).toNat by omega)
            · have f_102 : 0 ≤ Int32.toInt (q_69.1 32 14) ∧ Int32.toInt (q_69.1 32 14) ≤ 46080 := rg_32_14 a_75
              have w_103 : Int32.toInt (q_69.1 32 14) = Int32.toInt (q_28.1 32 14) := by rw [a_76.1 32 14 (by decide) (by decide)]
              refine dOk_B (ok_X3_turned_s32 q_69 v_57 x5_74 a_75 (ld_fr hp0 hFq_69 rfl) (show 0 ≤ Int32.toInt v_57 by omega) (show Int32.toInt v_57 < Int32.toInt (q_69.1 32 14) by omega)) (fun r_104 q_105 h_106 => ?_)
              replace h_106 : (q_105 = q_69) ∧ (0 ≤ Int32.toInt r_104) ∧ (Int32.toInt r_104 < Int32.toInt (q_69.1 32 14)) := h_106
              obtain ⟨i_107, i_108, i_109⟩ := h_106
              subst q_105
              have f_110 : 0 ≤ Int32.toInt (q_69.1 32 104) ∧ Int32.toInt (q_69.1 32 104) ≤ 46080 := rg_32_104 a_75
              have f_111 : 0 ≤ Int32.toInt (q_28.1 32 104) ∧ Int32.toInt (q_28.1 32 104) ≤ 46080 := rg_32_104 a_32
              have f_112 : 0 ≤ Int32.toInt (q_24.1 32 104) ∧ Int32.toInt (q_24.1 32 104) ≤ 46080 := rg_32_104 hTq_24
              have f_113 : 0 ≤ Int32.toInt (q_15.1 32 104) ∧ Int32.toInt (q_15.1 32 104) ≤ 46080 := rg_32_104 hTq_15
              have f_114 : 0 ≤ Int32.toInt (q_9.1 32 104) ∧ Int32.toInt (q_9.1 32 104) ≤ 46080 := rg_32_104 hTq_9
              try have w_115 : Int32.toInt (q_9.1 32 104) = Int32.toInt (q_1.1 32 104) := by rw [eq_9, cui_o (by decide)]
              have w_116 : Int32.toInt (q_15.1 32 104) = Int32.toInt (q_9.1 32 104) := by rw [eq_15, cui_o (by decide)]
              have w_117 : Int32.toInt (q_24.1 32 104) = Int32.toInt (q_15.1 32 104) := by rw [eq_24, cui_n (by decide)]
              have w_118 : Int32.toInt (q_28.1 32 104) = Int32.toInt (q_24.1 32 104) := by rw [a_33.1 32 104 (by decide) (by decide)]
              have w_119 : Int32.toInt (q_69.1 32 104) = Int32.toInt (q_28.1 32 104) := by rw [a_76.1 32 104 (by decide) (by decide)]
              refine dOk_G (dg_ok (show 0 ≤ Int32.toInt r_104 by omega) (show Int32.toInt r_104 < ((Int32.toNatClampNeg (q_69.1 32 104) : Nat) : Int) by rw [cl_eq (show 0 ≤ Int32.toInt (q_69.1 32 104) by omega)]; omega)) ?_
              have n_120 : ((Int32.toNatClampNeg r_104 : Nat) : Int) = Int32.toInt r_104 := cl_eq (by omega)
              refine dOk_L (fun v_121 ev_121 => ?_)
              refine dOk_eq (A := Int32.toInt v_121) (B := (-1)) rfl (by decide) (fun c_122z c_122 => ?_) (fun c_123z c_123 => ?_)
              · refine dOk_B (ok_X3_caseOf_s32 q_69 v_57 x5_74 a_75 (ld_fr hp0 hFq_69 rfl) (show 0 ≤ Int32.toInt v_57 by omega) (show Int32.toInt v_57 < Int32.toInt (q_69.1 32 14) by omega) (show 1 ≤ Int32.toInt x5_74 by omega) (show Int32.toInt x5_74 ≤ Int32.toInt (q_69.1 32 13) by omega)) (fun r_125 q_126 h_127 => ?_)
                replace h_127 : (q_126 = q_69) ∧ (0 ≤ Int32.toInt r_125) ∧ (Int32.toInt r_125 < 504) := h_127
                obtain ⟨i_128, i_129, i_130⟩ := h_127
                subst q_126
                refine dOk_G (dg_ok (show 0 ≤ Int32.toInt r_125 by omega) (show Int32.toInt r_125 < ((504 : Nat) : Int) by omega)) ?_
                have n_131 : ((Int32.toNatClampNeg r_125 : Nat) : Int) = Int32.toInt r_125 := cl_eq (by omega)
                refine dOk_L (fun v_132 ev_132 => ?_)
                refine dOk_eq (A := Int32.toInt v_132) (B := 0) rfl (by decide) (fun c_133z c_133 => ?_) (fun c_134z c_134 => ?_)
                · refine dOk_le (A := Int32.toInt (q_69.1 32 14)) (B := Int32.toInt (q_69.1 32 19)) rfl rfl (fun c_136 => ?_) (fun c_137 => ?_)
                  · unfold zX3_nearest_s32_175
                    try have t_138 : Int32.toInt (x5_74 + 1) = Int32.toInt x5_74 + 1 := ti_add rfl (by decide) (by omega) (by omega)
                    exact hk_67 (q_69, p1, p2, x3_31, v_57, (x5_74 + 1)) (show (TC q_69) ∧ (cFr [43, 44] [(32, 19)] q_28 q_69) ∧ (p1 = p1) ∧ (p2 = p2) ∧ (x3_31 = x3_31) ∧ (v_57 = v_57) ∧ (1 ≤ Int32.toInt (x5_74 + 1)) ∧ (Int32.toInt (x5_74 + 1) ≤ 7) ∧ (Int32.toInt x3_31 < Int32.toInt (q_69.1 32 19)) ∧ (Int32.toInt (q_69.1 32 19) ≤ Int32.toInt (q_28.1 32 14)) ∧ (BL q_69 (Int32.toInt (q_69.1 32 19))) from ⟨a_75, ((cFr.rf : cFr [43, 44] [(32, 19)] q_28 q_28).t a_76 (by decide) (by decide)), rfl, rfl, rfl, rfl, by omega, by omega, by omega, by omega, bl_c (n := Int32.toInt (q_69.1 32 19)) a_85 (show Int32.toInt (q_69.1 32 19) ≤ Int32.toInt (q_69.1 32 19) by omega)⟩) (show (7 - Int32.toInt (x5_74 + 1)).toNat < (7 - Int32.toInt x5_74).toNat by omega)
                  · refine dOk_G (dg_ok (show 0 ≤ Int32.toInt v_57 by omega) (show Int32.toInt v_57 < ((Int32.toNatClampNeg (q_69.1 32 104) : Nat) : Int) by rw [cl_eq (show 0 ≤ Int32.toInt (q_69.1 32 104) by omega)]; omega)) ?_
                    have n_139 : ((Int32.toNatClampNeg v_57 : Nat) : Int) = Int32.toInt v_57 := cl_eq (by omega)
                    refine dOk_L (fun v_140 ev_140 => ?_)
                    refine dOk_G (dg_ok (show 0 ≤ Int32.toInt r_104 by omega) (show Int32.toInt r_104 < ((Int32.toNatClampNeg (q_69.1 32 104) : Nat) : Int) by rw [cl_eq (show 0 ≤ Int32.toInt (q_69.1 32 104) by omega)]; omega)) ?_
                    refine dOk_L (fun q_141 eq_141 => ?_)
                    have hTq_141 : TC q_141 := by rw [eq_141]; exact sa_43 a_75
                    have hFq_141 : cFr [43, 44] [(32, 19)] q q_141 := by rw [eq_141]; exact hFq_69.i (by decide)
                    have hB_142 : BL q_141 (Int32.toInt (q_69.1 32 19)) := by rw [eq_141]; exact bl_o a_85 rfl
                    try have w_143 : Int32.toInt (q_141.1 32 19) = Int32.toInt (q_69.1 32 19) := by rw [eq_141, cui_o (by decide)]
                    have f_144 : 0 ≤ Int32.toInt (q_141.1 32 105) ∧ Int32.toInt (q_141.1 32 105) ≤ 46080 := rg_32_105 hTq_141
                    have f_145 : 0 ≤ Int32.toInt (q_69.1 32 105) ∧ Int32.toInt (q_69.1 32 105) ≤ 46080 := rg_32_105 a_75
                    have w_146 : Int32.toInt (q_69.1 32 105) = Int32.toInt (q_28.1 32 105) := by rw [a_76.1 32 105 (by decide) (by decide)]
                    try have w_147 : Int32.toInt (q_141.1 32 105) = Int32.toInt (q_69.1 32 105) := by rw [eq_141, cui_o (by decide)]
                    refine dOk_G (dg_ok (show 0 ≤ Int32.toInt (q_141.1 32 19) by omega) (show Int32.toInt (q_141.1 32 19) < ((Int32.toNatClampNeg (q_141.1 32 105) : Nat) : Int) by rw [cl_eq (show 0 ≤ Int32.toInt (q_141.1 32 105) by omega)]; omega)) ?_
                    have n_148 : ((Int32.toNatClampNeg (q_141.1 32 19) : Nat) : Int) = Int32.toInt (q_141.1 32 19) := cl_eq (by omega)
                    refine dOk_L (fun q_149 eq_149 => ?_)
                    have hTq_149 : TC q_149 := by rw [eq_149]; exact sa_44 hTq_141
                    have hFq_149 : cFr [43, 44] [(32, 19)] q q_149 := by rw [eq_149]; exact hFq_141.i (by decide)
                    have f_150 : 0 ≤ Int32.toInt (q_141.1 32 14) ∧ Int32.toInt (q_141.1 32 14) ≤ 46080 := rg_32_14 hTq_141
                    try have w_151 : Int32.toInt (q_141.1 32 14) = Int32.toInt (q_69.1 32 14) := by rw [eq_141, cui_o (by decide)]
                    have hB_152 : BL q_149 (Int32.toInt (q_69.1 32 19) + 1) := by rw [eq_149]; exact bl_p (n := Int32.toInt (q_69.1 32 19)) hB_142 (show ((Int32.toNatClampNeg (q_141.1 32 19) : Nat) : Int) = Int32.toInt (q_69.1 32 19) by omega) (show 0 ≤ Int32.toInt r_104 by omega) (show Int32.toInt r_104 < Int32.toInt (q_141.1 32 14) by omega)
                    refine dOk_L (fun q_153 eq_153 => ?_)
                    try have w_154 : Int32.toInt (q_149.1 32 19) = Int32.toInt (q_141.1 32 19) := by rw [eq_149, cui_o (by decide)]
                    try have t_155 : Int32.toInt (q_149.1 32 19 + 1) = Int32.toInt (q_149.1 32 19) + 1 := ti_add rfl (by decide) (by omega) (by omega)
                    have hTq_153 : TC q_153 := by rw [eq_153]; exact sa_32_19 hTq_149
                    have hFq_153 : cFr [43, 44] [(32, 19)] q q_153 := by rw [eq_153]; exact hFq_149.f (by decide)
                    have hB_156 : BL q_153 (Int32.toInt (q_69.1 32 19) + 1) := by rw [eq_153]; exact bl_o hB_152 rfl
                    unfold zX3_nearest_s32_175
                    try have t_157 : Int32.toInt (x5_74 + 1) = Int32.toInt x5_74 + 1 := ti_add rfl (by decide) (by omega) (by omega)
                    have w_158 : Int32.toInt (q_153.1 32 19) = Int32.toInt (q_149.1 32 19 + 1) := by rw [eq_153, cui_e]
                    exact hk_67 (q_153, p1, p2, x3_31, v_57, (x5_74 + 1)) (show (TC q_153) ∧ (cFr [43, 44] [(32, 19)] q_28 q_153) ∧ (p1 = p1) ∧ (p2 = p2) ∧ (x3_31 = x3_31) ∧ (v_57 = v_57) ∧ (1 ≤ Int32.toInt (x5_74 + 1)) ∧ (Int32.toInt (x5_74 + 1) ≤ 7) ∧ (Int32.toInt x3_31 < Int32.toInt (q_153.1 32 19)) ∧ (Int32.toInt (q_153.1 32 19) ≤ Int32.toInt (q_28.1 32 14)) ∧ (BL q_153 (Int32.toInt (q_153.1 32 19))) from ⟨hTq_153, (by rw [eq_153]; exact ((by rw [eq_149]; exact ((by rw [eq_141]; exact (((cFr.rf : cFr [43, 44] [(32, 19)] q_28 q_28).t a_76 (by decide) (by decide)) : cFr [43, 44] [(32, 19)] q_28 q_69).i (by decide)) : cFr [43, 44] [(32, 19)] q_28 q_141).i (by decide)) : cFr [43, 44] [(32, 19)] q_28 q_149).f (by decide)), rfl, rfl, rfl, rfl, by omega, by omega, by omega, by omega, bl_c (n := Int32.toInt (q_69.1 32 19) + 1) hB_156 (show Int32.toInt (q_153.1 32 19) ≤ Int32.toInt (q_69.1 32 19) + 1 by omega)⟩) (show (7 - Int32.toInt (x5_74 + 1)).toNat < (7 - Int32.toInt x5_74).toNat by omega)
                · unfold zX3_nearest_s32_175
                  try have t_159 : Int32.toInt (x5_74 + 1) = Int32.toInt x5_74 + 1 := ti_add rfl (by decide) (by omega) (by omega)
                  exact hk_67 (q_69, p1, p2, x3_31, v_57, (x5_74 + 1)) (show (TC q_69) ∧ (cFr [43, 44] [(32, 19)] q_28 q_69) ∧ (p1 = p1) ∧ (p2 = p2) ∧ (x3_31 = x3_31) ∧ (v_57 = v_57) ∧ (1 ≤ Int32.toInt (x5_74 + 1)) ∧ (Int32.toInt (x5_74 + 1) ≤ 7) ∧ (Int32.toInt x3_31 < Int32.toInt (q_69.1 32 19)) ∧ (Int32.toInt (q_69.1 32 19) ≤ Int32.toInt (q_28.1 32 14)) ∧ (BL q_69 (Int32.toInt (q_69.1 32 19))) from ⟨a_75, ((cFr.rf : cFr [43, 44] [(32, 19)] q_28 q_28).t a_76 (by decide) (by decide)), rfl, rfl, rfl, rfl, by omega, by omega, by omega, by omega, bl_c (n := Int32.toInt (q_69.1 32 19)) a_85 (show Int32.toInt (q_69.1 32 19) ≤ Int32.toInt (q_69.1 32 19) by omega)⟩) (show (7 - Int32.toInt (x5_74 + 1)).toNat < (7 - Int32.toInt x5_74).toNat by omega)
              · unfold zX3_nearest_s32_175
                try have t_160 : Int32.toInt (x5_74 + 1) = Int32.toInt x5_74 + 1 := ti_add rfl (by decide) (by omega) (by omega)
                exact hk_67 (q_69, p1, p2, x3_31, v_57, (x5_74 + 1)) (show (TC q_69) ∧ (cFr [43, 44] [(32, 19)] q_28 q_69) ∧ (p1 = p1) ∧ (p2 = p2) ∧ (x3_31 = x3_31) ∧ (v_57 = v_57) ∧ (1 ≤ Int32.toInt (x5_74 + 1)) ∧ (Int32.toInt (x5_74 + 1) ≤ 7) ∧ (Int32.toInt x3_31 < Int32.toInt (q_69.1 32 19)) ∧ (Int32.toInt (q_69.1 32 19) ≤ Int32.toInt (q_28.1 32 14)) ∧ (BL q_69 (Int32.toInt (q_69.1 32 19))) from ⟨a_75, ((cFr.rf : cFr [43, 44] [(32, 19)] q_28 q_28).t a_76 (by decide) (by decide)), rfl, rfl, rfl, rfl, by omega, by omega, by omega, by omega, bl_c (n := Int32.toInt (q_69.1 32 19)) a_85 (show Int32.toInt (q_69.1 32 19) ≤ Int32.toInt (q_69.1 32 19) by omega)⟩) (show (7 - Int32.toInt (x5_74 + 1)).toNat < (7 - Int32.toInt x5_74).toNat by omega)
          · exact (show (TC q_28) ∧ (cFr [43, 44] [(32, 19)] q_28 q_28) ∧ (p1 = p1) ∧ (p2 = p2) ∧ (x3_31 = x3_31) ∧ (v_57 = v_57) ∧ (1 ≤ (1 : Int)) ∧ ((1 : Int) ≤ 7) ∧ (Int32.toInt x3_31 < Int32.toInt (q_28.1 32 19)) ∧ (Int32.toInt (q_28.1 32 19) ≤ Int32.toInt (q_28.1 32 14)) ∧ (BL q_28 (Int32.toInt (q_28.1 32 19))) from ⟨a_32, cFr.rf, rfl, rfl, rfl, rfl, by omega, by omega, by omega, by omega, bl_c (n := Int32.toInt (q_28.1 32 19)) a_39 (show Int32.toInt (q_28.1 32 19) ≤ Int32.toInt (q_28.1 32 19) by omega)⟩)
          · show (7 - (1 : Int)).toNat < 1000000000000
            omega
        · have f_161 : 0 ≤ Int32.toInt (q_28.1 32 104) ∧ Int32.toInt (q_28.1 32 104) ≤ 46080 := rg_32_104 a_32
          have f_162 : 0 ≤ Int32.toInt (q_24.1 32 104) ∧ Int32.toInt (q_24.1 32 104) ≤ 46080 := rg_32_104 hTq_24
          have f_163 : 0 ≤ Int32.toInt (q_15.1 32 104) ∧ Int32.toInt (q_15.1 32 104) ≤ 46080 := rg_32_104 hTq_15
          have f_164 : 0 ≤ Int32.toInt (q_9.1 32 104) ∧ Int32.toInt (q_9.1 32 104) ≤ 46080 := rg_32_104 hTq_9
          try have w_165 : Int32.toInt (q_9.1 32 104) = Int32.toInt (q_1.1 32 104) := by rw [eq_9, cui_o (by decide)]
          have w_166 : Int32.toInt (q_15.1 32 104) = Int32.toInt (q_9.1 32 104) := by rw [eq_15, cui_o (by decide)]
          have w_167 : Int32.toInt (q_24.1 32 104) = Int32.toInt (q_15.1 32 104) := by rw [eq_24, cui_n (by decide)]
          have w_168 : Int32.toInt (q_28.1 32 104) = Int32.toInt (q_24.1 32 104) := by rw [a_33.1 32 104 (by decide) (by decide)]
          refine dOk_G (dg_ok (show 0 ≤ Int32.toInt v_57 by omega) (show Int32.toInt v_57 < ((Int32.toNatClampNeg (q_28.1 32 104) : Nat) : Int) by rw [cl_eq (show 0 ≤ Int32.toInt (q_28.1 32 104) by omega)]; omega)) ?_
          have n_169 : ((Int32.toNatClampNeg v_57 : Nat) : Int) = Int32.toInt v_57 := cl_eq (by omega)
          refine dOk_L (fun v_170 ev_170 => ?_)
          exact dOk_some (show (TC q_28) ∧ (cFr [43, 44] [(32, 19)] q q_28) from ⟨a_32, hFq_28⟩)
  · have w_171 : Int32.toInt (q_24.1 32 19) = (1 : Int) := by rw [eq_24, cui_e]; decide
    have f_172 : 0 ≤ Int32.toInt (q_24.1 32 14) ∧ Int32.toInt (q_24.1 32 14) ≤ 46080 := rg_32_14 hTq_24
    have f_173 : 0 ≤ Int32.toInt (q_15.1 32 14) ∧ Int32.toInt (q_15.1 32 14) ≤ 46080 := rg_32_14 hTq_15
    have w_174 : Int32.toInt (q_15.1 32 14) = Int32.toInt (q_9.1 32 14) := by rw [eq_15, cui_o (by decide)]
    have w_175 : Int32.toInt (q_24.1 32 14) = Int32.toInt (q_15.1 32 14) := by rw [eq_24, cui_n (by decide)]
    exact (show (TC q_24) ∧ (cFr [43, 44] [(32, 19)] q_24 q_24) ∧ (p1 = p1) ∧ (p2 = p2) ∧ (0 ≤ (0 : Int)) ∧ ((0 : Int) ≤ Int32.toInt (q_24.1 32 19)) ∧ (Int32.toInt (q_24.1 32 19) ≤ Int32.toInt (q_24.1 32 14)) ∧ (BL q_24 (Int32.toInt (q_24.1 32 19))) from ⟨hTq_24, cFr.rf, rfl, rfl, by omega, by omega, by omega, bl_c (n := 0 + 1) hB_25 (show Int32.toInt (q_24.1 32 19) ≤ 0 + 1 by omega)⟩)
  · have f_176 : 0 ≤ Int32.toInt (q_24.1 32 14) ∧ Int32.toInt (q_24.1 32 14) ≤ 46080 := rg_32_14 hTq_24
    have f_177 : 0 ≤ Int32.toInt (q_15.1 32 14) ∧ Int32.toInt (q_15.1 32 14) ≤ 46080 := rg_32_14 hTq_15
    have w_178 : Int32.toInt (q_15.1 32 14) = Int32.toInt (q_9.1 32 14) := by rw [eq_15, cui_o (by decide)]
    have w_179 : Int32.toInt (q_24.1 32 14) = Int32.toInt (q_15.1 32 14) := by rw [eq_24, cui_n (by decide)]
    show (Int32.toInt (q_24.1 32 14) - (0 : Int)).toNat < 1000000000000
    omega

set_option maxHeartbeats 4000000 in
set_option maxRecDepth 100000 in
theorem ok_X3_towersReached_s32 (q : dK) (hT : TC q) (hp0 : LD q) (hp1 : 0 ≤ Int32.toInt (q.1 32 15)) (hp2 : Int32.toInt (q.1 32 15) < Int32.toInt (q.1 32 14)) : dOk (zX3_towersReached_s32 q) (fun (o : Int32 × dK) => (TC o.2) ∧ (cFr [43, 44] [(32, 19)] q o.2)) := by
  unfold zX3_towersReached_s32
  have hLs := ld_sz hp0
  have f_1 : 0 ≤ Int32.toInt (q.1 32 15) ∧ Int32.toInt (q.1 32 15) ≤ 46079 := rg_32_15 hT
  have f_2 : 0 ≤ Int32.toInt (q.1 32 14) ∧ Int32.toInt (q.1 32 14) ≤ 46080 := rg_32_14 hT
  refine dOk_B (ok_X3_nearest_s32 q 0 0 hT hp0 (show 0 ≤ Int32.toInt (q.1 32 15) by omega) (show Int32.toInt (q.1 32 15) < Int32.toInt (q.1 32 14) by omega)) (fun r_3 q_4 h_5 => ?_)
  replace h_5 : (TC q_4) ∧ (cFr [43, 44] [(32, 19)] q q_4) := h_5
  obtain ⟨i_6, i_7⟩ := h_5
  have hFq_4 : cFr [43, 44] [(32, 19)] q q_4 := (cFr.rf (q := q)).t i_7 (by decide) (by decide)
  exact dOk_some (show (TC q_4) ∧ (cFr [43, 44] [(32, 19)] q q_4) from ⟨i_6, hFq_4⟩)

set_option maxHeartbeats 4000000 in
set_option maxRecDepth 100000 in
theorem ok_X3_turnsToTop_s32 (q : dK) (p1 : Int32) (hT : TC q) (hp0 : LD q) (hp1 : 0 ≤ Int32.toInt (q.1 32 15)) (hp2 : Int32.toInt (q.1 32 15) < Int32.toInt (q.1 32 14)) : dOk (zX3_turnsToTop_s32 q p1) (fun (o : Int32 × dK) => (TC o.2) ∧ (cFr [43, 44] [(32, 19)] q o.2)) := by
  unfold zX3_turnsToTop_s32
  have hLs := ld_sz hp0
  refine dOk_B (ok_X3_indexOfRank_s32 q p1 hT) (fun r_1 q_2 h_3 => ?_)
  replace h_3 : (q_2 = q) ∧ (-1 ≤ Int32.toInt r_1 ∧ Int32.toInt r_1 ≤ 5) := h_3
  obtain ⟨i_4, i_5⟩ := h_3
  subst q_2
  have f_6 : 0 ≤ Int32.toInt (q.1 32 15) ∧ Int32.toInt (q.1 32 15) ≤ 46079 := rg_32_15 hT
  have f_7 : 0 ≤ Int32.toInt (q.1 32 14) ∧ Int32.toInt (q.1 32 14) ≤ 46080 := rg_32_14 hT
  refine dOk_B (ok_X3_nearest_s32 q 2 r_1 hT hp0 (show 0 ≤ Int32.toInt (q.1 32 15) by omega) (show Int32.toInt (q.1 32 15) < Int32.toInt (q.1 32 14) by omega)) (fun r_8 q_9 h_10 => ?_)
  replace h_10 : (TC q_9) ∧ (cFr [43, 44] [(32, 19)] q q_9) := h_10
  obtain ⟨i_11, i_12⟩ := h_10
  have hFq_9 : cFr [43, 44] [(32, 19)] q q_9 := (cFr.rf (q := q)).t i_12 (by decide) (by decide)
  exact dOk_some (show (TC q_9) ∧ (cFr [43, 44] [(32, 19)] q q_9) from ⟨i_11, hFq_9⟩)
end
section
/-! orders by number -/
theorem fac_rg (n : Int) : 1 ≤ facI n ∧ facI n ≤ 720 := by
  unfold facI
  repeat' split
  all_goals exact ⟨by decide, by decide⟩
theorem fac_v {x : Int32} (h0 : 0 ≤ x.toInt) (h1 : x.toInt ≤ 6) : (([1, 1, 2, 6, 24, 120, 720] : List Int32).getD (Int32.toNatClampNeg x) 0).toInt = facI x.toInt := by
  have h2 := cl_eq h0
  have h3 := fac_L (Int32.toNatClampNeg x) (by omega)
  rw [h2] at h3
  exact h3
theorem ok_X3_setDigits_s32 (q : dK) (p1 : Int32) (hT : TC q) (hp0 : 0 ≤ Int32.toInt p1) : dOk (zX3_setDigits_s32 q p1) (fun (o : dK) => (TC o) ∧ (cFr [34] [] q o) ∧ (0 ≤ Int32.toInt (o.1 34 0)) ∧ (Int32.toInt (o.1 34 0) ≤ 5)) := by
  unfold zX3_setDigits_s32 zX3_setDigits_s32_2
  refine dFix_ok (fun (a : dK × Int32 × Int32) => TC a.1 ∧ cFr [34] [] q a.1 ∧ a.2.1 = p1 ∧ 0 ≤ a.2.2.toInt ∧ a.2.2.toInt ≤ 6 ∧ (1 ≤ a.2.2.toInt → 0 ≤ (a.1.1 34 0).toInt ∧ (a.1.1 34 0).toInt ≤ a.2.2.toInt - 1)) (fun (a : dK × Int32 × Int32) => (6 - a.2.2.toInt).toNat) ?_ _ ⟨hT, cFr.rf, rfl, by show 0 ≤ Int32.toInt 0; decide, by show Int32.toInt 0 ≤ 6; decide, fun z => absurd z (by show ¬ 1 ≤ Int32.toInt 0; decide)⟩ _ (dF_gt (by show (6 - Int32.toInt 0).toNat < 1000000000000; decide))
  intro a ha k2 hk2
  obtain ⟨qa, x1, x2⟩ := a
  obtain ⟨a0, a1, a2, a3, a4, a5⟩ := ha
  replace a0 : TC qa := a0
  replace a1 : cFr [34] [] q qa := a1
  replace a2 : x1 = p1 := a2
  replace a3 : 0 ≤ x2.toInt := a3
  replace a4 : x2.toInt ≤ 6 := a4
  replace a5 : 1 ≤ x2.toInt → 0 ≤ (qa.1 34 0).toInt ∧ (qa.1 34 0).toInt ≤ x2.toInt - 1 := a5
  subst a2
  show dOk (zX3_setDigits_s32_2b (fun q x1 x2 => k2 (q, x1, x2)) qa x1 x2) _
  unfold zX3_setDigits_s32_2b
  refine dOk_le (by decide : Int32.toInt 6 = 6) rfl (fun c => dOk_some ⟨a0, a1, (a5 (by omega)).1, by have := (a5 (by omega)).2; show Int32.toInt (qa.1 34 0) ≤ 5; omega⟩) (fun c => ?_)
  have hf := fac_v a3 (by omega)
  have hf2 := fac_rg x2.toInt
  refine dOk_G (dg_ok a3 (by omega)) (dOk_L (fun v2 e2 => ?_))
  rw [← e2] at hf
  have t1 : Int32.toInt (x2 + 1) = x2.toInt + 1 := ti_add rfl (by decide) (by omega) (by omega)
  refine dOk_G (dnz_ok (by omega)) (dOk_G (dnz_ok (by omega)) (dOk_L (fun v5 e5 => ?_)))
  have d1 : Int32.toInt (x1 / v2) = x1.toInt / v2.toInt := ti_div rfl rfl hp0 (by omega)
  have d2 : 0 ≤ x1.toInt / v2.toInt := Int.ediv_nonneg hp0 (by omega)
  have d3 := ti_rem d1 t1 d2 (by omega)
  have d4 : 0 ≤ x1.toInt / v2.toInt % (x2.toInt + 1) := Int.emod_nonneg _ (by omega)
  have d5 : x1.toInt / v2.toInt % (x2.toInt + 1) < x2.toInt + 1 := Int.emod_lt_of_pos _ (by omega)
  have d6 : Int32.toInt v5 = x2.toInt - x1.toInt / v2.toInt % (x2.toInt + 1) := by rw [e5]; exact ti_sub rfl d3 (by omega) (by omega)
  clear d3
  unfold zX3_setDigits_s32_25
  refine dFix_ok (fun (a : dK × Int32 × Int32 × Int32 × Int32) => TC a.1 ∧ cFr [34] [] q a.1 ∧ a.2.1 = x1 ∧ a.2.2.1 = x2 ∧ a.2.2.2.1 = v5 ∧ 0 ≤ a.2.2.2.2.toInt ∧ a.2.2.2.2.toInt ≤ x2.toInt ∧ (1 ≤ x2.toInt → 0 ≤ (a.1.1 34 0).toInt ∧ (a.1.1 34 0).toInt ≤ x2.toInt ∧ (a.2.2.2.2.toInt = 0 → (a.1.1 34 0).toInt ≤ x2.toInt - 1))) (fun (a : dK × Int32 × Int32 × Int32 × Int32) => (x2.toInt - a.2.2.2.2.toInt).toNat) ?_ _ ⟨a0, a1, rfl, rfl, rfl, by show 0 ≤ Int32.toInt 0; decide, by show (0 : Int) ≤ x2.toInt; exact a3, fun z => ⟨(a5 z).1, by have := (a5 z).2; show (qa.1 34 0).toInt ≤ x2.toInt; omega, fun _ => (a5 z).2⟩⟩ _ (dF_gt (by show (x2.toInt - 0).toNat < 1000000000000; omega))
  intro a ha k25 hk25
  obtain ⟨qb, y1, y2, y3, x4⟩ := a
  obtain ⟨b0, b1, b2, b3, b4, b5, b6, b7⟩ := ha
  replace b0 : TC qb := b0
  replace b1 : cFr [34] [] q qb := b1
  replace b2 : x1 = y1 := Eq.symm b2
  replace b3 : x2 = y2 := Eq.symm b3
  replace b4 : v5 = y3 := Eq.symm b4
  replace b5 : 0 ≤ x4.toInt := b5
  replace b6 : x4.toInt ≤ x2.toInt := b6
  replace b7 : 1 ≤ x2.toInt → 0 ≤ (qb.1 34 0).toInt ∧ (qb.1 34 0).toInt ≤ x2.toInt ∧ (x4.toInt = 0 → (qb.1 34 0).toInt ≤ x2.toInt - 1) := b7
  subst b2 b3 b4
  show dOk (zX3_setDigits_s32_25b (fun q x1 x2 => k2 (q, x1, x2)) (fun q x1 x2 x3 x4 => k25 (q, x1, x2, x3, x4)) qb x1 x2 v5 x4) _
  unfold zX3_setDigits_s32_25b zX3_setDigits_s32_55
  refine dOk_le rfl rfl (fun c2 => ?_) (fun c2 => ?_)
  · refine dOk_G (dg_ok a3 (by omega)) (dOk_L (fun q2 eq2 => ?_))
    have n2 := cl_eq a3
    refine hk2 (q2, x1, x2 + 1) ⟨by rw [eq2]; exact sa_34 b0, by rw [eq2]; exact b1.i (by decide), rfl, by show 0 ≤ Int32.toInt (x2 + 1); omega, by show Int32.toInt (x2 + 1) ≤ 6; omega, fun _ => ?_⟩ (by show (6 - Int32.toInt (x2 + 1)).toNat < (6 - Int32.toInt x2).toNat; omega)
    show 0 ≤ Int32.toInt (q2.1 34 0) ∧ Int32.toInt (q2.1 34 0) ≤ Int32.toInt (x2 + 1) - 1
    rw [eq2]
    by_cases c3 : x2.toInt = 0
    · have e0 : Int32.toNatClampNeg x2 = 0 := by omega
      rw [e0, cui_e]
      omega
    · rw [cui_n (by omega)]
      have := b7 (by omega)
      omega
  · refine dOk_G (dg_ok b5 (by omega)) (dOk_L (fun v4 e4 => dOk_G (dg_ok b5 (by omega)) (dOk_L (fun v6 e6 => ?_))))
    have n4 := cl_eq b5
    have t4 : Int32.toInt (x4 + 1) = x4.toInt + 1 := ti_add rfl (by decide) (by omega) (by omega)
    refine dOk_lt rfl rfl (fun c4 => ?_) (fun c4 => ?_)
    all_goals
      refine dOk_V (ok_X9_bit _) (fun r1 hr => ?_)
      replace hr : Int32.toInt r1 = 0 ∨ Int32.toInt r1 = 1 := hr
      refine dOk_G (dg_ok b5 (by omega)) (dOk_L (fun q4 eq4 => ?_))
      refine hk25 (q4, x1, x2, v5, x4 + 1) ⟨by rw [eq4]; exact sa_34 b0, by rw [eq4]; exact b1.i (by decide), rfl, rfl, rfl, by show 0 ≤ Int32.toInt (x4 + 1); omega, by show Int32.toInt (x4 + 1) ≤ x2.toInt; omega, fun z => ?_⟩ (by show (x2.toInt - Int32.toInt (x4 + 1)).toNat < (x2.toInt - Int32.toInt x4).toNat; omega)
      show 0 ≤ Int32.toInt (q4.1 34 0) ∧ Int32.toInt (q4.1 34 0) ≤ x2.toInt ∧ (Int32.toInt (x4 + 1) = 0 → Int32.toInt (q4.1 34 0) ≤ x2.toInt - 1)
      have b8 := b7 z
      rw [eq4]
      by_cases c3 : x4.toInt = 0
      · have e0 : Int32.toNatClampNeg x4 = 0 := by omega
        have b9 := b8.2.2 c3
        rw [e0] at e4
        rw [← e4] at b8 b9
        have tv : Int32.toInt (v4 + r1) = v4.toInt + r1.toInt := ti_add rfl rfl (by omega) (by omega)
        rw [e0, cui_e, tv]
        omega
      · rw [cui_n (by omega)]
        omega
theorem fac_s {n : Int} (h0 : 0 ≤ n) (h1 : n ≤ 5) {x y : Int} (hx : x < facI n) (hy : y ≤ n) (hy0 : 0 ≤ y) : x + y * facI n < facI (n + 1) := by
  have hc : n = 0 ∨ n = 1 ∨ n = 2 ∨ n = 3 ∨ n = 4 ∨ n = 5 := by omega
  rcases hc with e | e | e | e | e | e
  · subst e; replace hx : x < 1 := hx; show x + y * 1 < 1; omega
  · subst e; replace hx : x < 1 := hx; show x + y * 1 < 2; omega
  · subst e; replace hx : x < 2 := hx; show x + y * 2 < 6; omega
  · subst e; replace hx : x < 6 := hx; show x + y * 6 < 24; omega
  · subst e; replace hx : x < 24 := hx; show x + y * 24 < 120; omega
  · subst e; replace hx : x < 120 := hx; show x + y * 120 < 720; omega
theorem ok_X3_numberOfOrder_s32 (q : dK) (hT : TC q) : dOk (zX3_numberOfOrder_s32 q) (fun (o : Int32 × dK) => (o.2 = q) ∧ (0 ≤ Int32.toInt o.1 ∧ Int32.toInt o.1 ≤ 719)) := by
  unfold zX3_numberOfOrder_s32 zX3_numberOfOrder_s32_4
  refine dFix_ok (fun (a : dK × Int32 × Int32) => a.1 = q ∧ 0 ≤ a.2.2.toInt ∧ a.2.2.toInt ≤ 6 ∧ 0 ≤ a.2.1.toInt ∧ a.2.1.toInt < facI a.2.2.toInt) (fun (a : dK × Int32 × Int32) => (6 - a.2.2.toInt).toNat) ?_ _ ⟨rfl, by show 0 ≤ Int32.toInt 0; decide, by show Int32.toInt 0 ≤ 6; decide, by show 0 ≤ Int32.toInt 0; decide, by show Int32.toInt 0 < facI (Int32.toInt 0); decide⟩ _ (dF_gt (by show (6 - Int32.toInt 0).toNat < 1000000000000; decide))
  intro a ha k4 hk4
  obtain ⟨qa, x1, x2⟩ := a
  obtain ⟨a0, a1, a2, a3, a4⟩ := ha
  replace a0 : q = qa := Eq.symm a0
  replace a1 : 0 ≤ x2.toInt := a1
  replace a2 : x2.toInt ≤ 6 := a2
  replace a3 : 0 ≤ x1.toInt := a3
  replace a4 : x1.toInt < facI x2.toInt := a4
  subst a0
  show dOk (zX3_numberOfOrder_s32_4b (fun q x1 x2 => k4 (q, x1, x2)) q x1 x2) _
  unfold zX3_numberOfOrder_s32_4b
  refine dOk_le (by decide : Int32.toInt 6 = 6) rfl (fun c => dOk_some ⟨rfl, a3, ?_⟩) (fun c => ?_)
  · have := (fac_rg x2.toInt).2
    show x1.toInt ≤ 719
    omega
  unfold zX3_numberOfOrder_s32_15
  refine dFix_ok (fun (a : dK × Int32 × Int32 × Int32 × Int32) => a.1 = q ∧ a.2.1 = x1 ∧ a.2.2.1 = x2 ∧ 0 ≤ a.2.2.2.1.toInt ∧ a.2.2.2.1.toInt ≤ a.2.2.2.2.toInt ∧ a.2.2.2.2.toInt ≤ x2.toInt) (fun (a : dK × Int32 × Int32 × Int32 × Int32) => (x2.toInt - a.2.2.2.2.toInt).toNat) ?_ _ ⟨rfl, rfl, rfl, by show 0 ≤ Int32.toInt 0; decide, by show Int32.toInt 0 ≤ Int32.toInt 0; decide, by show (0 : Int) ≤ x2.toInt; exact a1⟩ _ (dF_gt (by show (x2.toInt - 0).toNat < 1000000000000; omega))
  intro a ha k15 hk15
  obtain ⟨qb, y1, y2, x3, x4⟩ := a
  obtain ⟨b0, b2, b3, b4, b5, b6⟩ := ha
  replace b0 : q = qb := Eq.symm b0
  replace b2 : x1 = y1 := Eq.symm b2
  replace b3 : x2 = y2 := Eq.symm b3
  replace b4 : 0 ≤ x3.toInt := b4
  replace b5 : x3.toInt ≤ x4.toInt := b5
  replace b6 : x4.toInt ≤ x2.toInt := b6
  subst b0 b2 b3
  show dOk (zX3_numberOfOrder_s32_15b (fun q x1 x2 => k4 (q, x1, x2)) (fun q x1 x2 x3 x4 => k15 (q, x1, x2, x3, x4)) q x1 x2 x3 x4) _
  unfold zX3_numberOfOrder_s32_15b zX3_numberOfOrder_s32_43
  have t1 : Int32.toInt (x2 + 1) = x2.toInt + 1 := ti_add rfl (by decide) (by omega) (by omega)
  refine dOk_le rfl rfl (fun c2 => ?_) (fun c2 => ?_)
  · have hf := fac_v a1 (by omega)
    refine dOk_G (dg_ok a1 (by omega)) (dOk_L (fun v2 e2 => ?_))
    rw [← e2] at hf
    have h1 := fac_s a1 (by omega) a4 (y := x3.toInt) (by omega) b4
    have h2 := (fac_rg (x2.toInt + 1)).2
    have h3 := (fac_rg x2.toInt).1
    have h4 : 0 ≤ x3.toInt * facI x2.toInt := Int.mul_nonneg b4 (by omega)
    have m1 : Int32.toInt (x3 * v2) = x3.toInt * facI x2.toInt := ti_mul rfl hf (by omega) (by omega)
    have m2 : Int32.toInt (x1 + (x3 * v2)) = x1.toInt + x3.toInt * facI x2.toInt := ti_add rfl m1 (by omega) (by omega)
    refine hk4 (q, x1 + (x3 * v2), x2 + 1) ⟨rfl, by show 0 ≤ Int32.toInt (x2 + 1); omega, by show Int32.toInt (x2 + 1) ≤ 6; omega, by show 0 ≤ Int32.toInt (x1 + (x3 * v2)); omega, ?_⟩ (by show (6 - Int32.toInt (x2 + 1)).toNat < (6 - Int32.toInt x2).toNat; omega)
    show Int32.toInt (x1 + (x3 * v2)) < facI (Int32.toInt (x2 + 1))
    rw [m2, t1]; exact h1
  · have t4 : Int32.toInt (x4 + 1) = x4.toInt + 1 := ti_add rfl (by decide) (by omega) (by omega)
    refine dOk_G (dg_ok (by omega) (by omega)) (dOk_L (fun v4 e4 => dOk_G (dg_ok (by omega) (by omega)) (dOk_L (fun v6 e6 => ?_))))
    refine dOk_le rfl rfl (fun c4 => ?_) (fun c4 => ?_)
    all_goals
      refine dOk_V (ok_X9_bit _) (fun r1 hr => ?_)
      replace hr : Int32.toInt r1 = 0 ∨ Int32.toInt r1 = 1 := hr
      have t3 : Int32.toInt (x3 + r1) = x3.toInt + r1.toInt := ti_add rfl rfl (by omega) (by omega)
      refine hk15 (q, x1, x2, x3 + r1, x4 + 1) ⟨rfl, rfl, rfl, ?_, ?_, ?_⟩ ?_
      · show 0 ≤ Int32.toInt (x3 + r1); omega
      · show Int32.toInt (x3 + r1) ≤ Int32.toInt (x4 + 1); omega
      · show Int32.toInt (x4 + 1) ≤ x2.toInt; omega
      · show (x2.toInt - Int32.toInt (x4 + 1)).toNat < (x2.toInt - Int32.toInt x4).toNat; omega
end
section
theorem cd_0 {v x : Int32} (h0 : 0 ≤ v.toInt) (h1 : v.toInt ≤ 5) (hx : x.toInt = 0) : cD (0 ||| (v <<< (((3 * x : Int32) : Int32) &&& 31))) := by
  obtain ⟨n, rfl, hn, -⟩ := ti_nI h0
  have e : x = 0 := Int32.toInt_inj.mp hx
  subst e
  have h : ∀ n : Nat, n < 6 → ((0 ||| (nI n <<< (((3 * 0 : Int32) : Int32) &&& 31))) &&& 7 : Int32).toInt ≤ 5 := by decide +kernel
  exact h n (by omega)
theorem cd_sh (v : Int32) (s : Int32) (k : Nat) (hs : (s.toBitVec.smod 32).toNat = k + 3) : (v <<< s).toBitVec.toNat % 2 ^ 3 = 0 := by
  have e : (v <<< s).toBitVec.toNat = (v.toBitVec.toNat <<< (k + 3)) % 2 ^ 32 := by
    show (v.toBitVec <<< (s.toBitVec.smod 32)).toNat = _
    rw [BitVec.shiftLeft_eq', BitVec.toNat_shiftLeft, hs]
  rw [e, Nat.shiftLeft_eq, Nat.mod_mod_of_dvd _ (Nat.pow_dvd_pow 2 (by decide : 3 ≤ 32)), Nat.pow_add, ← Nat.mul_assoc]
  exact Nat.mul_mod_left _ _
theorem cd_or {w v x : Int32} (h : cD w) (h0 : 1 ≤ x.toInt) (h1 : x.toInt ≤ 5) : cD (w ||| (v <<< (((3 * x : Int32) : Int32) &&& 31))) := by
  have hz : (v <<< (((3 * x : Int32) : Int32) &&& 31)).toBitVec.toNat % 2 ^ 3 = 0 := by
    obtain ⟨n, rfl, hn, -⟩ := ti_nI (x := x) (by omega)
    have hk : ∀ n : Nat, n < 6 → 1 ≤ n → (((3 * nI n : Int32) &&& 31).toBitVec.smod 32).toNat = (3 * n - 3) + 3 := by decide +kernel
    exact cd_sh v _ (3 * n - 3) (hk n (by omega) (by omega))
  unfold cD at h ⊢
  rw [pk_and w (m := 7) 3 (by decide)] at h
  rw [pk_and _ (m := 7) 3 (by decide)]
  have e : (w ||| (v <<< (((3 * x : Int32) : Int32) &&& 31))).toBitVec.toNat = w.toBitVec.toNat ||| (v <<< (((3 * x : Int32) : Int32) &&& 31)).toBitVec.toNat := by
    show (w.toBitVec ||| (v <<< (((3 * x : Int32) : Int32) &&& 31)).toBitVec).toNat = _
    rw [BitVec.toNat_or]
  rw [e, Nat.or_mod_two_pow, hz, Nat.or_zero]
  exact h
/-- of the orders' digits those of one order alone change -/
def R39 (q : dK) (p : Int32) (o : dK) : Prop := ∀ i : Nat, ¬ i = Int32.toNatClampNeg p → o.1 39 i = q.1 39 i
theorem ok_X3_listOrder_s32 (q : dK) (p1 : Int32) (hT : TC q) (hp0 : 0 ≤ Int32.toInt p1) (hp1 : Int32.toInt p1 < Int32.toInt (q.1 32 100)) (hp2 : Int32.toInt (q.1 32 101) = 6 * Int32.toInt (q.1 32 100)) (hp3 : Int32.toInt (q.1 32 100) ≤ 720) (hp4 : q.1 39 (Int32.toNatClampNeg p1) = 0) : dOk (zX3_listOrder_s32 q p1) (fun (o : dK) => (TC o) ∧ (cFr [34, 39, 40] [] q o) ∧ R39 q p1 o) := by
  have hfl := rg_32_13 hT
  unfold zX3_listOrder_s32
  refine dOk_V (ok_X3_setDigits_s32 q p1 hT hp0) (fun q3 h => ?_)
  obtain ⟨hT3, hF3, d0, d1⟩ := h
  replace hT3 : TC q3 := hT3
  replace hF3 : cFr [34] [] q q3 := hF3
  replace d0 : 0 ≤ Int32.toInt (q3.1 34 0) := d0
  replace d1 : Int32.toInt (q3.1 34 0) ≤ 5 := d1
  have n1 := cl_eq hp0
  unfold zX3_listOrder_s32_7
  refine dFix_ok (fun (a : dK × Int32 × Int32) => TC a.1 ∧ cFr [34, 39, 40] [] q a.1 ∧ a.2.1 = p1 ∧ 0 ≤ a.2.2.toInt ∧ a.2.2.toInt ≤ 6 ∧ R39 q p1 a.1 ∧ (a.1.1 34 0 = q3.1 34 0) ∧ (a.2.2.toInt = 0 → a.1.1 39 (Int32.toNatClampNeg p1) = 0)) (fun (a : dK × Int32 × Int32) => (6 - a.2.2.toInt).toNat) ?_ _ ⟨hT3, cFr.rf.t hF3 (by decide) (by decide), rfl, by show 0 ≤ Int32.toInt 0; decide, by show Int32.toInt 0 ≤ 6; decide, fun i _ => hF3.1 39 i (by decide) List.not_mem_nil, rfl, fun _ => (hF3.1 39 _ (by decide) List.not_mem_nil).trans hp4⟩ _ (dF_gt (by show (6 - Int32.toInt 0).toNat < 1000000000000; decide))
  intro a ha k7 hk7
  obtain ⟨qa, x1, x2⟩ := a
  obtain ⟨a0, a1, a2, a3, a4, a5, a6, a7⟩ := ha
  replace a0 : TC qa := a0
  replace a1 : cFr [34, 39, 40] [] q qa := a1
  replace a2 : p1 = x1 := Eq.symm a2
  replace a3 : 0 ≤ x2.toInt := a3
  replace a4 : x2.toInt ≤ 6 := a4
  replace a5 : R39 q p1 qa := a5
  replace a6 : qa.1 34 0 = q3.1 34 0 := a6
  replace a7 : x2.toInt = 0 → qa.1 39 (Int32.toNatClampNeg p1) = 0 := a7
  subst a2
  have w100 : qa.1 32 100 = q.1 32 100 := a1.1 32 100 (by decide) (by decide)
  show dOk (zX3_listOrder_s32_7b (fun q x1 x2 => k7 (q, x1, x2)) qa p1 x2) _
  unfold zX3_listOrder_s32_7b
  refine dOk_le (by decide : Int32.toInt 6 = 6) rfl (fun c => ?_) (fun c => ?_)
  · unfold zX3_listOrder_s32_40
    refine dFix_ok (fun (a : dK × Int32 × Int32) => TC a.1 ∧ cFr [34, 39, 40] [] q a.1 ∧ a.2.1 = p1 ∧ 1 ≤ a.2.2.toInt ∧ a.2.2.toInt ≤ 7 ∧ R39 q p1 a.1) (fun (a : dK × Int32 × Int32) => (7 - a.2.2.toInt).toNat) ?_ _ ⟨a0, a1, rfl, by show 1 ≤ Int32.toInt 1; decide, by show Int32.toInt 1 ≤ 7; decide, a5⟩ _ (dF_gt (by show (7 - Int32.toInt 1).toNat < 1000000000000; decide))
    intro a ha k40 hk40
    obtain ⟨qb, y1, y2⟩ := a
    obtain ⟨b0, b1, b2, b3, b4, b5⟩ := ha
    replace b0 : TC qb := b0
    replace b1 : cFr [34, 39, 40] [] q qb := b1
    replace b2 : p1 = y1 := Eq.symm b2
    replace b3 : 1 ≤ y2.toInt := b3
    replace b4 : y2.toInt ≤ 7 := b4
    replace b5 : R39 q p1 qb := b5
    subst b2
    have w13 : qb.1 32 13 = q.1 32 13 := b1.1 32 13 (by decide) (by decide)
    show dOk (zX3_listOrder_s32_40b (fun q x1 x2 => k40 (q, x1, x2)) qb p1 y2) _
    unfold zX3_listOrder_s32_40b
    refine dOk_lt rfl rfl (fun c2 => dOk_some ⟨b0, b1, b5⟩) (fun c2 => ?_)
    rw [w13] at c2
    refine dOk_V (ok_X3_setDigits_s32 qb p1 b0 hp0) (fun q5 h5 => ?_)
    obtain ⟨hT5, hF5, -, -⟩ := h5
    replace hT5 : TC q5 := hT5
    replace hF5 : cFr [34] [] qb q5 := hF5
    unfold zX3_listOrder_s32_60
    have u1 : Int32.toInt (y2 - 1) = y2.toInt - 1 := ti_sub rfl (by decide) (by omega) (by omega)
    obtain ⟨ym, hym⟩ : ∃ y : Int32, y2 - 1 = y := ⟨_, rfl⟩
    rw [hym] at u1 ⊢
    clear hym
    refine dFix_ok (fun (a : dK × Int32 × Int32 × Int32 × Int32) => TC a.1 ∧ cFr [34, 39, 40] [] q a.1 ∧ a.2.1 = p1 ∧ a.2.2.1 = y2 ∧ 0 ≤ a.2.2.2.1.toInt ∧ -1 ≤ a.2.2.2.2.toInt ∧ a.2.2.2.2.toInt ≤ 5 ∧ a.2.2.2.1.toInt ≤ 6 ∧ R39 q p1 a.1) (fun (a : dK × Int32 × Int32 × Int32 × Int32) => (6 - a.2.2.2.1.toInt).toNat) ?_ _ ⟨hT5, b1.t hF5 (by decide) (by decide), rfl, rfl, by show 0 ≤ Int32.toInt 0; decide, by show -1 ≤ Int32.toInt ym; omega, by show Int32.toInt ym ≤ 5; omega, by show Int32.toInt 0 ≤ 6; decide, fun i hi => (hF5.1 39 i (by decide) List.not_mem_nil).trans (b5 i hi)⟩ _ (dF_gt (by show (6 - Int32.toInt 0).toNat < 1000000000000; decide))
    intro a ha k60 hk60
    obtain ⟨qc, z1, z2, x3, x4⟩ := a
    obtain ⟨e0, e1, e2, e3, e4, e5, e6, e7, e8⟩ := ha
    replace e0 : TC qc := e0
    replace e1 : cFr [34, 39, 40] [] q qc := e1
    replace e2 : p1 = z1 := Eq.symm e2
    replace e3 : y2 = z2 := Eq.symm e3
    replace e4 : 0 ≤ x3.toInt := e4
    replace e5 : -1 ≤ x4.toInt := e5
    replace e6 : x4.toInt ≤ 5 := e6
    replace e7 : x3.toInt ≤ 6 := e7
    replace e8 : R39 q p1 qc := e8
    subst e2 e3
    show dOk (zX3_listOrder_s32_60b (fun q x1 x2 => k40 (q, x1, x2)) (fun q x1 x2 x3 x4 => k60 (q, x1, x2, x3, x4)) qc p1 y2 x3 x4) _
    unfold zX3_listOrder_s32_60b
    refine dOk_le rfl rfl (fun c3 => ?_) (fun c3 => ?_)
    · refine dOk_B (ok_X3_numberOfOrder_s32 qc e0) (fun r1 q6 h6 => ?_)
      obtain ⟨h6, h7, h8⟩ := h6
      replace h6 : qc = q6 := Eq.symm h6
      replace h7 : 0 ≤ Int32.toInt r1 := h7
      replace h8 : Int32.toInt r1 ≤ 719 := h8
      subst h6
      have w101 : qc.1 32 101 = q.1 32 101 := e1.1 32 101 (by decide) (by decide)
      have t1 : Int32.toInt (p1 * 6) = p1.toInt * 6 := ti_mul rfl (by decide) (by omega) (by omega)
      have t2 : Int32.toInt (p1 * 6 + y2) = p1.toInt * 6 + y2.toInt := ti_add t1 rfl (by omega) (by omega)
      have t3 : Int32.toInt (p1 * 6 + y2 - 1) = p1.toInt * 6 + y2.toInt - 1 := ti_sub t2 (by decide) (by omega) (by omega)
      have t5 : Int32.toInt (y2 + 1) = y2.toInt + 1 := ti_add rfl (by decide) (by omega) (by omega)
      obtain ⟨ix, hix⟩ : ∃ y : Int32, p1 * 6 + y2 - 1 = y := ⟨_, rfl⟩
      rw [hix] at t3 ⊢
      clear hix
      refine dOk_G (dg_ok (by omega) (by rw [w101, cl_eq (by omega)]; omega)) (dOk_L (fun q7 eq7 => ?_))
      refine hk40 (q7, p1, y2 + 1) ⟨by rw [eq7]; exact st_40 e0 h7 h8, by rw [eq7]; exact e1.i (by decide), rfl, by show 1 ≤ Int32.toInt (y2 + 1); omega, by show Int32.toInt (y2 + 1) ≤ 7; omega, fun i hi => by rw [eq7, cui_o (by decide)]; exact e8 i hi⟩ (by show (7 - Int32.toInt (y2 + 1)).toNat < (7 - Int32.toInt y2).toNat; omega)
    · have t3 : Int32.toInt (x3 + 1) = x3.toInt + 1 := ti_add rfl (by decide) (by omega) (by omega)
      have t4 : Int32.toInt (x4 + (-1)) = x4.toInt + (-1) := ti_add rfl (by decide) (by omega) (by omega)
      obtain ⟨xm, hxm⟩ : ∃ y : Int32, x4 + (-1) = y := ⟨_, rfl⟩
      rw [hxm] at t4 ⊢
      clear hxm
      refine dOk_G (dg_ok (by omega) (by omega)) (dOk_L (fun v7 _ => dOk_G (dg_ok (by omega) (by omega)) (dOk_L (fun v9 _ => dOk_G (dg_ok (by omega) (by omega)) (dOk_L (fun q11 eq11 => dOk_G (dg_ok (by omega) (by omega)) (dOk_L (fun q13 eq13 => ?_))))))))
      refine hk60 (q13, p1, y2, x3 + 1, xm) ⟨by rw [eq13, eq11]; exact sa_34 (sa_34 e0), by rw [eq13, eq11]; exact (e1.i (by decide)).i (by decide), rfl, rfl, by show 0 ≤ Int32.toInt (x3 + 1); omega, by show -1 ≤ Int32.toInt xm; omega, by show Int32.toInt xm ≤ 5; omega, by show Int32.toInt (x3 + 1) ≤ 6; omega, fun i hi => by rw [eq13, eq11, cui_o (by decide), cui_o (by decide)]; exact e8 i hi⟩ (by show (6 - Int32.toInt (x3 + 1)).toNat < (6 - Int32.toInt x3).toNat; omega)
  · have hg : Int32.toInt p1 < ((Int32.toNatClampNeg (qa.1 32 100) : Nat) : Int) := by rw [w100, cl_eq (by omega)]; exact hp1
    refine dOk_G (dg_ok hp0 hg) (dOk_L (fun v2 e2 => dOk_G (dg_ok a3 (by omega)) (dOk_L (fun v4 e4 => dOk_G (dg_ok hp0 hg) (dOk_L (fun q6 eq6 => ?_))))))
    have n2 := cl_eq a3
    have t2 : Int32.toInt (x2 + 1) = x2.toInt + 1 := ti_add rfl (by decide) (by omega) (by omega)
    have hD : cD (v2 ||| (v4 <<< (((3 * x2 : Int32) : Int32) &&& 31))) := by
      by_cases c2 : x2.toInt = 0
      · have e0 : Int32.toNatClampNeg x2 = 0 := by omega
        rw [e0, a6] at e4
        rw [a7 c2] at e2
        rw [e2]
        exact cd_0 (by rw [e4]; exact d0) (by rw [e4]; exact d1) c2
      · exact cd_or (by rw [e2]; exact (a0.2.1.2 _).2.2.2.2) (by omega) (by omega)
    refine hk7 (q6, p1, x2 + 1) ⟨by rw [eq6]; exact st_39 a0 hD, by rw [eq6]; exact a1.i (by decide), rfl, by show 0 ≤ Int32.toInt (x2 + 1); omega, by show Int32.toInt (x2 + 1) ≤ 6; omega, fun i hi => by rw [eq6, cui_n hi]; exact a5 i hi, by show q6.1 34 0 = q3.1 34 0; rw [eq6, cui_o (by decide)]; exact a6, fun z => absurd z (by show ¬ Int32.toInt (x2 + 1) = 0; omega)⟩ (by show (6 - Int32.toInt (x2 + 1)).toNat < (6 - Int32.toInt x2).toNat; omega)
theorem ti_or0 (x : Int32) : (x ||| 0).toInt = x.toInt := by
  first | rw [Int32.or_zero] | simp
end
section
set_option maxHeartbeats 4000000 in
set_option maxRecDepth 100000 in
theorem ok_X3_turnsToNumber_s32 (q : dK) (p1 : Int32) (hT : TC q) (hp0 : LD q) (hp1 : 0 ≤ Int32.toInt (q.1 32 15)) (hp2 : Int32.toInt (q.1 32 15) < Int32.toInt (q.1 32 14)) : dOk (zX3_turnsToNumber_s32 q p1) (fun (o : Int32 × dK) => (TC o.2) ∧ (cFr [34, 43, 44] [(32, 19)] q o.2)) := by
  unfold zX3_turnsToNumber_s32
  have hLs := ld_sz hp0
  refine dOk_le (A := 0) (B := Int32.toInt p1) (by decide) rfl (fun c_1 => ?_) (fun c_2 => ?_)
  · unfold zX3_turnsToNumber_s32_13
    refine dFix_ok (fun (a : dK × Int32 × Int32 × Int32) => (TC a.1) ∧ (cFr [34] [] q a.1) ∧ (-1 ≤ Int32.toInt a.2.2.2) ∧ (Int32.toInt a.2.2.2 ≤ 5) ∧ (0 ≤ Int32.toInt a.2.1)) (fun (a : dK × Int32 × Int32 × Int32) => (Int32.toInt a.2.2.2 + 1).toNat) ?_ _ ?_ _ (dF_gt ?_)
    · intro a ha k_4 hk_3
      obtain ⟨q_5, x2_6, x3_7, x4_8⟩ := a
      replace ha : (TC q_5) ∧ (cFr [34] [] q q_5) ∧ (-1 ≤ Int32.toInt x4_8) ∧ (Int32.toInt x4_8 ≤ 5) ∧ (0 ≤ Int32.toInt x2_6) := ha
      obtain ⟨a_9, a_10, a_11, a_12, a_13⟩ := ha
      show dOk (zX3_turnsToNumber_s32_13b  (fun q x2 x3 x4 => k_4 (q, x2, x3, x4)) q_5 x2_6 x3_7 x4_8) _
      unfold zX3_turnsToNumber_s32_13b
      have hFq_5 : cFr [34, 43, 44] [(32, 19)] q q_5 := (cFr.rf (q := q)).t a_10 (by decide) (by decide)
      refine dOk_lt (A := Int32.toInt x4_8) (B := 0) rfl (by decide) (fun c_14 => ?_) (fun c_15 => ?_)
      · refine dOk_eq (A := Int32.toInt x2_6) (B := 0) rfl (by decide) (fun c_16z c_16 => ?_) (fun c_17z c_17 => ?_)
        · have f_19 : 0 ≤ Int32.toInt (q_5.1 32 13) ∧ Int32.toInt (q_5.1 32 13) ≤ 6 := rg_32_13 a_9
          have f_20 : 0 ≤ Int32.toInt (q.1 32 13) ∧ Int32.toInt (q.1 32 13) ≤ 6 := rg_32_13 hT
          have w_21 : Int32.toInt (q_5.1 32 13) = Int32.toInt (q.1 32 13) := by rw [a_10.1 32 13 (by decide) (by decide)]
          try have t_22 := ti_shlP (s := q_5.1 32 13) (by omega) (by omega)
          try have t_23 := ti_shl5 (x := 1) (s := q_5.1 32 13) (by decide) (by decide) (by omega) (by omega)
          try have t_24 := ti_shl6 (x := 1) (s := q_5.1 32 13) (by decide) (by decide) (by omega) (by omega)
          try have t_25 : Int32.toInt (1 <<< ((q_5.1 32 13 : Int32) &&& 31) - 1) = Int32.toInt (1 <<< ((q_5.1 32 13 : Int32) &&& 31)) - 1 := ti_sub rfl (by decide) (by omega) (by omega)
          refine dOk_eq (A := Int32.toInt x3_7) (B := Int32.toInt (1 <<< ((q_5.1 32 13 : Int32) &&& 31) - 1)) rfl rfl (fun c_26z c_26 => ?_) (fun c_27z c_27 => ?_)
          · refine dOk_B (ok_X3_numberOfOrder_s32 q_5 a_9) (fun r_29 q_30 h_31 => ?_)
            replace h_31 : (q_30 = q_5) ∧ (0 ≤ Int32.toInt r_29 ∧ Int32.toInt r_29 ≤ 719) := h_31
            obtain ⟨i_32, i_33⟩ := h_31
            subst q_30
            have f_34 : 0 ≤ Int32.toInt (q_5.1 32 15) ∧ Int32.toInt (q_5.1 32 15) ≤ 46079 := rg_32_15 a_9
            have f_35 : 0 ≤ Int32.toInt (q.1 32 15) ∧ Int32.toInt (q.1 32 15) ≤ 46079 := rg_32_15 hT
            have w_36 : Int32.toInt (q_5.1 32 15) = Int32.toInt (q.1 32 15) := by rw [a_10.1 32 15 (by decide) (by decide)]
            have f_37 : 0 ≤ Int32.toInt (q_5.1 32 14) ∧ Int32.toInt (q_5.1 32 14) ≤ 46080 := rg_32_14 a_9
            have f_38 : 0 ≤ Int32.toInt (q.1 32 14) ∧ Int32.toInt (q.1 32 14) ≤ 46080 := rg_32_14 hT
            have w_39 : Int32.toInt (q_5.1 32 14) = Int32.toInt (q.1 32 14) := by rw [a_10.1 32 14 (by decide) (by decide)]
            refine dOk_B (ok_X3_nearest_s32 q_5 1 r_29 a_9 (ld_fr hp0 hFq_5 rfl) (show 0 ≤ Int32.toInt (q_5.1 32 15) by omega) (show Int32.toInt (q_5.1 32 15) < Int32.toInt (q_5.1 32 14) by omega)) (fun r_40 q_41 h_42 => ?_)
            replace h_42 : (TC q_41) ∧ (cFr [43, 44] [(32, 19)] q_5 q_41) := h_42
            obtain ⟨i_43, i_44⟩ := h_42
            have hFq_41 : cFr [34, 43, 44] [(32, 19)] q q_41 := hFq_5.t i_44 (by decide) (by decide)
            exact dOk_some (show (TC q_41) ∧ (cFr [34, 43, 44] [(32, 19)] q q_41) from ⟨i_43, hFq_41⟩)
          · unfold zX3_turnsToNumber_s32_105
            exact dOk_some (show (TC q_5) ∧ (cFr [34, 43, 44] [(32, 19)] q q_5) from ⟨a_9, hFq_5⟩)
        · unfold zX3_turnsToNumber_s32_105
          exact dOk_some (show (TC q_5) ∧ (cFr [34, 43, 44] [(32, 19)] q q_5) from ⟨a_9, hFq_5⟩)
      · refine dOk_G (dg_ok (show 0 ≤ Int32.toInt x4_8 by omega) (show Int32.toInt x4_8 < ((6 : Nat) : Int) by omega)) ?_
        have n_45 : ((Int32.toNatClampNeg x4_8 : Nat) : Int) = Int32.toInt x4_8 := cl_eq (by omega)
        refine dOk_L (fun q_46 eq_46 => ?_)
        have hTq_46 : TC q_46 := by rw [eq_46]; exact sa_34 a_9
        have hFq_46 : cFr [34, 43, 44] [(32, 19)] q q_46 := by rw [eq_46]; exact hFq_5.i (by decide)
        have f_47 : 0 ≤ Int32.toInt (q_46.1 32 13) ∧ Int32.toInt (q_46.1 32 13) ≤ 6 := rg_32_13 hTq_46
        have f_48 : 0 ≤ Int32.toInt (q_5.1 32 13) ∧ Int32.toInt (q_5.1 32 13) ≤ 6 := rg_32_13 a_9
        have f_49 : 0 ≤ Int32.toInt (q.1 32 13) ∧ Int32.toInt (q.1 32 13) ≤ 6 := rg_32_13 hT
        have w_50 : Int32.toInt (q_5.1 32 13) = Int32.toInt (q.1 32 13) := by rw [a_10.1 32 13 (by decide) (by decide)]
        try have w_51 : Int32.toInt (q_46.1 32 13) = Int32.toInt (q_5.1 32 13) := by rw [eq_46, cui_o (by decide)]
        refine dOk_le (A := Int32.toInt (q_46.1 32 13)) (B := Int32.toInt x4_8) rfl rfl (fun c_52 => ?_) (fun c_53 => ?_)
        · unfold zX3_turnsToNumber_s32_83
          obtain ⟨y_54, hy_54⟩ : ∃ y : Int32, x4_8 + (-1) = y := ⟨_, rfl⟩
          have t_55 : Int32.toInt y_54 = Int32.toInt x4_8 + (-1) := by rw [← hy_54]; exact ti_add rfl (by decide) (by omega) (by omega)
          rw [hy_54]
          clear hy_54
          exact hk_3 (q_46, x2_6, x3_7, y_54) (show (TC q_46) ∧ (cFr [34] [] q q_46) ∧ (-1 ≤ Int32.toInt y_54) ∧ (Int32.toInt y_54 ≤ 5) ∧ (0 ≤ Int32.toInt x2_6) from ⟨hTq_46, (by rw [eq_46]; exact (((cFr.rf : cFr [34] [] q q).t a_10 (by decide) (by decide)) : cFr [34] [] q q_5).i (by decide)), by omega, by omega, by omega⟩) (show (Int32.toInt y_54 + 1).toNat < (Int32.toInt x4_8 + 1).toNat by omega)
        · try have t_56 : Int32.toInt (x2_6 - x2_6 / 10 * 10) = Int32.toInt x2_6 % 10 := ti_rem rfl (by decide) (by omega) (by omega)
          refine dOk_B (ok_X3_indexOfRank_s32 q_46 (x2_6 - x2_6 / 10 * 10) hTq_46) (fun r_57 q_58 h_59 => ?_)
          replace h_59 : (q_58 = q_46) ∧ (-1 ≤ Int32.toInt r_57 ∧ Int32.toInt r_57 ≤ 5) := h_59
          obtain ⟨i_60, i_61⟩ := h_59
          subst q_58
          refine dOk_G (dg_ok (show 0 ≤ Int32.toInt x4_8 by omega) (show Int32.toInt x4_8 < ((6 : Nat) : Int) by omega)) ?_
          refine dOk_L (fun q_62 eq_62 => ?_)
          have hTq_62 : TC q_62 := by rw [eq_62]; exact sa_34 hTq_46
          have hFq_62 : cFr [34, 43, 44] [(32, 19)] q q_62 := by rw [eq_62]; exact hFq_46.i (by decide)
          refine dOk_G (dg_ok (show 0 ≤ Int32.toInt x4_8 by omega) (show Int32.toInt x4_8 < ((6 : Nat) : Int) by omega)) ?_
          refine dOk_L (fun v_63 ev_63 => ?_)
          refine dOk_eq (A := Int32.toInt v_63) (B := (-1)) rfl (by decide) (fun c_64z c_64 => ?_) (fun c_65z c_65 => ?_)
          · unfold zX3_turnsToNumber_s32_81
            unfold zX3_turnsToNumber_s32_83
            try have t_67 : Int32.toInt (x2_6 / 10) = Int32.toInt x2_6 / 10 := ti_div rfl (by decide) (by omega) (by omega)
            have t_68 : Int32.toInt (x3_7 ||| 0) = Int32.toInt x3_7 := ti_or0 _
            obtain ⟨y_69, hy_69⟩ : ∃ y : Int32, x4_8 + (-1) = y := ⟨_, rfl⟩
            have t_70 : Int32.toInt y_69 = Int32.toInt x4_8 + (-1) := by rw [← hy_69]; exact ti_add rfl (by decide) (by omega) (by omega)
            rw [hy_69]
            clear hy_69
            exact hk_3 (q_62, (x2_6 / 10), (x3_7 ||| 0), y_69) (show (TC q_62) ∧ (cFr [34] [] q q_62) ∧ (-1 ≤ Int32.toInt y_69) ∧ (Int32.toInt y_69 ≤ 5) ∧ (0 ≤ Int32.toInt (x2_6 / 10)) from ⟨hTq_62, (by rw [eq_62]; exact ((by rw [eq_46]; exact (((cFr.rf : cFr [34] [] q q).t a_10 (by decide) (by decide)) : cFr [34] [] q q_5).i (by decide)) : cFr [34] [] q q_46).i (by decide)), by omega, by omega, by omega⟩) (show (Int32.toInt y_69 + 1).toNat < (Int32.toInt x4_8 + 1).toNat by omega)
          · refine dOk_G (dg_ok (show 0 ≤ Int32.toInt x4_8 by omega) (show Int32.toInt x4_8 < ((6 : Nat) : Int) by omega)) ?_
            refine dOk_L (fun v_71 ev_71 => ?_)
            have w_72 : Int32.toInt v_71 = Int32.toInt v_63 := by rw [ev_71, ev_63]
            unfold zX3_turnsToNumber_s32_81
            unfold zX3_turnsToNumber_s32_83
            try have t_73 : Int32.toInt (x2_6 / 10) = Int32.toInt x2_6 / 10 := ti_div rfl (by decide) (by omega) (by omega)
            try have t_74 := ti_shlP (s := v_71) (by omega) (by omega)
            try have t_75 := ti_shl5 (x := 1) (s := v_71) (by decide) (by decide) (by omega) (by omega)
            try have t_76 := ti_shl6 (x := 1) (s := v_71) (by decide) (by decide) (by omega) (by omega)
            try have t_77 := ti_or (x := x3_7) (y := 1 <<< ((v_71 : Int32) &&& 31)) 6 (by decide) (by omega) (by omega) (by omega) (by omega)
            obtain ⟨y_78, hy_78⟩ : ∃ y : Int32, x4_8 + (-1) = y := ⟨_, rfl⟩
            have t_79 : Int32.toInt y_78 = Int32.toInt x4_8 + (-1) := by rw [← hy_78]; exact ti_add rfl (by decide) (by omega) (by omega)
            rw [hy_78]
            clear hy_78
            exact hk_3 (q_62, (x2_6 / 10), (x3_7 ||| 1 <<< ((v_71 : Int32) &&& 31)), y_78) (show (TC q_62) ∧ (cFr [34] [] q q_62) ∧ (-1 ≤ Int32.toInt y_78) ∧ (Int32.toInt y_78 ≤ 5) ∧ (0 ≤ Int32.toInt (x2_6 / 10)) from ⟨hTq_62, (by rw [eq_62]; exact ((by rw [eq_46]; exact (((cFr.rf : cFr [34] [] q q).t a_10 (by decide) (by decide)) : cFr [34] [] q q_5).i (by decide)) : cFr [34] [] q q_46).i (by decide)), by omega, by omega, by omega⟩) (show (Int32.toInt y_78 + 1).toNat < (Int32.toInt x4_8 + 1).toNat by omega)
    · exact (show (TC q) ∧ (cFr [34] [] q q) ∧ (-1 ≤ (5 : Int)) ∧ ((5 : Int) ≤ 5) ∧ (0 ≤ Int32.toInt p1) from ⟨hT, cFr.rf, by omega, by omega, by omega⟩)
    · show ((5 : Int) + 1).toNat < 1000000000000
      omega
  · exact dOk_some (show (TC q) ∧ (cFr [34, 43, 44] [(32, 19)] q q) from ⟨hT, (cFr.rf (q := q))⟩)
end
section
/-! room on the paper -/
theorem nl0 {x : Int32} (h : 0 ≤ x.toInt) : ¬ x < 0 := by
  intro z
  have h2 := Int32.lt_iff_toInt_lt.mp z
  have h3 : (0 : Int32).toInt = 0 := rfl
  omega
theorem cn_j {q : dK} {j k i : Nat} {n : Int32} : (cnw q j k n).1 j i = 0 := by
  show (if j = j then (fun _ => (0 : Int32)) else if j = 32 then upd (q.1 32) k n else q.1 j) i = 0
  rw [if_pos rfl]
theorem cn_o {q : dK} {j k a : Nat} {n : Int32} (h : ¬ a = j) (h2 : ¬ a = 32) : (cnw q j k n).1 a = q.1 a := by
  show (if a = j then (fun _ => (0 : Int32)) else if a = 32 then upd (q.1 32) k n else q.1 a) = _
  rw [if_neg h, if_neg h2]
theorem cn_32 {q : dK} {j k : Nat} {n : Int32} (h : ¬ 32 = j) : (cnw q j k n).1 32 = upd (q.1 32) k n := by
  show (if 32 = j then (fun _ => (0 : Int32)) else if 32 = 32 then upd (q.1 32) k n else q.1 32) = _
  rw [if_neg h, if_pos rfl]
theorem cn_k {q : dK} {j k i : Nat} {n : Int32} (h : ¬ 32 = j) (h2 : ¬ i = k) : (cnw q j k n).1 32 i = q.1 32 i := by
  rw [cn_32 h]; exact if_neg h2
theorem cn_s {q : dK} {j k : Nat} {n : Int32} (h : ¬ 32 = j) : (cnw q j k n).1 32 k = n := by
  rw [cn_32 h]; exact if_pos rfl
def RMr (J : List Nat) (q q' : dK) : Prop := (∀ j k : Nat, j ∈ J → q'.1 j k = 0) ∧ (∀ j k : Nat, j ∉ J → ¬ (j = 32 ∧ 100 ≤ k ∧ k < 107) → q'.1 j k = q.1 j k) ∧ q'.2 = q.2
theorem RMr.rf {q : dK} : RMr [] q q := ⟨fun _ _ h => absurd h List.not_mem_nil, fun _ _ _ _ => rfl, rfl⟩
theorem RMr.s {J : List Nat} {q q' : dK} (h : RMr J q q') {j k : Nat} {n : Int32} (hj : ¬ 32 = j) (hJ : 32 ∉ J) (hk : 100 ≤ k ∧ k < 107) : RMr (j :: J) q (cnw q' j k n) := by
  refine ⟨fun a b ha => ?_, fun a b ha hb => ?_, h.2.2⟩
  · by_cases c : a = j
    · subst c; exact cn_j
    · have ha2 : a ∈ J := by
        rcases List.mem_cons.mp ha with z | z
        · exact absurd z c
        · exact z
      rw [cn_o c (fun z => hJ (by rw [← z]; exact ha2))]; exact h.1 a b ha2
  · have c : ¬ a = j := fun z => ha (by rw [z]; exact List.mem_cons_self)
    have c2 : a ∉ J := fun z => ha (List.mem_cons_of_mem _ z)
    by_cases c3 : a = 32
    · subst c3
      rw [cn_k hj (by omega)]; exact h.2.1 32 b c2 hb
    · rw [cn_o c c3]; exact h.2.1 a b c2 hb
theorem tc_room {q q' : dK} (h : TC q) (n : Nat) (hn : n ≤ 6) (h0 : ∀ j k : Nat, 39 ≤ j → j ≤ 45 → q'.1 j k = 0) (h1 : ∀ j k : Nat, (j < 39 ∨ 45 < j) → ¬ (j = 32 ∧ 100 ≤ k ∧ k < 107) → q'.1 j k = q.1 j k) (h2 : q'.2 = q.2) (k0 : (q'.1 32 100).toInt = facI n) (k1 : (q'.1 32 101).toInt = 6 * facI n) (k2 : (q'.1 32 102).toInt = 6 * powI n) (k3 : (q'.1 32 103).toInt = facI n * powI n) (k4 : (q'.1 32 104).toInt = facI n * powI n) (k5 : (q'.1 32 105).toInt = facI n * powI n) (k6 : (q'.1 32 106).toInt = facI n * powI n) : TC q' := by
  obtain ⟨hE, hC, hP, hL, hT⟩ := h
  obtain ⟨g1, g2, g3, g4, g5, g6, g7, g8, g9⟩ := fp_all n (by omega) n (by omega) (Nat.le_refl n)
  refine ⟨fun j k => ?_, ?_, Or.inr ⟨n, hn, k0, k1, k2, k3, k4, k5, k6⟩, by unfold CL; rw [h2]; exact hL, by rw [h2]; exact hT⟩
  · by_cases c : 39 ≤ j ∧ j ≤ 45
    · rw [h0 j k c.1 c.2]
      have hc : j = 39 ∨ j = 40 ∨ j = 41 ∨ j = 42 ∨ j = 43 ∨ j = 44 ∨ j = 45 := by omega
      rcases hc with e | e | e | e | e | e | e
      · subst e; exact ⟨(by decide : (-2147483648 : Int) ≤ 0), (by decide : (0 : Int) ≤ 2147483647)⟩
      · subst e; exact ⟨(by decide : (0 : Int) ≤ 0), (by decide : (0 : Int) ≤ 719)⟩
      · subst e; exact ⟨(by decide : (0 : Int) ≤ 0), (by decide : (0 : Int) ≤ 63)⟩
      · subst e; exact ⟨(by decide : (-2147483648 : Int) ≤ 0), (by decide : (0 : Int) ≤ 2147483647)⟩
      · subst e; exact ⟨(by decide : (-2147483648 : Int) ≤ 0), (by decide : (0 : Int) ≤ 2147483647)⟩
      · subst e; exact ⟨(by decide : (-2147483648 : Int) ≤ 0), (by decide : (0 : Int) ≤ 2147483647)⟩
      · subst e; exact ⟨(by decide : (-2147483648 : Int) ≤ 0), (by decide : (0 : Int) ≤ 2147483647)⟩
    · by_cases c2 : j = 32 ∧ 100 ≤ k ∧ k < 107
      · obtain ⟨rfl, c3, c4⟩ := c2
        have hc : k = 100 ∨ k = 101 ∨ k = 102 ∨ k = 103 ∨ k = 104 ∨ k = 105 ∨ k = 106 := by omega
        rcases hc with e | e | e | e | e | e | e
        · subst e; rw [k0]; exact ⟨(by omega : (0 : Int) ≤ facI n), (by omega : facI n ≤ (46080 : Int))⟩
        · subst e; rw [k1]; exact ⟨(by omega : (0 : Int) ≤ 6 * facI n), (by omega : 6 * facI n ≤ (46080 : Int))⟩
        · subst e; rw [k2]; exact ⟨(by omega : (0 : Int) ≤ 6 * powI n), (by omega : 6 * powI n ≤ (46080 : Int))⟩
        · subst e; rw [k3]; exact ⟨(by omega : (0 : Int) ≤ facI n * powI n), (by omega : facI n * powI n ≤ (46080 : Int))⟩
        · subst e; rw [k4]; exact ⟨(by omega : (0 : Int) ≤ facI n * powI n), (by omega : facI n * powI n ≤ (46080 : Int))⟩
        · subst e; rw [k5]; exact ⟨(by omega : (0 : Int) ≤ facI n * powI n), (by omega : facI n * powI n ≤ (46080 : Int))⟩
        · subst e; rw [k6]; exact ⟨(by omega : (0 : Int) ≤ facI n * powI n), (by omega : facI n * powI n ≤ (46080 : Int))⟩
      · rw [h1 j k (by omega) c2]; exact hE j k
  · unfold CC
    rw [h2]
    refine ⟨by rw [h1 20 2 (by omega) (by omega)]; exact hC.1, fun i => ?_⟩
    rw [h1 7 i (by omega) (by omega), h1 55 i (by omega) (by omega), h1 62 i (by omega) (by omega), h1 31 i (by omega) (by omega), h0 39 i (by omega) (by omega)]
    exact ⟨(hC.2 i).1, (hC.2 i).2.1, (hC.2 i).2.2.1, (hC.2 i).2.2.2.1, by unfold cD; decide⟩
theorem sh_6 {s : Int32} {n : Nat} (hn : n < 7) (hs : s.toInt = (n : Int)) : ((6 : Int32) <<< (s &&& 31)).toInt = 6 * powI n := by
  obtain ⟨m, rfl, hm, -⟩ := ti_nI (x := s) (by omega)
  have e : m = n := by omega
  subst e
  have h : ∀ k : Nat, k < 7 → ((6 : Int32) <<< (nI k &&& 31)).toInt = 6 * powI k := by decide +kernel
  exact h m hn

theorem ok_X3_makeRoom_s32 (nc : Nat) (ns : Nat) (q : dK) (hT : TC q) (hn1 : 7 ≤ nc) (hn2 : 189744 ≤ ns) (n : Nat) (hn : n ≤ 6) (h13 : (q.1 32 13).toInt = (n : Int)) (h14 : (q.1 32 14).toInt = facI n * powI n) : dOk (zX3_makeRoom_s32 nc ns q) (fun (o : dK) => (TC o) ∧ (cFr [34, 39, 40, 41, 42, 43, 44, 45] [(32, 17), (32, 100), (32, 101), (32, 102), (32, 103), (32, 104), (32, 105), (32, 106)] q o) ∧ (o.1 32 103 = q.1 32 14)) := by
  obtain ⟨g1, g2, g3, g4, g5, g6, g7, g8, g9⟩ := fp_all n (by omega) n (by omega) (Nat.le_refl n)
  have hS : 1 ≤ (q.1 32 14).toInt ∧ (q.1 32 14).toInt ≤ 46080 := by rw [h14]; exact ⟨g6, g7⟩
  have nS := cl_eq (i := q.1 32 14) (by omega)
  have hS0 := nl0 (x := q.1 32 14) (by omega)
  unfold zX3_makeRoom_s32
  refine dOk_G (decide_eq_true ⟨hS0, by omega, by omega, by omega⟩) (dOk_L (fun q2 eq2 => ?_))
  have aq2 : q2.1 32 14 = q.1 32 14 := by rw [eq2, cn_k (by decide) (by decide)]
  have bq2 : q2.1 32 13 = q.1 32 13 := by rw [eq2, cn_k (by decide) (by decide)]
  rw [aq2]
  refine dOk_G (decide_eq_true ⟨hS0, by omega, by omega, by omega⟩) (dOk_L (fun q4 eq4 => ?_))
  have aq4 : q4.1 32 14 = q.1 32 14 := by rw [eq4, cn_k (by decide) (by decide)]; exact aq2
  have bq4 : q4.1 32 13 = q.1 32 13 := by rw [eq4, cn_k (by decide) (by decide)]; exact bq2
  rw [aq4]
  refine dOk_G (decide_eq_true ⟨hS0, by omega, by omega, by omega⟩) (dOk_L (fun q6 eq6 => ?_))
  have aq6 : q6.1 32 14 = q.1 32 14 := by rw [eq6, cn_k (by decide) (by decide)]; exact aq4
  have bq6 : q6.1 32 13 = q.1 32 13 := by rw [eq6, cn_k (by decide) (by decide)]; exact bq4
  rw [aq6]
  refine dOk_G (decide_eq_true ⟨hS0, by omega, by omega, by omega⟩) (dOk_L (fun q8 eq8 => ?_))
  have aq8 : q8.1 32 14 = q.1 32 14 := by rw [eq8, cn_k (by decide) (by decide)]; exact aq6
  have bq8 : q8.1 32 13 = q.1 32 13 := by rw [eq8, cn_k (by decide) (by decide)]; exact bq6
  have hf := fac_v (x := q.1 32 13) (by omega) (by omega)
  rw [h13] at hf
  rw [bq8]
  refine dOk_G (dg_ok (by omega) (by omega)) (dOk_L (fun v10 e10 => ?_))
  rw [← e10] at hf
  have n10 := cl_eq (i := v10) (by omega)
  refine dOk_G (decide_eq_true ⟨nl0 (by omega), by omega, by omega, by omega⟩) (dOk_L (fun q12 eq12 => ?_))
  have bq12 : q12.1 32 13 = q.1 32 13 := by rw [eq12, cn_k (by decide) (by decide)]; exact bq8
  rw [bq12]
  refine dOk_G (dg_ok (by omega) (by omega)) (dOk_L (fun v14 e14 => ?_))
  have ev : v14 = v10 := by rw [e14, e10]
  rw [ev]
  have t6 : Int32.toInt (v10 * 6) = facI n * 6 := ti_mul hf (by decide) (by omega) (by omega)
  have n14 := cl_eq (i := v10 * 6) (by omega)
  refine dOk_G (decide_eq_true ⟨nl0 (by omega), by omega, by omega, by omega⟩) (dOk_L (fun q16 eq16 => ?_))
  have bq16 : q16.1 32 13 = q.1 32 13 := by rw [eq16, cn_k (by decide) (by decide)]; exact bq12
  rw [bq16]
  have t7 := sh_6 (s := q.1 32 13) (n := n) (by omega) h13
  have n16 := cl_eq (i := (6 : Int32) <<< ((q.1 32 13 : Int32) &&& 31)) (by omega)
  refine dOk_G (decide_eq_true ⟨nl0 (by omega), by omega, by omega, by omega⟩) (dOk_L (fun q18 eq18 => ?_))
  have bq18 : q18.1 32 13 = q.1 32 13 := by rw [eq18, cn_k (by decide) (by decide)]; exact bq16
  have l100 : q18.1 32 100 = v10 := by rw [eq18, cn_k (by decide) (by decide), eq16, cn_k (by decide) (by decide), eq12, cn_s (by decide)]
  have l101 : q18.1 32 101 = v10 * 6 := by rw [eq18, cn_k (by decide) (by decide), eq16, cn_s (by decide)]
  have l102 : q18.1 32 102 = (6 : Int32) <<< ((q.1 32 13 : Int32) &&& 31) := by rw [eq18, cn_s (by decide)]
  have l103 : q18.1 32 103 = q.1 32 14 := by rw [eq18, cn_k (by decide) (by decide), eq16, cn_k (by decide) (by decide), eq12, cn_k (by decide) (by decide), eq8, cn_k (by decide) (by decide), eq6, cn_k (by decide) (by decide), eq4, cn_k (by decide) (by decide), eq2, cn_s (by decide)]
  have l104 : q18.1 32 104 = q.1 32 14 := by rw [eq18, cn_k (by decide) (by decide), eq16, cn_k (by decide) (by decide), eq12, cn_k (by decide) (by decide), eq8, cn_k (by decide) (by decide), eq6, cn_k (by decide) (by decide), eq4, cn_s (by decide)]
  have l105 : q18.1 32 105 = q.1 32 14 := by rw [eq18, cn_k (by decide) (by decide), eq16, cn_k (by decide) (by decide), eq12, cn_k (by decide) (by decide), eq8, cn_k (by decide) (by decide), eq6, cn_s (by decide)]
  have l106 : q18.1 32 106 = q.1 32 14 := by rw [eq18, cn_k (by decide) (by decide), eq16, cn_k (by decide) (by decide), eq12, cn_k (by decide) (by decide), eq8, cn_s (by decide)]
  have hR : RMr [41, 40, 39, 45, 44, 43, 42] q q18 := by
    rw [eq18]
    refine RMr.s ?_ (by decide) (by decide) (by decide)
    rw [eq16]
    refine RMr.s ?_ (by decide) (by decide) (by decide)
    rw [eq12]
    refine RMr.s ?_ (by decide) (by decide) (by decide)
    rw [eq8]
    refine RMr.s ?_ (by decide) (by decide) (by decide)
    rw [eq6]
    refine RMr.s ?_ (by decide) (by decide) (by decide)
    rw [eq4]
    refine RMr.s ?_ (by decide) (by decide) (by decide)
    rw [eq2]
    exact RMr.s RMr.rf (by decide) (by decide) (by decide)
  have hT18 : TC q18 := tc_room hT n hn (fun j k c1 c2 => hR.1 j k (by have hc : j = 39 ∨ j = 40 ∨ j = 41 ∨ j = 42 ∨ j = 43 ∨ j = 44 ∨ j = 45 := by omega
                                                                       rcases hc with e | e | e | e | e | e | e <;> subst e <;> decide)) (fun j k c1 c2 => hR.2.1 j k (by simp only [List.mem_cons, List.not_mem_nil, or_false]; omega) c2) hR.2.2 (by rw [l100]; exact hf) (by rw [l101, t6]; omega) (by rw [l102]; exact t7) (by rw [l103]; exact h14) (by rw [l104]; exact h14) (by rw [l105]; exact h14) (by rw [l106]; exact h14)
  have hF18 : cFr [34, 39, 40, 41, 42, 43, 44, 45] [(32, 17), (32, 100), (32, 101), (32, 102), (32, 103), (32, 104), (32, 105), (32, 106)] q q18 := by
    refine ⟨fun j k c1 c2 => hR.2.1 j k (fun z => c1 ?_) (fun z => ?_), by rw [hR.2.2]⟩
    · simp only [List.mem_cons, List.not_mem_nil, or_false] at z ⊢
      omega
    · obtain ⟨rfl, z1, z2⟩ := z
      have hc : k = 100 ∨ k = 101 ∨ k = 102 ∨ k = 103 ∨ k = 104 ∨ k = 105 ∨ k = 106 := by omega
      rcases hc with e | e | e | e | e | e | e <;> subst e <;> exact c2 (by decide)
  have z18 : ∀ i : Nat, q18.1 39 i = 0 := fun i => hR.1 39 i (by decide)
  clear eq18 eq16 eq12 eq8 eq6 eq4 eq2 hR
  refine dOk_L (fun q19 eq19 => ?_)
  have hT19 : TC q19 := by rw [eq19]; exact sa_32_17 hT18
  have hF19 : cFr [34, 39, 40, 41, 42, 43, 44, 45] [(32, 17), (32, 100), (32, 101), (32, 102), (32, 103), (32, 104), (32, 105), (32, 106)] q q19 := by rw [eq19]; exact hF18.f (by decide)
  have m13 : q19.1 32 13 = q.1 32 13 := by rw [eq19, cui_n (by decide)]; exact bq18
  have m100 : (q19.1 32 100).toInt = facI n := by rw [eq19, cui_n (by decide), l100]; exact hf
  have m101 : (q19.1 32 101).toInt = 6 * facI n := by rw [eq19, cui_n (by decide), l101, t6]; omega
  have m102 : (q19.1 32 102).toInt = 6 * powI n := by rw [eq19, cui_n (by decide), l102]; exact t7
  have m103 : q19.1 32 103 = q.1 32 14 := by rw [eq19, cui_n (by decide)]; exact l103
  have z19 : ∀ i : Nat, q19.1 39 i = 0 := fun i => by rw [eq19, cui_o (by decide)]; exact z18 i
  clear eq19 hT18 hF18 z18
  unfold zX3_makeRoom_s32_91
  refine dFix_ok (fun (a : dK × Int32) => TC a.1 ∧ cFr [34, 39, 40] [] q19 a.1 ∧ 0 ≤ a.2.toInt ∧ a.2.toInt ≤ facI n ∧ ∀ i : Nat, a.2.toInt ≤ (i : Int) → a.1.1 39 i = 0) (fun (a : dK × Int32) => (facI n - a.2.toInt).toNat) ?_ _ ⟨hT19, cFr.rf, by show 0 ≤ Int32.toInt 0; decide, by show (0 : Int) ≤ facI n; omega, fun i _ => z19 i⟩ _ (dF_gt (by show (facI n - 0).toNat < 1000000000000; omega))
  intro a ha k91 hk91
  obtain ⟨qa, x1⟩ := a
  obtain ⟨a0, a1, a2, a3, a4⟩ := ha
  replace a0 : TC qa := a0
  replace a1 : cFr [34, 39, 40] [] q19 qa := a1
  replace a2 : 0 ≤ x1.toInt := a2
  replace a3 : x1.toInt ≤ facI n := a3
  replace a4 : ∀ i : Nat, x1.toInt ≤ (i : Int) → qa.1 39 i = 0 := a4
  have w100 : qa.1 32 100 = q19.1 32 100 := a1.1 32 100 (by decide) (by decide)
  have w101 : qa.1 32 101 = q19.1 32 101 := a1.1 32 101 (by decide) (by decide)
  show dOk (zX3_makeRoom_s32_91b nc ns (fun q x1 => k91 (q, x1)) qa x1) _
  unfold zX3_makeRoom_s32_91b
  refine dOk_le (A := facI n) (by rw [w100, of_cl (by omega)]; exact m100) rfl (fun c => ?_) (fun c => ?_)
  · unfold zX3_makeRoom_s32_113
    refine dFix_ok (fun (a : dK × Int32) => TC a.1 ∧ cFr [34, 39, 40, 41] [] q19 a.1 ∧ 0 ≤ a.2.toInt ∧ a.2.toInt ≤ powI n) (fun (a : dK × Int32) => (powI n - a.2.toInt).toNat) ?_ _ ⟨a0, cFr.rf.t a1 (by decide) (by decide), by show 0 ≤ Int32.toInt 0; decide, by show (0 : Int) ≤ powI n; omega⟩ _ (dF_gt (by show (powI n - 0).toNat < 1000000000000; omega))
    intro a ha k113 hk113
    obtain ⟨qb, y1⟩ := a
    obtain ⟨b0, b1, b2, b3⟩ := ha
    replace b0 : TC qb := b0
    replace b1 : cFr [34, 39, 40, 41] [] q19 qb := b1
    replace b2 : 0 ≤ y1.toInt := b2
    replace b3 : y1.toInt ≤ powI n := b3
    have v13 : qb.1 32 13 = q.1 32 13 := (b1.1 32 13 (by decide) (by decide)).trans m13
    show dOk (zX3_makeRoom_s32_113b nc ns (fun q x1 => k113 (q, x1)) qb y1) _
    unfold zX3_makeRoom_s32_113b
    refine dOk_le (A := powI n) (by rw [v13, ti_shlP (by omega) (by omega), h13]) rfl (fun c2 => dOk_some ⟨b0, hF19.t b1 (by decide) (by decide), (b1.1 32 103 (by decide) (by decide)).trans m103⟩) (fun c2 => ?_)
    unfold zX3_makeRoom_s32_125
    refine dFix_ok (fun (a : dK × Int32 × Int32) => TC a.1 ∧ cFr [34, 39, 40, 41] [] q19 a.1 ∧ a.2.1 = y1 ∧ 1 ≤ a.2.2.toInt ∧ a.2.2.toInt ≤ 7) (fun (a : dK × Int32 × Int32) => (7 - a.2.2.toInt).toNat) ?_ _ ⟨b0, b1, rfl, by show 1 ≤ Int32.toInt 1; decide, by show Int32.toInt 1 ≤ 7; decide⟩ _ (dF_gt (by show (7 - Int32.toInt 1).toNat < 1000000000000; decide))
    intro a ha k125 hk125
    obtain ⟨qc, z1, x2⟩ := a
    obtain ⟨e0, e1, e2, e3, e4⟩ := ha
    replace e0 : TC qc := e0
    replace e1 : cFr [34, 39, 40, 41] [] q19 qc := e1
    replace e2 : y1 = z1 := Eq.symm e2
    replace e3 : 1 ≤ x2.toInt := e3
    replace e4 : x2.toInt ≤ 7 := e4
    subst e2
    have u13 : qc.1 32 13 = q.1 32 13 := (e1.1 32 13 (by decide) (by decide)).trans m13
    have u102 : qc.1 32 102 = q19.1 32 102 := e1.1 32 102 (by decide) (by decide)
    have ty : Int32.toInt (y1 + 1) = y1.toInt + 1 := ti_add rfl (by decide) (by omega) (by omega)
    have tx : Int32.toInt (x2 + 1) = x2.toInt + 1 := ti_add rfl (by decide) (by omega) (by omega)
    show dOk (zX3_makeRoom_s32_125b nc ns (fun q x1 => k113 (q, x1)) (fun q x1 x2 => k125 (q, x1, x2)) qc y1 x2) _
    unfold zX3_makeRoom_s32_125b
    refine dOk_lt (A := (n : Int)) (by rw [u13]; exact h13) rfl (fun c3 => ?_) (fun c3 => ?_)
    · exact hk113 (qc, y1 + 1) ⟨e0, e1, by show 0 ≤ Int32.toInt (y1 + 1); omega, by show Int32.toInt (y1 + 1) ≤ powI n; omega⟩ (by show (powI n - Int32.toInt (y1 + 1)).toNat < (powI n - Int32.toInt y1).toNat; omega)
    · refine dOk_V (ok_X3_headsTurned y1 x2 b2 (by omega) e3 (by omega)) (fun r1 hr => ?_)
      replace hr : 0 ≤ Int32.toInt r1 ∧ Int32.toInt r1 ≤ 63 := hr
      have t1 : Int32.toInt (y1 * 6) = y1.toInt * 6 := ti_mul rfl (by decide) (by omega) (by omega)
      have t2 : Int32.toInt (y1 * 6 + x2) = y1.toInt * 6 + x2.toInt := ti_add t1 rfl (by omega) (by omega)
      have t3 : Int32.toInt (y1 * 6 + x2 - 1) = y1.toInt * 6 + x2.toInt - 1 := ti_sub t2 (by decide) (by omega) (by omega)
      refine dOk_G (dg_ok (by omega) (by rw [u102, cl_eq (by omega)]; omega)) (dOk_L (fun q4 e4q => ?_))
      exact hk125 (q4, y1, x2 + 1) ⟨by rw [e4q]; exact st_41 e0 hr.1 hr.2, by rw [e4q]; exact e1.i (by decide), rfl, by show 1 ≤ Int32.toInt (x2 + 1); omega, by show Int32.toInt (x2 + 1) ≤ 7; omega⟩ (by show (7 - Int32.toInt (x2 + 1)).toNat < (7 - Int32.toInt x2).toNat; omega)
  · have n1 := cl_eq a2
    have ty : Int32.toInt (x1 + 1) = x1.toInt + 1 := ti_add rfl (by decide) (by omega) (by omega)
    refine dOk_V (ok_X3_listOrder_s32 qa x1 a0 a2 (by rw [w100]; omega) (by rw [w100, w101]; omega) (by rw [w100]; omega) (a4 _ (by omega))) (fun q3 h3 => ?_)
    obtain ⟨h30, h31, h32⟩ := h3
    replace h30 : TC q3 := h30
    replace h31 : cFr [34, 39, 40] [] qa q3 := h31
    replace h32 : R39 qa x1 q3 := h32
    exact hk91 (q3, x1 + 1) ⟨h30, a1.t h31 (by decide) (by decide), by show 0 ≤ Int32.toInt (x1 + 1); omega, by show Int32.toInt (x1 + 1) ≤ facI n; omega, fun i hi => by replace hi : Int32.toInt (x1 + 1) ≤ (i : Int) := hi; show q3.1 39 i = 0; rw [h32 i (by omega)]; exact a4 i (by omega)⟩ (by show (facI n - Int32.toInt (x1 + 1)).toNat < (facI n - Int32.toInt x1).toNat; omega)
end
section
set_option maxHeartbeats 4000000 in
set_option maxRecDepth 100000 in
theorem ok_X3_lay_s32_s2_s20_46 (nc : Nat) (ns : Nat) (q : dK) (hT : TC q) (hp0 : LD q) : dOk (zX3_lay_s32_s2_s20_46 nc ns q) (fun (o : dK) => (TC o) ∧ (cFr [19, 21, 33, 34, 35] [(18, 1), (32, 15)] q o) ∧ (0 ≤ Int32.toInt (o.1 32 15)) ∧ (Int32.toInt (o.1 32 15) < Int32.toInt (o.1 32 14))) := by
  unfold zX3_lay_s32_s2_s20_46
  have hLs := ld_sz hp0
  unfold zX3_lay_s32_s2_s20_52
  refine dFix_ok (fun (a : dK × Int32 × Int32) => (TC a.1) ∧ (cFr [33] [] q a.1) ∧ (0 ≤ Int32.toInt a.2.1) ∧ (Int32.toInt a.2.1 ≤ 6) ∧ (0 ≤ Int32.toInt a.2.2) ∧ (Int32.toInt a.2.2 ≤ 6)) (fun (a : dK × Int32 × Int32) => (6 - Int32.toInt a.2.2).toNat) ?_ _ ?_ _ (dF_gt ?_)
  · intro a ha k_2 hk_1
    obtain ⟨q_3, x4_4, x5_5⟩ := a
    replace ha : (TC q_3) ∧ (cFr [33] [] q q_3) ∧ (0 ≤ Int32.toInt x4_4) ∧ (Int32.toInt x4_4 ≤ 6) ∧ (0 ≤ Int32.toInt x5_5) ∧ (Int32.toInt x5_5 ≤ 6) := ha
    obtain ⟨a_6, a_7, a_8, a_9, a_10, a_11⟩ := ha
    show dOk (zX3_lay_s32_s2_s20_52b nc ns (fun q x4 x5 => k_2 (q, x4, x5)) q_3 x4_4 x5_5) _
    unfold zX3_lay_s32_s2_s20_52b
    have hFq_3 : cFr [19, 21, 33, 34, 35] [(18, 1), (32, 15)] q q_3 := (cFr.rf (q := q)).t a_7 (by decide) (by decide)
    refine dOk_le (A := 6) (B := Int32.toInt x5_5) (by decide) rfl (fun c_12 => ?_) (fun c_13 => ?_)
    · unfold zX3_lay_s32_s2_s20_99
      refine dFix_ok (fun (a : dK × Int32 × Int32) => (TC a.1) ∧ (cFr [34] [] q_3 a.1) ∧ (0 ≤ Int32.toInt a.2.1 ∧ Int32.toInt a.2.1 ≤ 63) ∧ (0 ≤ Int32.toInt a.2.2) ∧ (Int32.toInt a.2.2 ≤ 6)) (fun (a : dK × Int32 × Int32) => (6 - Int32.toInt a.2.2).toNat) ?_ _ ?_ _ (dF_gt ?_)
      · intro a ha k_15 hk_14
        obtain ⟨q_16, x5_17, x6_18⟩ := a
        replace ha : (TC q_16) ∧ (cFr [34] [] q_3 q_16) ∧ (0 ≤ Int32.toInt x5_17 ∧ Int32.toInt x5_17 ≤ 63) ∧ (0 ≤ Int32.toInt x6_18) ∧ (Int32.toInt x6_18 ≤ 6) := ha
        obtain ⟨a_19, a_20, a_21, a_22, a_23⟩ := ha
        show dOk (zX3_lay_s32_s2_s20_99b nc ns (fun q x5 x6 => k_15 (q, x5, x6)) q_16 x5_17 x6_18) _
        unfold zX3_lay_s32_s2_s20_99b
        have hFq_16 : cFr [19, 21, 33, 34, 35] [(18, 1), (32, 15)] q q_16 := hFq_3.t a_20 (by decide) (by decide)
        refine dOk_le (A := 6) (B := Int32.toInt x6_18) (by decide) rfl (fun c_24 => ?_) (fun c_25 => ?_)
        · refine dOk_B (ok_X3_numberOfOrder_s32 q_16 a_19) (fun r_26 q_27 h_28 => ?_)
          replace h_28 : (q_27 = q_16) ∧ (0 ≤ Int32.toInt r_26 ∧ Int32.toInt r_26 ≤ 719) := h_28
          obtain ⟨i_29, i_30⟩ := h_28
          subst q_27
          refine dOk_L (fun q_31 eq_31 => ?_)
          have f_32 : 0 ≤ Int32.toInt (q_16.1 32 14) ∧ Int32.toInt (q_16.1 32 14) ≤ 46080 := rg_32_14 a_19
          have f_33 : 0 ≤ Int32.toInt (q_3.1 32 14) ∧ Int32.toInt (q_3.1 32 14) ≤ 46080 := rg_32_14 a_6
          have f_34 : 0 ≤ Int32.toInt (q.1 32 14) ∧ Int32.toInt (q.1 32 14) ≤ 46080 := rg_32_14 hT
          have w_35 : Int32.toInt (q_3.1 32 14) = Int32.toInt (q.1 32 14) := by rw [a_7.1 32 14 (by decide) (by decide)]
          have w_36 : Int32.toInt (q_16.1 32 14) = Int32.toInt (q_3.1 32 14) := by rw [a_20.1 32 14 (by decide) (by decide)]
          try have t_37 : Int32.toInt (q_16.1 32 14 - 1) = Int32.toInt (q_16.1 32 14) - 1 := ti_sub rfl (by decide) (by omega) (by omega)
          have f_38 : 0 ≤ Int32.toInt (q_16.1 32 13) ∧ Int32.toInt (q_16.1 32 13) ≤ 6 := rg_32_13 a_19
          have f_39 : 0 ≤ Int32.toInt (q_3.1 32 13) ∧ Int32.toInt (q_3.1 32 13) ≤ 6 := rg_32_13 a_6
          have f_40 : 0 ≤ Int32.toInt (q.1 32 13) ∧ Int32.toInt (q.1 32 13) ≤ 6 := rg_32_13 hT
          have w_41 : Int32.toInt (q_3.1 32 13) = Int32.toInt (q.1 32 13) := by rw [a_7.1 32 13 (by decide) (by decide)]
          have w_42 : Int32.toInt (q_16.1 32 13) = Int32.toInt (q_3.1 32 13) := by rw [a_20.1 32 13 (by decide) (by decide)]
          try have t_43 := ti_shl5 (x := r_26) (s := q_16.1 32 13) (by omega) (by omega) (by omega) (by omega)
          try have t_44 := ti_shl6 (x := r_26) (s := q_16.1 32 13) (by omega) (by omega) (by omega) (by omega)
          try have t_45 := ld_w (s := q_16.1 32 13) (v := r_26) (w := x5_17) (by omega) (by omega) (by omega) (by omega) (by omega) (by omega)
          have t_46 : Int32.toInt (mnI (q_16.1 32 14 - 1) (r_26 <<< ((q_16.1 32 13 : Int32) &&& 31) ||| x5_17)) ≤ Int32.toInt (q_16.1 32 14 - 1) ∧ Int32.toInt (mnI (q_16.1 32 14 - 1) (r_26 <<< ((q_16.1 32 13 : Int32) &&& 31) ||| x5_17)) ≤ Int32.toInt (r_26 <<< ((q_16.1 32 13 : Int32) &&& 31) ||| x5_17) ∧ (Int32.toInt (mnI (q_16.1 32 14 - 1) (r_26 <<< ((q_16.1 32 13 : Int32) &&& 31) ||| x5_17)) = Int32.toInt (q_16.1 32 14 - 1) ∨ Int32.toInt (mnI (q_16.1 32 14 - 1) (r_26 <<< ((q_16.1 32 13 : Int32) &&& 31) ||| x5_17)) = Int32.toInt (r_26 <<< ((q_16.1 32 13 : Int32) &&& 31) ||| x5_17)) := mn_le
          have hTq_31 : TC q_31 := by rw [eq_31]; exact st_32_15 a_19 (show (0 : Int) ≤ Int32.toInt (mnI (q_16.1 32 14 - 1) (r_26 <<< ((q_16.1 32 13 : Int32) &&& 31) ||| x5_17)) by omega) (show Int32.toInt (mnI (q_16.1 32 14 - 1) (r_26 <<< ((q_16.1 32 13 : Int32) &&& 31) ||| x5_17)) ≤ (46079 : Int) by omega)
          have hFq_31 : cFr [19, 21, 33, 34, 35] [(18, 1), (32, 15)] q q_31 := by rw [eq_31]; exact hFq_16.f (by decide)
          have f_47 : 0 ≤ Int32.toInt (q_31.1 2 4) ∧ Int32.toInt (q_31.1 2 4) ≤ 1023 := rg_2_4 hTq_31
          have f_48 : 0 ≤ Int32.toInt (q_16.1 2 4) ∧ Int32.toInt (q_16.1 2 4) ≤ 1023 := rg_2_4 a_19
          have f_49 : 0 ≤ Int32.toInt (q_3.1 2 4) ∧ Int32.toInt (q_3.1 2 4) ≤ 1023 := rg_2_4 a_6
          have f_50 : 0 ≤ Int32.toInt (q.1 2 4) ∧ Int32.toInt (q.1 2 4) ≤ 1023 := rg_2_4 hT
          have w_51 : Int32.toInt (q_3.1 2 4) = Int32.toInt (q.1 2 4) := by rw [a_7.1 2 4 (by decide) (by decide)]
          have w_52 : Int32.toInt (q_16.1 2 4) = Int32.toInt (q_3.1 2 4) := by rw [a_20.1 2 4 (by decide) (by decide)]
          have w_53 : Int32.toInt (q_31.1 2 4) = Int32.toInt (q_16.1 2 4) := by rw [eq_31, cui_o (by decide)]
          refine dOk_V (ok_X3_askCases_s32_s20_c1 q_31 (q_31.1 2 4) hTq_31) (fun q_54 h_55 => ?_)
          replace h_55 : (TC q_54) ∧ (cFr [19, 21, 35] [(18, 1)] q_31 q_54) := h_55
          obtain ⟨i_56, i_57⟩ := h_55
          have hFq_54 : cFr [19, 21, 33, 34, 35] [(18, 1), (32, 15)] q q_54 := hFq_31.t i_57 (by decide) (by decide)
          have f_58 : 0 ≤ Int32.toInt (q_54.1 32 15) ∧ Int32.toInt (q_54.1 32 15) ≤ 46079 := rg_32_15 i_56
          have f_59 : 0 ≤ Int32.toInt (q_31.1 32 15) ∧ Int32.toInt (q_31.1 32 15) ≤ 46079 := rg_32_15 hTq_31
          have w_60 : Int32.toInt (q_31.1 32 15) = Int32.toInt (mnI (q_16.1 32 14 - 1) (r_26 <<< ((q_16.1 32 13 : Int32) &&& 31) ||| x5_17)) := by rw [eq_31, cui_e]
          have w_61 : Int32.toInt (q_54.1 32 15) = Int32.toInt (q_31.1 32 15) := by rw [i_57.1 32 15 (by decide) (by decide)]
          have f_62 : 0 ≤ Int32.toInt (q_54.1 32 14) ∧ Int32.toInt (q_54.1 32 14) ≤ 46080 := rg_32_14 i_56
          have f_63 : 0 ≤ Int32.toInt (q_31.1 32 14) ∧ Int32.toInt (q_31.1 32 14) ≤ 46080 := rg_32_14 hTq_31
          have w_64 : Int32.toInt (q_31.1 32 14) = Int32.toInt (q_16.1 32 14) := by rw [eq_31, cui_n (by decide)]
          have w_65 : Int32.toInt (q_54.1 32 14) = Int32.toInt (q_31.1 32 14) := by rw [i_57.1 32 14 (by decide) (by decide)]
          exact dOk_some (show (TC q_54) ∧ (cFr [19, 21, 33, 34, 35] [(18, 1), (32, 15)] q q_54) ∧ (0 ≤ Int32.toInt (q_54.1 32 15)) ∧ (Int32.toInt (q_54.1 32 15) < Int32.toInt (q_54.1 32 14)) from ⟨i_56, hFq_54, by omega, by omega⟩)
        · have f_66 : 0 ≤ Int32.toInt (q_16.1 32 13) ∧ Int32.toInt (q_16.1 32 13) ≤ 6 := rg_32_13 a_19
          have f_67 : 0 ≤ Int32.toInt (q_3.1 32 13) ∧ Int32.toInt (q_3.1 32 13) ≤ 6 := rg_32_13 a_6
          have f_68 : 0 ≤ Int32.toInt (q.1 32 13) ∧ Int32.toInt (q.1 32 13) ≤ 6 := rg_32_13 hT
          have w_69 : Int32.toInt (q_3.1 32 13) = Int32.toInt (q.1 32 13) := by rw [a_7.1 32 13 (by decide) (by decide)]
          have w_70 : Int32.toInt (q_16.1 32 13) = Int32.toInt (q_3.1 32 13) := by rw [a_20.1 32 13 (by decide) (by decide)]
          refine dOk_le (A := Int32.toInt (q_16.1 32 13)) (B := Int32.toInt x6_18) rfl rfl (fun c_71 => ?_) (fun c_72 => ?_)
          · unfold zX3_lay_s32_s2_s20_137
            refine dOk_G (dg_ok (show 0 ≤ Int32.toInt x6_18 by omega) (show Int32.toInt x6_18 < ((6 : Nat) : Int) by omega)) ?_
            have n_73 : ((Int32.toNatClampNeg x6_18 : Nat) : Int) = Int32.toInt x6_18 := cl_eq (by omega)
            refine dOk_L (fun q_74 eq_74 => ?_)
            have hTq_74 : TC q_74 := by rw [eq_74]; exact sa_34 a_19
            have hFq_74 : cFr [19, 21, 33, 34, 35] [(18, 1), (32, 15)] q q_74 := by rw [eq_74]; exact hFq_16.i (by decide)
            have f_75 : 0 ≤ Int32.toInt (q_74.1 32 13) ∧ Int32.toInt (q_74.1 32 13) ≤ 6 := rg_32_13 hTq_74
            try have w_76 : Int32.toInt (q_74.1 32 13) = Int32.toInt (q_16.1 32 13) := by rw [eq_74, cui_o (by decide)]
            refine dOk_le (A := Int32.toInt (q_74.1 32 13)) (B := Int32.toInt x6_18) rfl rfl (fun c_77 => ?_) (fun c_78 => ?_)
            · unfold zX3_lay_s32_s2_s20_163
              have t_79 : Int32.toInt (x5_17 ||| 0) = Int32.toInt x5_17 := ti_or0 _
              try have t_80 : Int32.toInt (x6_18 + 1) = Int32.toInt x6_18 + 1 := ti_add rfl (by decide) (by omega) (by omega)
              exact hk_14 (q_74, (x5_17 ||| 0), (x6_18 + 1)) (show (TC q_74) ∧ (cFr [34] [] q_3 q_74) ∧ (0 ≤ Int32.toInt (x5_17 ||| 0) ∧ Int32.toInt (x5_17 ||| 0) ≤ 63) ∧ (0 ≤ Int32.toInt (x6_18 + 1)) ∧ (Int32.toInt (x6_18 + 1) ≤ 6) from ⟨hTq_74, (by rw [eq_74]; exact (((cFr.rf : cFr [34] [] q_3 q_3).t a_20 (by decide) (by decide)) : cFr [34] [] q_3 q_16).i (by decide)), by omega, by omega, by omega⟩) (show (6 - Int32.toInt (x6_18 + 1)).toNat < (6 - Int32.toInt x6_18).toNat by omega)
            · refine dOk_G (dg_ok (show 0 ≤ Int32.toInt x6_18 by omega) (show Int32.toInt x6_18 < ((6 : Nat) : Int) by omega)) ?_
              refine dOk_L (fun v_81 ev_81 => ?_)
              have f_82 : 0 ≤ Int32.toInt v_81 ∧ Int32.toInt v_81 ≤ 1 := by rw [ev_81]; exact rg_4 hTq_74 _
              unfold zX3_lay_s32_s2_s20_163
              try have t_83 := ti_shl5 (x := v_81) (s := x6_18) (by omega) (by omega) (by omega) (by omega)
              try have t_84 := ti_shl6 (x := v_81) (s := x6_18) (by omega) (by omega) (by omega) (by omega)
              try have t_85 := ti_or (x := x5_17) (y := v_81 <<< ((x6_18 : Int32) &&& 31)) 6 (by decide) (by omega) (by omega) (by omega) (by omega)
              try have t_86 : Int32.toInt (x6_18 + 1) = Int32.toInt x6_18 + 1 := ti_add rfl (by decide) (by omega) (by omega)
              exact hk_14 (q_74, (x5_17 ||| v_81 <<< ((x6_18 : Int32) &&& 31)), (x6_18 + 1)) (show (TC q_74) ∧ (cFr [34] [] q_3 q_74) ∧ (0 ≤ Int32.toInt (x5_17 ||| v_81 <<< ((x6_18 : Int32) &&& 31)) ∧ Int32.toInt (x5_17 ||| v_81 <<< ((x6_18 : Int32) &&& 31)) ≤ 63) ∧ (0 ≤ Int32.toInt (x6_18 + 1)) ∧ (Int32.toInt (x6_18 + 1) ≤ 6) from ⟨hTq_74, (by rw [eq_74]; exact (((cFr.rf : cFr [34] [] q_3 q_3).t a_20 (by decide) (by decide)) : cFr [34] [] q_3 q_16).i (by decide)), by omega, by omega, by omega⟩) (show (6 - Int32.toInt (x6_18 + 1)).toNat < (6 - Int32.toInt x6_18).toNat by omega)
          · refine dOk_G (dg_ok (show 0 ≤ Int32.toInt x6_18 by omega) (show Int32.toInt x6_18 < ((6 : Nat) : Int) by omega)) ?_
            have n_87 : ((Int32.toNatClampNeg x6_18 : Nat) : Int) = Int32.toInt x6_18 := cl_eq (by omega)
            refine dOk_L (fun v_88 ev_88 => ?_)
            have f_89 : 0 ≤ Int32.toInt v_88 ∧ Int32.toInt v_88 ≤ 7 := by rw [ev_88]; exact rg_3 a_19 _
            refine dOk_B (ok_X3_indexOfRank_s32 q_16 v_88 a_19) (fun r_90 q_91 h_92 => ?_)
            replace h_92 : (q_91 = q_16) ∧ (-1 ≤ Int32.toInt r_90 ∧ Int32.toInt r_90 ≤ 5) := h_92
            obtain ⟨i_93, i_94⟩ := h_92
            subst q_91
            unfold zX3_lay_s32_s2_s20_137
            refine dOk_G (dg_ok (show 0 ≤ Int32.toInt x6_18 by omega) (show Int32.toInt x6_18 < ((6 : Nat) : Int) by omega)) ?_
            refine dOk_L (fun q_95 eq_95 => ?_)
            have hTq_95 : TC q_95 := by rw [eq_95]; exact sa_34 a_19
            have hFq_95 : cFr [19, 21, 33, 34, 35] [(18, 1), (32, 15)] q q_95 := by rw [eq_95]; exact hFq_16.i (by decide)
            have f_96 : 0 ≤ Int32.toInt (q_95.1 32 13) ∧ Int32.toInt (q_95.1 32 13) ≤ 6 := rg_32_13 hTq_95
            try have w_97 : Int32.toInt (q_95.1 32 13) = Int32.toInt (q_16.1 32 13) := by rw [eq_95, cui_o (by decide)]
            refine dOk_le (A := Int32.toInt (q_95.1 32 13)) (B := Int32.toInt x6_18) rfl rfl (fun c_98 => ?_) (fun c_99 => ?_)
            · unfold zX3_lay_s32_s2_s20_163
              have t_100 : Int32.toInt (x5_17 ||| 0) = Int32.toInt x5_17 := ti_or0 _
              try have t_101 : Int32.toInt (x6_18 + 1) = Int32.toInt x6_18 + 1 := ti_add rfl (by decide) (by omega) (by omega)
              exact hk_14 (q_95, (x5_17 ||| 0), (x6_18 + 1)) (show (TC q_95) ∧ (cFr [34] [] q_3 q_95) ∧ (0 ≤ Int32.toInt (x5_17 ||| 0) ∧ Int32.toInt (x5_17 ||| 0) ≤ 63) ∧ (0 ≤ Int32.toInt (x6_18 + 1)) ∧ (Int32.toInt (x6_18 + 1) ≤ 6) from ⟨hTq_95, (by rw [eq_95]; exact (((cFr.rf : cFr [34] [] q_3 q_3).t a_20 (by decide) (by decide)) : cFr [34] [] q_3 q_16).i (by decide)), by omega, by omega, by omega⟩) (show (6 - Int32.toInt (x6_18 + 1)).toNat < (6 - Int32.toInt x6_18).toNat by omega)
            · refine dOk_G (dg_ok (show 0 ≤ Int32.toInt x6_18 by omega) (show Int32.toInt x6_18 < ((6 : Nat) : Int) by omega)) ?_
              refine dOk_L (fun v_102 ev_102 => ?_)
              have f_103 : 0 ≤ Int32.toInt v_102 ∧ Int32.toInt v_102 ≤ 1 := by rw [ev_102]; exact rg_4 hTq_95 _
              unfold zX3_lay_s32_s2_s20_163
              try have t_104 := ti_shl5 (x := v_102) (s := x6_18) (by omega) (by omega) (by omega) (by omega)
              try have t_105 := ti_shl6 (x := v_102) (s := x6_18) (by omega) (by omega) (by omega) (by omega)
              try have t_106 := ti_or (x := x5_17) (y := v_102 <<< ((x6_18 : Int32) &&& 31)) 6 (by decide) (by omega) (by omega) (by omega) (by omega)
              try have t_107 : Int32.toInt (x6_18 + 1) = Int32.toInt x6_18 + 1 := ti_add rfl (by decide) (by omega) (by omega)
              exact hk_14 (q_95, (x5_17 ||| v_102 <<< ((x6_18 : Int32) &&& 31)), (x6_18 + 1)) (show (TC q_95) ∧ (cFr [34] [] q_3 q_95) ∧ (0 ≤ Int32.toInt (x5_17 ||| v_102 <<< ((x6_18 : Int32) &&& 31)) ∧ Int32.toInt (x5_17 ||| v_102 <<< ((x6_18 : Int32) &&& 31)) ≤ 63) ∧ (0 ≤ Int32.toInt (x6_18 + 1)) ∧ (Int32.toInt (x6_18 + 1) ≤ 6) from ⟨hTq_95, (by rw [eq_95]; exact (((cFr.rf : cFr [34] [] q_3 q_3).t a_20 (by decide) (by decide)) : cFr [34] [] q_3 q_16).i (by decide)), by omega, by omega, by omega⟩) (show (6 - Int32.toInt (x6_18 + 1)).toNat < (6 - Int32.toInt x6_18).toNat by omega)
      · exact (show (TC q_3) ∧ (cFr [34] [] q_3 q_3) ∧ (0 ≤ (0 : Int) ∧ (0 : Int) ≤ 63) ∧ (0 ≤ (0 : Int)) ∧ ((0 : Int) ≤ 6) from ⟨a_6, cFr.rf, by omega, by omega, by omega⟩)
      · show (6 - (0 : Int)).toNat < 1000000000000
        omega
    · refine dOk_B (ok_X8_has_s2 q_3 x5_5 a_6) (fun r_108 q_109 h_110 => ?_)
      replace h_110 : (q_109 = q_3) ∧ ((Int32.toInt r_108 = 0 ∨ Int32.toInt r_108 = 1)) := h_110
      obtain ⟨i_111, i_112⟩ := h_110
      subst q_109
      refine dOk_eq (A := Int32.toInt r_108) (B := 0) rfl (by decide) (fun c_113z c_113 => ?_) (fun c_114z c_114 => ?_)
      · unfold zX3_lay_s32_s2_s20_87
        try have t_116 : Int32.toInt (x5_5 + 1) = Int32.toInt x5_5 + 1 := ti_add rfl (by decide) (by omega) (by omega)
        exact hk_1 (q_3, x4_4, (x5_5 + 1)) (show (TC q_3) ∧ (cFr [33] [] q q_3) ∧ (0 ≤ Int32.toInt x4_4) ∧ (Int32.toInt x4_4 ≤ 6) ∧ (0 ≤ Int32.toInt (x5_5 + 1)) ∧ (Int32.toInt (x5_5 + 1) ≤ 6) from ⟨a_6, ((cFr.rf : cFr [33] [] q q).t a_7 (by decide) (by decide)), by omega, by omega, by omega, by omega⟩) (show (6 - Int32.toInt (x5_5 + 1)).toNat < (6 - Int32.toInt x5_5).toNat by omega)
      · refine dOk_le (A := 6) (B := Int32.toInt x4_4) (by decide) rfl (fun c_117 => ?_) (fun c_118 => ?_)
        · unfold zX3_lay_s32_s2_s20_87
          try have t_119 : Int32.toInt (x5_5 + 1) = Int32.toInt x5_5 + 1 := ti_add rfl (by decide) (by omega) (by omega)
          exact hk_1 (q_3, x4_4, (x5_5 + 1)) (show (TC q_3) ∧ (cFr [33] [] q q_3) ∧ (0 ≤ Int32.toInt x4_4) ∧ (Int32.toInt x4_4 ≤ 6) ∧ (0 ≤ Int32.toInt (x5_5 + 1)) ∧ (Int32.toInt (x5_5 + 1) ≤ 6) from ⟨a_6, ((cFr.rf : cFr [33] [] q q).t a_7 (by decide) (by decide)), by omega, by omega, by omega, by omega⟩) (show (6 - Int32.toInt (x5_5 + 1)).toNat < (6 - Int32.toInt x5_5).toNat by omega)
        · refine dOk_G (dg_ok (show 0 ≤ Int32.toInt x4_4 by omega) (show Int32.toInt x4_4 < ((6 : Nat) : Int) by omega)) ?_
          have n_120 : ((Int32.toNatClampNeg x4_4 : Nat) : Int) = Int32.toInt x4_4 := cl_eq (by omega)
          refine dOk_L (fun q_121 eq_121 => ?_)
          have hTq_121 : TC q_121 := by rw [eq_121]; exact sa_33 a_6
          have hFq_121 : cFr [19, 21, 33, 34, 35] [(18, 1), (32, 15)] q q_121 := by rw [eq_121]; exact hFq_3.i (by decide)
          unfold zX3_lay_s32_s2_s20_87
          try have t_122 : Int32.toInt (x4_4 + 1) = Int32.toInt x4_4 + 1 := ti_add rfl (by decide) (by omega) (by omega)
          try have t_123 : Int32.toInt (x5_5 + 1) = Int32.toInt x5_5 + 1 := ti_add rfl (by decide) (by omega) (by omega)
          exact hk_1 (q_121, (x4_4 + 1), (x5_5 + 1)) (show (TC q_121) ∧ (cFr [33] [] q q_121) ∧ (0 ≤ Int32.toInt (x4_4 + 1)) ∧ (Int32.toInt (x4_4 + 1) ≤ 6) ∧ (0 ≤ Int32.toInt (x5_5 + 1)) ∧ (Int32.toInt (x5_5 + 1) ≤ 6) from ⟨hTq_121, (by rw [eq_121]; exact (((cFr.rf : cFr [33] [] q q).t a_7 (by decide) (by decide)) : cFr [33] [] q q_3).i (by decide)), by omega, by omega, by omega, by omega⟩) (show (6 - Int32.toInt (x5_5 + 1)).toNat < (6 - Int32.toInt x5_5).toNat by omega)
  · exact (show (TC q) ∧ (cFr [33] [] q q) ∧ (0 ≤ (0 : Int)) ∧ ((0 : Int) ≤ 6) ∧ (0 ≤ (0 : Int)) ∧ ((0 : Int) ≤ 6) from ⟨hT, cFr.rf, by omega, by omega, by omega, by omega⟩)
  · show (6 - (0 : Int)).toNat < 1000000000000
    omega
end
section
/-! the paper laid out, with room for it -/
theorem fp_sz : ∀ n : Nat, n < 7 → ((([1, 1, 2, 6, 24, 120, 720] : List Int32).getD (Int32.toNatClampNeg (nI n)) 0) <<< ((nI n : Int32) &&& 31)).toInt = facI n * powI n := by decide +kernel
/-- the room that there is does -/
def RF (q : dK) : Prop := facI (Int32.toInt (q.1 2 2)) * powI (Int32.toInt (q.1 2 2)) ≤ Int32.toInt (q.1 32 103)
def RH (nc ns : Nat) (q : dK) : Prop := RF q ∨ (7 ≤ nc ∧ 189744 ≤ ns)
def RP (q o : dK) : Prop := (RF q → o.1 32 103 = q.1 32 103) ∧ (¬ RF q → Int32.toInt (q.1 32 103) < Int32.toInt (o.1 32 103))
def rhT (S : List Nat) (F : List (Nat × Nat)) : Bool := !S.contains 2 && !S.contains 32 && F.all (fun p => (p.1 != 2 || p.2 != 2) && (p.1 != 32 || p.2 != 103))
theorem rhT_p {S : List Nat} {F : List (Nat × Nat)} (h : rhT S F = true) : (2 ∉ S ∧ (2, 2) ∉ F) ∧ (32 ∉ S ∧ (32, 103) ∉ F) := by
  unfold rhT at h
  simp only [Bool.and_eq_true, Bool.not_eq_true', List.contains_eq_mem, decide_eq_false_iff_not, List.all_eq_true, Bool.or_eq_true, bne_iff_ne, ne_eq] at h
  obtain ⟨⟨h1, h2⟩, h3⟩ := h
  refine ⟨⟨h1, fun z => ?_⟩, ⟨h2, fun z => ?_⟩⟩
  · rcases (h3 _ z).1 with e | e
    · exact e rfl
    · exact e rfl
  · rcases (h3 _ z).2 with e | e
    · exact e rfl
    · exact e rfl
theorem rf_fr {S : List Nat} {F : List (Nat × Nat)} {q q' : dK} (hF : cFr S F q q') (hd : rhT S F = true) : (RF q' ↔ RF q) ∧ q'.1 32 103 = q.1 32 103 := by
  obtain ⟨⟨a, b⟩, ⟨c, d⟩⟩ := rhT_p hd
  unfold RF
  rw [hF.1 2 2 a b, hF.1 32 103 c d]
  exact ⟨Iff.rfl, rfl⟩
theorem rh_fr {nc ns : Nat} {S : List Nat} {F : List (Nat × Nat)} {q q' : dK} (h : RH nc ns q) (hF : cFr S F q q') (hd : rhT S F = true) : RH nc ns q' := by
  rcases h with h | h
  · exact Or.inl ((rf_fr hF hd).1.mpr h)
  · exact Or.inr h
theorem rp_fr {S S2 : List Nat} {F F2 : List (Nat × Nat)} {q q' q2 o : dK} (hF : cFr S F q q') (hd : rhT S F = true) (h : RP q' q2) (hF2 : cFr S2 F2 q2 o) (hd2 : rhT S2 F2 = true) : RP q o := by
  have e1 := rf_fr hF hd
  have e2 := (rf_fr hF2 hd2).2
  unfold RP at h ⊢
  rw [e2, ← e1.2, ← e1.1]
  exact h
theorem rp_f0 {S : List Nat} {F : List (Nat × Nat)} {q q' o : dK} (hF : cFr S F q q') (hd : rhT S F = true) (h : RP q' o) : RP q o := rp_fr hF hd h (cFr.rf (S := []) (F := [])) rfl
theorem ok_X3_lay_s32_s2_s20 (nc : Nat) (ns : Nat) (q : dK) (p3 : Int32) (hT : TC q) (hp0 : RH nc ns q) : dOk (zX3_lay_s32_s2_s20 nc ns q p3) (fun (o : dK) => (TC o) ∧ (cFr [19, 21, 33, 34, 35, 39, 40, 41, 42, 43, 44, 45] [(18, 1), (32, 13), (32, 14), (32, 15), (32, 16), (32, 17), (32, 100), (32, 101), (32, 102), (32, 103), (32, 104), (32, 105), (32, 106)] q o) ∧ (LD o) ∧ (0 ≤ Int32.toInt (o.1 32 15)) ∧ (Int32.toInt (o.1 32 15) < Int32.toInt (o.1 32 14)) ∧ (RP q o)) := by
  have f2 : 0 ≤ Int32.toInt (q.1 2 2) ∧ Int32.toInt (q.1 2 2) ≤ 6 := rg_2_2 hT
  obtain ⟨n, hn1, hn2, hn3⟩ := ti_nI f2.1
  have hn : n ≤ 6 := by omega
  obtain ⟨g1, g2, g3, g4, g5, g6, g7, g8, g9⟩ := fp_all n (by omega) n (by omega) (Nat.le_refl n)
  unfold zX3_lay_s32_s2_s20
  refine dOk_L (fun q1 e1 => dOk_L (fun q2 e2 => ?_))
  have hT1 : TC q1 := by rw [e1]; exact st_32_13 hT f2.1 f2.2
  have hT2 : TC q2 := by rw [e2]; exact sa_32_16 hT1
  have hF2 : cFr [19, 21, 33, 34, 35, 39, 40, 41, 42, 43, 44, 45] [(18, 1), (32, 13), (32, 14), (32, 15), (32, 16), (32, 17), (32, 100), (32, 101), (32, 102), (32, 103), (32, 104), (32, 105), (32, 106)] q q2 := by rw [e2, e1]; exact (cFr.rf.f (by decide)).f (by decide)
  have a13 : q2.1 32 13 = q.1 2 2 := by rw [e2, cui_n (by decide), e1, cui_e]
  have a103 : q2.1 32 103 = q.1 32 103 := by rw [e2, cui_n (by decide), e1, cui_n (by decide)]
  rw [a13]
  refine dOk_G (dg_ok f2.1 (by omega)) (dOk_L (fun v4 e4 => ?_))
  have hsz : Int32.toInt (v4 <<< ((q.1 2 2 : Int32) &&& 31)) = facI n * powI n := by rw [e4, hn1]; exact fp_sz n (by omega)
  refine dOk_L (fun q5 e5 => ?_)
  have hT5 : TC q5 := by rw [e5]; exact st_32_14 hT2 (by rw [hsz]; omega) (by rw [hsz]; omega)
  have hF5 : cFr [19, 21, 33, 34, 35, 39, 40, 41, 42, 43, 44, 45] [(18, 1), (32, 13), (32, 14), (32, 15), (32, 16), (32, 17), (32, 100), (32, 101), (32, 102), (32, 103), (32, 104), (32, 105), (32, 106)] q q5 := by rw [e5]; exact hF2.f (by decide)
  have b14 : q5.1 32 14 = v4 <<< ((q.1 2 2 : Int32) &&& 31) := by rw [e5, cui_e]
  have b13 : q5.1 32 13 = q.1 2 2 := by rw [e5, cui_n (by decide)]; exact a13
  have b103 : q5.1 32 103 = q.1 32 103 := by rw [e5, cui_n (by decide)]; exact a103
  have h13 : (q5.1 32 13).toInt = (n : Int) := by rw [b13]; omega
  have h14 : (q5.1 32 14).toInt = facI n * powI n := by rw [b14]; exact hsz
  have r103 := rg_32_103 hT
  have eRF : RF q ↔ facI n * powI n ≤ Int32.toInt (q.1 32 103) := by unfold RF; rw [← hn2]
  clear e1 e2 e4 e5 hsz b14
  refine dOk_le h14 (B := Int32.toInt (q.1 32 103)) (by rw [b103, of_cl r103.1]) (fun c => ?_) (fun c => ?_)
  · have hL5 : LD q5 := ld_mk hT5 n hn h13 h14 (by rw [h14, b103]; exact c)
    refine dOk_mono (ok_X3_lay_s32_s2_s20_46 nc ns q5 hT5 hL5) (fun o h => ?_)
    obtain ⟨h1, h2, h3, h4⟩ := h
    refine ⟨h1, hF5.t h2 (by decide) (by decide), ld_fr hL5 h2 rfl, h3, h4, fun _ => ?_, fun z => absurd (eRF.mpr c) z⟩
    exact (h2.1 32 103 (by decide) (by decide)).trans b103
  · have hn' : ¬ RF q := fun z => by have := eRF.mp z; omega
    obtain ⟨k1, k2⟩ := hp0.resolve_left hn'
    refine dOk_V (ok_X3_makeRoom_s32 nc ns q5 hT5 k1 k2 n hn h13 h14) (fun q8 h8 => ?_)
    obtain ⟨hT8, hF8, h103⟩ := h8
    have c13 : q8.1 32 13 = q5.1 32 13 := hF8.1 32 13 (by decide) (by decide)
    have c14 : q8.1 32 14 = q5.1 32 14 := hF8.1 32 14 (by decide) (by decide)
    have hL8 : LD q8 := ld_mk hT8 n hn (by rw [c13]; exact h13) (by rw [c14]; exact h14) (by rw [c14, h103]; first | done | exact Int.le_refl _)
    refine dOk_mono (ok_X3_lay_s32_s2_s20_46 nc ns q8 hT8 hL8) (fun o h => ?_)
    obtain ⟨h1, h2, h3, h4⟩ := h
    have e9 : o.1 32 103 = q8.1 32 103 := h2.1 32 103 (by decide) (by decide)
    refine ⟨h1, (hF5.t hF8 (by decide) (by decide)).t h2 (by decide) (by decide), ld_fr hL8 h2 rfl, h3, h4, fun z => absurd z hn', fun _ => ?_⟩
    rw [e9, h103, h14]; exact c
theorem ok_X9_spread_s0_s20 (nc : Nat) (ns : Nat) (q : dK) (hT : TC q) (hp0 : RH nc ns q) : dOk (zX9_spread_s0_s20 nc ns q) (fun (o : dK) => (TC o) ∧ (cFr [19, 21, 33, 34, 35, 39, 40, 41, 42, 43, 44, 45] [(18, 1), (32, 13), (32, 14), (32, 15), (32, 16), (32, 17), (32, 100), (32, 101), (32, 102), (32, 103), (32, 104), (32, 105), (32, 106)] q o) ∧ (LD o) ∧ (0 ≤ Int32.toInt (o.1 32 15)) ∧ (Int32.toInt (o.1 32 15) < Int32.toInt (o.1 32 14)) ∧ (RP q o)) := by
  unfold zX9_spread_s0_s20
  refine dOk_V (ok_X3_lay_s32_s2_s20 nc ns q (q.1 1 3) hT hp0) (fun q3 h => dOk_some h)
end
section
/-! the least paid: buckets, line, links -/
def VP (q : dK) (v : Int32) : Prop := v.toInt = -1 ∨ (0 ≤ v.toInt ∧ v.toInt < Int32.toInt (q.1 32 14) ∧ ¬ Int32.toInt (q.1 43 (Int32.toNatClampNeg v)) = 2000000000)
/-- what waits is a tower with a mark; e: but for this one -/
def BQ (q : dK) (e : Int) : Prop := (∀ i : Nat, (i : Int) < Int32.toInt (q.1 32 14) → 0 ≤ Int32.toInt (q.1 43 i) ∧ Int32.toInt (q.1 43 i) ≤ 2000000000 ∧ (¬ (i : Int) = e → ¬ Int32.toInt (q.1 43 i) = 2000000000 → VP q (q.1 44 i) ∧ VP q (q.1 45 i))) ∧ ∀ b : Nat, b < 100 → VP q (q.1 38 b)
theorem vp_o {q : dK} {j k : Nat} {v w : Int32} (hj : (j != 43 && j != 32) = true) (h : VP q w) : VP (cui q j k v) w := by
  simp only [Bool.and_eq_true, bne_iff_ne, ne_eq] at hj
  unfold VP
  rw [cui_o (fun z => hj.1 z.symm), cui_o (fun z => hj.2 z.symm)]
  exact h
theorem vp_o2 {q : dK} {j k : Nat} {v w : Int32} (hj : (j != 43 && j != 32) = true) (h : VP (cui q j k v) w) : VP q w := by
  simp only [Bool.and_eq_true, bne_iff_ne, ne_eq] at hj
  unfold VP at h
  rw [cui_o (fun z => hj.1 z.symm), cui_o (fun z => hj.2 z.symm)] at h
  exact h
theorem bq_44 {q : dK} {e : Int} {k : Nat} {v : Int32} (h : BQ q e) (hv : VP q v) : BQ (cui q 44 k v) e := by
  refine ⟨fun i hi => ?_, fun b hb => ?_⟩
  · rw [cui_o (j' := 32) (by decide)] at hi
    rw [cui_o (j' := 43) (by decide), cui_o (j' := 45) (by decide)]
    obtain ⟨h1, h2, h3⟩ := h.1 i hi
    refine ⟨h1, h2, fun z1 z2 => ?_⟩
    obtain ⟨h4, h5⟩ := h3 z1 z2
    refine ⟨?_, vp_o rfl h5⟩
    by_cases c : i = k
    · subst c; rw [cui_e]; exact vp_o rfl hv
    · rw [cui_n c]; exact vp_o rfl h4
  · rw [cui_o (j' := 38) (by decide)]; exact vp_o rfl (h.2 b hb)
theorem bq_45 {q : dK} {e : Int} {k : Nat} {v : Int32} (h : BQ q e) (hv : VP q v) : BQ (cui q 45 k v) e := by
  refine ⟨fun i hi => ?_, fun b hb => ?_⟩
  · rw [cui_o (j' := 32) (by decide)] at hi
    rw [cui_o (j' := 43) (by decide), cui_o (j' := 44) (by decide)]
    obtain ⟨h1, h2, h3⟩ := h.1 i hi
    refine ⟨h1, h2, fun z1 z2 => ?_⟩
    obtain ⟨h4, h5⟩ := h3 z1 z2
    refine ⟨vp_o rfl h4, ?_⟩
    by_cases c : i = k
    · subst c; rw [cui_e]; exact vp_o rfl hv
    · rw [cui_n c]; exact vp_o rfl h5
  · rw [cui_o (j' := 38) (by decide)]; exact vp_o rfl (h.2 b hb)
theorem bq_38 {q : dK} {e : Int} {k : Nat} {v : Int32} (h : BQ q e) (hv : VP q v) : BQ (cui q 38 k v) e := by
  refine ⟨fun i hi => ?_, fun b hb => ?_⟩
  · rw [cui_o (j' := 32) (by decide)] at hi
    rw [cui_o (j' := 43) (by decide), cui_o (j' := 44) (by decide), cui_o (j' := 45) (by decide)]
    obtain ⟨h1, h2, h3⟩ := h.1 i hi
    exact ⟨h1, h2, fun z1 z2 => ⟨vp_o rfl (h3 z1 z2).1, vp_o rfl (h3 z1 z2).2⟩⟩
  · by_cases c : b = k
    · subst c; rw [cui_e]; exact vp_o rfl hv
    · rw [cui_n c]; exact vp_o rfl (h.2 b hb)
theorem vp_43 {q : dK} {k : Nat} {v w : Int32} (h1 : Int32.toInt v < 2000000000) (h : VP q w) : VP (cui q 43 k v) w := by
  rcases h with h | ⟨h2, h3, h4⟩
  · exact Or.inl h
  · refine Or.inr ⟨h2, by rw [cui_o (j' := 32) (by decide)]; exact h3, ?_⟩
    by_cases c : Int32.toNatClampNeg w = k
    · rw [c, cui_e]; omega
    · rw [cui_n c]; exact h4
theorem bq_43 {q : dK} {k : Nat} {v : Int32} (h : BQ q (-1)) (h0 : 0 ≤ Int32.toInt v) (h1 : Int32.toInt v < 2000000000) : BQ (cui q 43 k v) (k : Int) := by
  refine ⟨fun i hi => ?_, fun b hb => ?_⟩
  · rw [cui_o (j' := 32) (by decide)] at hi
    rw [cui_o (j' := 44) (by decide), cui_o (j' := 45) (by decide)]
    obtain ⟨h2, h3, h4⟩ := h.1 i hi
    by_cases c : i = k
    · subst c; rw [cui_e]; exact ⟨h0, by omega, fun z => absurd rfl z⟩
    · rw [cui_n c]
      refine ⟨h2, h3, fun _ z => ?_⟩
      obtain ⟨h5, h6⟩ := h4 (by omega) z
      exact ⟨vp_43 h1 h5, vp_43 h1 h6⟩
  · rw [cui_o (j' := 38) (by decide)]; exact vp_43 h1 (h.2 b hb)
theorem bq_put {q : dK} {k : Nat} {v w : Int32} (h : BQ q (k : Int)) (hv : VP q v) (hw : VP q w) : BQ (cui (cui q 44 k v) 45 k w) (-1) := by
  have h1 : BQ (cui (cui q 44 k v) 45 k w) (k : Int) := bq_45 (bq_44 h hv) (vp_o rfl hw)
  refine ⟨fun i hi => ?_, h1.2⟩
  obtain ⟨h2, h3, h4⟩ := h1.1 i hi
  refine ⟨h2, h3, fun _ z => ?_⟩
  by_cases c : i = k
  · subst c
    rw [cui_e, cui_o (j' := 44) (by decide), cui_e]
    exact ⟨vp_o rfl (vp_o rfl hv), vp_o rfl (vp_o rfl hw)⟩
  · exact h4 (by omega) z
theorem bq_fr {S : List Nat} {F : List (Nat × Nat)} {q q' : dK} {e : Int} (h : BQ q e) (hF : cFr S F q q') (hd : (!S.contains 43 && !S.contains 44 && !S.contains 45 && !S.contains 38 && !S.contains 32 && F.all (fun p => p.1 != 43 && p.1 != 44 && p.1 != 45 && p.1 != 38 && (p.1 != 32 || p.2 != 14))) = true) : BQ q' e := by
  simp only [Bool.and_eq_true, Bool.not_eq_true', List.contains_eq_mem, decide_eq_false_iff_not, List.all_eq_true, Bool.or_eq_true, bne_iff_ne, ne_eq] at hd
  obtain ⟨⟨⟨⟨⟨d1, d2⟩, d3⟩, d4⟩, d5⟩, d6⟩ := hd
  have e43 : q'.1 43 = q.1 43 := hF.row 43 d1 (fun p hp => (d6 p hp).1.1.1.1)
  have e44 : q'.1 44 = q.1 44 := hF.row 44 d2 (fun p hp => (d6 p hp).1.1.1.2)
  have e45 : q'.1 45 = q.1 45 := hF.row 45 d3 (fun p hp => (d6 p hp).1.1.2)
  have e38 : q'.1 38 = q.1 38 := hF.row 38 d4 (fun p hp => (d6 p hp).1.2)
  have e32 : q'.1 32 14 = q.1 32 14 := hF.1 32 14 d5 (fun z => by rcases (d6 _ z).2 with y | y; exact y rfl; exact y rfl)
  unfold BQ VP at h ⊢
  rw [e43, e44, e45, e38, e32]
  exact h
/-- a sum's bucket -/
theorem bk_r {x : Int32} (h : 0 ≤ Int32.toInt x) : 0 ≤ Int32.toInt (x - x / 100 * 100) ∧ Int32.toInt (x - x / 100 * 100) < 100 := by
  have h1 : Int32.toInt (x - x / 100 * 100) = Int32.toInt x % 100 := ti_rem rfl (by decide) h (by omega)
  omega
/-- a tower and its rows -/
def TW (q : dK) (t : Int32) : Prop := 0 ≤ Int32.toInt t ∧ Int32.toInt t < Int32.toInt (q.1 32 14) ∧ ¬ Int32.toInt (q.1 43 (Int32.toNatClampNeg t)) = 2000000000
theorem ld_ln {q : dK} (hT : TC q) (h : LD q) {t : Int32} (h0 : 0 ≤ Int32.toInt t) (h1 : Int32.toInt t < Int32.toInt (q.1 32 14)) : dg t (Int32.toNatClampNeg (q.1 32 103)) = true ∧ dg t (Int32.toNatClampNeg (q.1 32 104)) = true ∧ dg t (Int32.toNatClampNeg (q.1 32 105)) = true ∧ dg t (Int32.toNatClampNeg (q.1 32 106)) = true := by
  have s := ld_sz h
  have r3 := rg_32_103 hT
  have r4 := rg_32_104 hT
  have r5 := rg_32_105 hT
  have r6 := rg_32_106 hT
  exact ⟨dg_ok h0 (by rw [cl_eq r3.1]; omega), dg_ok h0 (by rw [cl_eq r4.1]; omega), dg_ok h0 (by rw [cl_eq r5.1]; omega), dg_ok h0 (by rw [cl_eq r6.1]; omega)⟩
theorem ok_X3_putInBucket_s32 (q : dK) (p1 : Int32) (hT : TC q) (hp0 : LD q) (hp1 : TW q p1) (hp2 : BQ q (Int32.toInt p1)) : dOk (zX3_putInBucket_s32 q p1) (fun (o : dK) => (TC o) ∧ (cFr [38, 44, 45] [] q o) ∧ (BQ o (-1))) := by
  obtain ⟨t0, t1, t2⟩ := hp1
  have hVt : VP q p1 := Or.inr ⟨t0, t1, t2⟩
  have nt := cl_eq t0
  obtain ⟨g3, g4, g5, g6⟩ := ld_ln hT hp0 t0 t1
  have fr : ∀ (q' : dK), q'.1 32 = q.1 32 → (Int32.toNatClampNeg (q'.1 32 105) = Int32.toNatClampNeg (q.1 32 105) ∧ Int32.toNatClampNeg (q'.1 32 106) = Int32.toNatClampNeg (q.1 32 106)) := fun q' e => by rw [e]; exact ⟨rfl, rfl⟩
  unfold zX3_putInBucket_s32
  refine dOk_G g4 (dOk_L (fun v2 e2 => ?_))
  have b2 := hp2.1 (Int32.toNatClampNeg p1) (by omega)
  have m2 : 0 ≤ Int32.toInt v2 := by rw [e2]; exact b2.1
  have hb := bk_r m2
  obtain ⟨bk, hbk⟩ : ∃ y : Int32, v2 - v2 / 100 * 100 = y := ⟨_, rfl⟩
  rw [hbk] at hb ⊢
  clear hbk
  have nb := cl_eq hb.1
  refine dOk_G (dg_ok hb.1 (by omega)) (dOk_L (fun v4 e4 => ?_))
  have hV4 : VP q v4 := by rw [e4]; exact hp2.2 _ (by omega)
  refine dOk_G g5 (dOk_L (fun q6 e6 => ?_))
  have x6 : q6.1 32 = q.1 32 := by rw [e6]; exact cui_o (by decide)
  refine dOk_G (by rw [(fr q6 x6).2]; exact g6) (dOk_L (fun q8 e8 => ?_))
  have x8 : q8.1 32 = q.1 32 := by rw [e8]; exact (cui_o (by decide)).trans x6
  have hB8 : BQ q8 (-1) := by
    rw [e8, e6]
    exact bq_put (by rw [nt]; exact hp2) hV4 (Or.inl (by decide))
  have hT8 : TC q8 := by rw [e8, e6]; exact sa_45 (sa_44 hT)
  have hF8 : cFr [38, 44, 45] [] q q8 := by rw [e8, e6]; exact (cFr.rf.i (by decide)).i (by decide)
  have hV8 : ∀ w : Int32, VP q w → VP q8 w := fun w hw => by rw [e8, e6]; exact vp_o rfl (vp_o rfl hw)
  refine dOk_G (by rw [(fr q8 x8).1]; exact g5) (dOk_L (fun v10 e10 => ?_))
  have ev : v10 = v4 := by rw [e10, e8, cui_o (by decide), e6, cui_e]
  have h51 : ∀ qa : dK, TC qa → cFr [38, 44, 45] [] q qa → BQ qa (-1) → VP qa p1 → dOk (zX3_putInBucket_s32_51 qa p1 bk) (fun (o : dK) => (TC o) ∧ (cFr [38, 44, 45] [] q o) ∧ (BQ o (-1))) := by
    intro qa ha hb2 hc hd
    unfold zX3_putInBucket_s32_51
    refine dOk_G (dg_ok hb.1 (by omega)) (dOk_L (fun q2 e2 => dOk_some ?_))
    refine ⟨?_, ?_, ?_⟩
    · rw [e2]; exact sa_38 ha
    · rw [e2]; exact hb2.i (by decide)
    · rw [e2]; exact bq_38 hc hd
  refine dOk_eq rfl rfl (fun _ _ => h51 q8 hT8 hF8 hB8 (hV8 _ hVt)) (fun c _ => ?_)
  refine dOk_G (by rw [(fr q8 x8).1]; exact g5) (dOk_L (fun v12 e12 => ?_))
  have ew : v12 = v4 := by rw [e12, ← e10, ev]
  rw [ev] at c
  have hV12 := hV4
  rcases hV12 with z | ⟨z0, z1, z2⟩
  · exact absurd (Int32.toInt_inj.mp (z.trans (by decide : (-1 : Int) = Int32.toInt (-1)))) c
  · have gl := (ld_ln hT hp0 z0 z1).2.2.2
    refine dOk_G (by rw [(fr q8 x8).2, ew]; exact gl) (dOk_L (fun q14 e14 => ?_))
    refine h51 q14 (by rw [e14]; exact sa_45 hT8) (by rw [e14]; exact hF8.i (by decide)) (by rw [e14]; exact bq_45 hB8 (hV8 _ hVt)) (by rw [e14]; exact vp_o rfl (hV8 _ hVt))
theorem ok_X3_takeFromBucket_s32 (q : dK) (p1 : Int32) (hT : TC q) (hp0 : LD q) (hp1 : TW q p1) (hp2 : BQ q (-1)) : dOk (zX3_takeFromBucket_s32 q p1) (fun (o : dK) => (TC o) ∧ (cFr [38, 44, 45] [] q o) ∧ (BQ o (-1))) := by
  obtain ⟨t0, t1, t2⟩ := hp1
  have hVt : VP q p1 := Or.inr ⟨t0, t1, t2⟩
  have nt := cl_eq t0
  have h50 : ∀ qa : dK, TC qa → qa.1 32 = q.1 32 → qa.1 43 = q.1 43 → cFr [38, 44, 45] [] q qa → BQ qa (-1) → dOk (zX3_takeFromBucket_s32_50 qa p1) (fun (o : dK) => (TC o) ∧ (cFr [38, 44, 45] [] q o) ∧ (BQ o (-1))) := by
    intro qa ha a32 a43 hF hB
    have hLa : LD qa := ld_eq hp0 (fun k _ => by rw [a32])
    have s1 : Int32.toInt p1 < Int32.toInt (qa.1 32 14) := by rw [a32]; exact t1
    obtain ⟨g3, g4, g5, g6⟩ := ld_ln ha hLa t0 s1
    have bt := (hB.1 (Int32.toNatClampNeg p1) (by omega)).2.2 (by omega) (by rw [a43]; exact t2)
    unfold zX3_takeFromBucket_s32_50 zX3_takeFromBucket_s32_77
    refine dOk_G g5 (dOk_L (fun v2 e2 => ?_))
    refine dOk_eq rfl rfl (fun _ _ => dOk_some ⟨ha, hF, hB⟩) (fun c _ => ?_)
    refine dOk_G g5 (dOk_L (fun v4 e4 => dOk_G g6 (dOk_L (fun v6 e6 => ?_))))
    have hV4 : VP qa v4 := by rw [e4]; exact bt.1
    have hV6 : VP qa v6 := by rw [e6]; exact bt.2
    rcases hV4 with z | ⟨z0, z1, z2⟩
    · rw [e2, ← e4] at c
      exact absurd (Int32.toInt_inj.mp (z.trans (by decide : (-1 : Int) = Int32.toInt (-1)))) c
    · refine dOk_G (ld_ln ha hLa z0 z1).2.2.2 (dOk_L (fun q8 e8 => dOk_some ⟨?_, ?_, ?_⟩))
      · rw [e8]; exact sa_45 ha
      · rw [e8]; exact hF.i (by decide)
      · rw [e8]; exact bq_45 hB hV6
  obtain ⟨g3, g4, g5, g6⟩ := ld_ln hT hp0 t0 t1
  have b0 := hp2.1 (Int32.toNatClampNeg p1) (by omega)
  have bt := b0.2.2 (by omega) t2
  unfold zX3_takeFromBucket_s32
  refine dOk_G g6 (dOk_L (fun v2 e2 => ?_))
  refine dOk_eq rfl rfl (fun _ _ => ?_) (fun c _ => ?_)
  · refine dOk_G g4 (dOk_L (fun v10 e10 => dOk_G g5 (dOk_L (fun v12 e12 => ?_))))
    have hb := bk_r (x := v10) (by rw [e10]; exact b0.1)
    have hV : VP q v12 := by rw [e12]; exact bt.1
    refine dOk_G (dg_ok hb.1 hb.2) (dOk_L (fun q14 e14 => ?_))
    exact h50 q14 (by rw [e14]; exact sa_38 hT) (by rw [e14]; exact cui_o (by decide)) (by rw [e14]; exact cui_o (by decide)) (by rw [e14]; exact cFr.rf.i (by decide)) (by rw [e14]; exact bq_38 hp2 hV)
  · refine dOk_G g6 (dOk_L (fun v4 e4 => dOk_G g5 (dOk_L (fun v6 e6 => ?_))))
    have hV4 : VP q v4 := by rw [e4]; exact bt.2
    have hV6 : VP q v6 := by rw [e6]; exact bt.1
    rcases hV4 with z | ⟨z0, z1, z2⟩
    · rw [e2, ← e4] at c
      exact absurd (Int32.toInt_inj.mp (z.trans (by decide : (-1 : Int) = Int32.toInt (-1)))) c
    · refine dOk_G (ld_ln hT hp0 z0 z1).2.2.1 (dOk_L (fun q8 e8 => ?_))
      exact h50 q8 (by rw [e8]; exact sa_44 hT) (by rw [e8]; exact cui_o (by decide)) (by rw [e8]; exact cui_o (by decide)) (by rw [e8]; exact cFr.rf.i (by decide)) (by rw [e8]; exact bq_44 hp2 hV6)
theorem ok_X3_offerTurns_s32 (q : dK) (p1 : Int32) (hT : TC q) (hp0 : LD q) (hp1 : TW q p1) (hp2 : BQ q (-1)) : dOk (zX3_offerTurns_s32 q p1) (fun (o : Int32 × dK) => (TC o.2) ∧ (cFr [38, 43, 44, 45] [] q o.2) ∧ (BQ o.2 (-1))) := by
  have sz := ld_sz hp0
  have hd32 : ∀ qa : dK, cFr [38, 43, 44, 45] [] q qa → LD qa ∧ qa.1 32 14 = q.1 32 14 ∧ qa.1 32 13 = q.1 32 13 := fun qa hF => ⟨ld_fr hp0 hF rfl, hF.1 32 14 (by decide) (by decide), hF.1 32 13 (by decide) (by decide)⟩
  unfold zX3_offerTurns_s32 zX3_offerTurns_s32_4
  refine dFix_ok (fun (a : dK × Int32 × Int32 × Int32) => TC a.1 ∧ cFr [38, 43, 44, 45] [] q a.1 ∧ a.2.1 = p1 ∧ 1 ≤ a.2.2.2.toInt ∧ a.2.2.2.toInt ≤ 7 ∧ BQ a.1 (-1) ∧ ¬ Int32.toInt (a.1.1 43 (Int32.toNatClampNeg p1)) = 2000000000) (fun (a : dK × Int32 × Int32 × Int32) => (7 - a.2.2.2.toInt).toNat) ?_ _ ⟨hT, cFr.rf, rfl, by show 1 ≤ Int32.toInt 1; decide, by show Int32.toInt 1 ≤ 7; decide, hp2, hp1.2.2⟩ _ (dF_gt (by show (7 - Int32.toInt 1).toNat < 1000000000000; decide))
  intro a ha k4 hk4
  obtain ⟨qa, x1, x2, x3⟩ := a
  obtain ⟨a0, a1, a2, a3, a4, a5, a6⟩ := ha
  replace a0 : TC qa := a0
  replace a1 : cFr [38, 43, 44, 45] [] q qa := a1
  replace a2 : p1 = x1 := Eq.symm a2
  replace a3 : 1 ≤ x3.toInt := a3
  replace a4 : x3.toInt ≤ 7 := a4
  replace a5 : BQ qa (-1) := a5
  replace a6 : ¬ Int32.toInt (qa.1 43 (Int32.toNatClampNeg p1)) = 2000000000 := a6
  subst a2
  obtain ⟨hLa, u14, u13⟩ := hd32 qa a1
  have t0 := hp1.1
  have t1 : Int32.toInt p1 < Int32.toInt (qa.1 32 14) := by rw [u14]; exact hp1.2.1
  have nt := cl_eq t0
  have t3 : x3.toInt ≤ 6 → Int32.toInt (x3 + 1) = x3.toInt + 1 := fun z => ti_add rfl (by decide) (by omega) (by omega)
  show dOk (zX3_offerTurns_s32_4b (fun q x1 x2 x3 => k4 (q, x1, x2, x3)) qa p1 x2 x3) _
  unfold zX3_offerTurns_s32_4b zX3_offerTurns_s32_105
  refine dOk_lt rfl rfl (fun c => dOk_some ⟨a0, a1, a5⟩) (fun c => ?_)
  rw [u13] at c
  have step : ∀ (qb : dK) (y2 : Int32), TC qb → cFr [38, 43, 44, 45] [] q qb → BQ qb (-1) → ¬ Int32.toInt (qb.1 43 (Int32.toNatClampNeg p1)) = 2000000000 → dOk (k4 (qb, p1, y2, x3 + 1)) (fun (o : Int32 × dK) => (TC o.2) ∧ (cFr [38, 43, 44, 45] [] q o.2) ∧ (BQ o.2 (-1))) := fun qb y2 h1 h2 h3 h4 => hk4 (qb, p1, y2, x3 + 1) ⟨h1, h2, rfl, by show 1 ≤ Int32.toInt (x3 + 1); rw [t3 (by omega)]; omega, by show Int32.toInt (x3 + 1) ≤ 7; rw [t3 (by omega)]; omega, h3, h4⟩ (by show (7 - Int32.toInt (x3 + 1)).toNat < (7 - Int32.toInt x3).toNat; rw [t3 (by omega)]; omega)
  refine dOk_B (ok_X3_turned_s32 qa p1 x3 a0 hLa t0 t1) (fun r1 q3 h3 => ?_)
  obtain ⟨h30, h31, h32⟩ := h3
  replace h30 : qa = q3 := Eq.symm h30
  replace h31 : 0 ≤ Int32.toInt r1 := h31
  replace h32 : Int32.toInt r1 < Int32.toInt (qa.1 32 14) := h32
  subst h30
  refine dOk_B (ok_X3_caseOf_s32 qa p1 x3 a0 hLa t0 t1 a3 (by rw [u13]; exact c)) (fun r4 q6 h6 => ?_)
  obtain ⟨h60, h61, h62⟩ := h6
  replace h60 : qa = q6 := Eq.symm h60
  replace h61 : 0 ≤ Int32.toInt r4 := h61
  replace h62 : Int32.toInt r4 < 504 := h62
  subst h60
  have nr := cl_eq h31
  obtain ⟨-, g4, -, -⟩ := ld_ln a0 hLa t0 t1
  obtain ⟨-, w4, -, -⟩ := ld_ln a0 hLa h31 h32
  have bp := a5.1 (Int32.toNatClampNeg p1) (by omega)
  have br := a5.1 (Int32.toNatClampNeg r1) (by omega)
  refine dOk_G g4 (dOk_L (fun v8 e8 => dOk_G (dg_ok h61 h62) (dOk_L (fun v10 e10 => dOk_G (dg_ok h61 h62) (dOk_L (fun v12 e12 => ?_))))))
  have m8 : 0 ≤ Int32.toInt v8 ∧ Int32.toInt v8 < 2000000000 := by rw [e8]; omega
  have m10 : 0 ≤ Int32.toInt v10 ∧ Int32.toInt v10 ≤ 99 := by rw [e10]; exact rg_36 a0 _
  have ts : Int32.toInt (v8 + v10) = v8.toInt + v10.toInt := ti_add rfl rfl (by omega) (by omega)
  obtain ⟨sm, hsm⟩ : ∃ y : Int32, v8 + v10 = y := ⟨_, rfl⟩
  rw [hsm] at ts ⊢
  clear hsm
  have h90 : ∀ (qb : dK) (y2 : Int32), TC qb → cFr [38, 43, 44, 45] [] q qb → BQ qb (-1) → qb.1 43 = qa.1 43 → Int32.toInt sm < 2000000000 → dOk (zX3_offerTurns_s32_90 (fun q x1 x2 x3 => k4 (q, x1, x2, x3)) qb p1 y2 x3 r1 sm) (fun (o : Int32 × dK) => (TC o.2) ∧ (cFr [38, 43, 44, 45] [] q o.2) ∧ (BQ o.2 (-1))) := by
    intro qb y2 b0 b1 b2 b43 b3
    obtain ⟨hLb, v14, v13⟩ := hd32 qb b1
    have s1 : Int32.toInt r1 < Int32.toInt (qb.1 32 14) := by rw [v14, ← u14]; exact h32
    unfold zX3_offerTurns_s32_90 zX3_offerTurns_s32_105
    refine dOk_G (ld_ln b0 hLb h31 s1).2.1 (dOk_L (fun q2 e2 => ?_))
    have hF2 : cFr [38, 43, 44, 45] [] q q2 := by rw [e2]; exact b1.i (by decide)
    obtain ⟨hL2, w14, w13⟩ := hd32 q2 hF2
    have hm : ∀ i : Nat, ¬ Int32.toInt (qb.1 43 i) = 2000000000 → ¬ Int32.toInt (q2.1 43 i) = 2000000000 := by
      intro i hi
      rw [e2]
      by_cases cc : i = Int32.toNatClampNeg r1
      · rw [cc, cui_e]; omega
      · rw [cui_n cc]; exact hi
    refine dOk_V (ok_X3_putInBucket_s32 q2 r1 (by rw [e2]; exact sa_43 b0) hL2 ⟨h31, by rw [w14, ← u14]; exact h32, by rw [e2, cui_e]; omega⟩ (by rw [e2, ← nr]; exact bq_43 b2 (by omega) b3)) (fun q5 h5 => ?_)
    obtain ⟨h50, h51, h52⟩ := h5
    have h53 : q5.1 43 = q2.1 43 := h51.row 43 (by decide) (by decide)
    exact step q5 y2 h50 (hF2.t h51 (by decide) (by decide)) h52 (by rw [h53]; exact hm _ (by rw [b43]; exact a6))
  refine dOk_eq rfl rfl (fun _ _ => ?_) (fun _ _ => step qa x2 a0 a1 a5 a6)
  refine dOk_G w4 (dOk_L (fun v14 e14 => ?_))
  refine dOk_le rfl rfl (fun _ => step qa x2 a0 a1 a5 a6) (fun c2 => ?_)
  have m14 : Int32.toInt v14 ≤ 2000000000 := by rw [e14]; exact br.2.1
  refine dOk_G w4 (dOk_L (fun v16 e16 => ?_))
  refine dOk_eq rfl (by decide : Int32.toInt 2000000000 = 2000000000) (fun _ _ => h90 qa (x2 + 1) a0 a1 a5 rfl (by omega)) (fun _ c3 => ?_)
  rw [e16] at c3
  refine dOk_V (ok_X3_takeFromBucket_s32 qa r1 a0 hLa ⟨h31, h32, c3⟩ a5) (fun q19 h19 => ?_)
  obtain ⟨k0, k1, k2⟩ := h19
  exact h90 q19 x2 k0 (a1.t k1 (by decide) (by decide)) k2 (k1.row 43 (by decide) (by decide)) (by omega)
theorem ok_X3_leastPaid_s32_s20 (q : dK) (p2 : Int32) (hT : TC q) (hp0 : LD q) (hp1 : 0 ≤ Int32.toInt (q.1 32 15)) (hp2 : Int32.toInt (q.1 32 15) < Int32.toInt (q.1 32 14)) : dOk (zX3_leastPaid_s32_s20 q p2) (fun (o : Int32 × dK) => (TC o.2) ∧ (cFr [19, 21, 36, 38, 43, 44, 45] [(18, 1)] q o.2)) := by
  have sz := ld_sz hp0
  unfold zX3_leastPaid_s32_s20
  refine dOk_V (ok_X3_askCases_s32_s20_c0 q p2 hT) (fun q3 h3 => ?_)
  obtain ⟨hT3, hF3⟩ := h3
  replace hT3 : TC q3 := hT3
  replace hF3 : cFr [19, 21, 36] [(18, 1)] q q3 := hF3
  refine dOk_L (fun q4 e4 => dOk_L (fun q5 e5 => ?_))
  have hT5 : TC q5 := by rw [e5, e4]; exact tc_cfi (tc_cfi hT3 (by decide)) (by decide)
  have hF5 : cFr [19, 21, 36, 38, 43, 44, 45] [(18, 1)] q q5 := by rw [e5, e4]; exact (((cFr.rf (q := q)).t hF3 (by decide) (by decide)).g (by decide)).g (by decide)
  have hL3 : LD q3 := ld_fr hp0 hF3 rfl
  have r4 := rg_32_104 hT3
  have s3 := ld_sz hL3
  have hd32 : ∀ qa : dK, cFr [19, 21, 36, 38, 43, 44, 45] [(18, 1)] q qa → LD qa ∧ qa.1 32 14 = q.1 32 14 ∧ qa.1 32 15 = q.1 32 15 := fun qa hF => ⟨ld_fr hp0 hF rfl, hF.1 32 14 (by decide) (by decide), hF.1 32 15 (by decide) (by decide)⟩
  obtain ⟨hL5, u14, u15⟩ := hd32 q5 hF5
  have m43 : ∀ i : Nat, (i : Int) < Int32.toInt (q5.1 32 14) → q5.1 43 i = 2000000000 := by
    intro i hi
    have n4 := cl_eq r4.1
    have e3 : q3.1 32 14 = q.1 32 14 := hF3.1 32 14 (by decide) (by decide)
    rw [u14, ← e3] at hi
    rw [e5, e4]
    show (if (43 : Nat) = 38 then kz_fl ((cfi q3 43 (Int32.toNatClampNeg (q3.1 32 104)) 2000000000).1 38) 100 (-1) else (if (43 : Nat) = 43 then kz_fl (q3.1 43) (Int32.toNatClampNeg (q3.1 32 104)) 2000000000 else q3.1 43)) i = 2000000000
    rw [if_neg (by decide), if_pos rfl]
    exact if_pos (by omega)
  have m38 : ∀ i : Nat, i < 100 → q5.1 38 i = -1 := by
    intro i hi
    rw [e5]
    show (if (38 : Nat) = 38 then kz_fl (q4.1 38) 100 (-1) else q4.1 38) i = -1
    rw [if_pos rfl]
    exact if_pos hi
  have hB5 : BQ q5 (-1) := by
    refine ⟨fun i hi => ?_, fun b hb => ?_⟩
    · rw [m43 i hi]
      exact ⟨by decide, by decide, fun _ z => absurd (by decide) z⟩
    · rw [m38 b hb]; exact Or.inl (by decide)
  clear e4 e5 m43 m38
  obtain ⟨st, hst⟩ : ∃ y : Int32, q5.1 32 15 = y := ⟨_, rfl⟩
  have t0 : 0 ≤ Int32.toInt st := by rw [← hst, u15]; exact hp1
  have t1 : Int32.toInt st < Int32.toInt (q5.1 32 14) := by rw [← hst, u15, u14]; exact hp2
  have nt := cl_eq t0
  rw [hst]
  refine dOk_G (ld_ln hT5 hL5 t0 t1).2.1 (dOk_L (fun q7 e7 => ?_))
  have hT7 : TC q7 := by rw [e7]; exact sa_43 hT5
  have hF7 : cFr [19, 21, 36, 38, 43, 44, 45] [(18, 1)] q q7 := by rw [e7]; exact hF5.i (by decide)
  have hB7 : BQ q7 (Int32.toInt st) := by rw [e7, ← nt]; exact bq_43 hB5 (by decide) (by decide)
  have h715 : q7.1 32 15 = st := by rw [e7, cui_o (by decide)]; exact hst
  obtain ⟨hL7, w14, w15⟩ := hd32 q7 hF7
  rw [h715]
  refine dOk_V (ok_X3_putInBucket_s32 q7 st hT7 hL7 ⟨t0, by rw [w14, ← u14]; exact t1, by rw [e7, cui_e]; decide⟩ hB7) (fun q10 h10 => ?_)
  obtain ⟨hT10, hF10, hB10⟩ := h10
  replace hT10 : TC q10 := hT10
  have hF10' : cFr [19, 21, 36, 38, 43, 44, 45] [(18, 1)] q q10 := hF7.t hF10 (by decide) (by decide)
  replace hB10 : BQ q10 (-1) := hB10
  clear e7 hB7 hB5 hF10 hT7 hF7 hT5 hF5 hL5 hL7 w14 w15 u14 u15 h715 hst t0 t1 nt
  unfold zX3_leastPaid_s32_s20_47
  refine dFix_ok (fun (a : dK × Int32 × Int32) => TC a.1 ∧ cFr [19, 21, 36, 38, 43, 44, 45] [(18, 1)] q a.1 ∧ BQ a.1 (-1) ∧ 0 ≤ a.2.2.toInt ∧ a.2.2.toInt ≤ 5000000) (fun (a : dK × Int32 × Int32) => (5000000 - a.2.2.toInt).toNat) ?_ _ ⟨hT10, hF10', hB10, by show 0 ≤ Int32.toInt 0; decide, by show Int32.toInt 0 ≤ 5000000; decide⟩ _ (dF_gt (by show (5000000 - Int32.toInt 0).toNat < 1000000000000; rw [show Int32.toInt 0 = 0 by decide]; omega))
  clear hT10 hF10' hB10
  intro a ha k47 hk47
  obtain ⟨qa, x3, x4⟩ := a
  obtain ⟨a0, a1, a2, a3, a4⟩ := ha
  replace a0 : TC qa := a0
  replace a1 : cFr [19, 21, 36, 38, 43, 44, 45] [(18, 1)] q qa := a1
  replace a2 : BQ qa (-1) := a2
  replace a3 : 0 ≤ x4.toInt := a3
  replace a4 : x4.toInt ≤ 5000000 := a4
  obtain ⟨hLa, u14, u15⟩ := hd32 qa a1
  have sa := ld_sz hLa
  have t99 : Int32.toInt (99 * (qa.1 32 14) : Int32) = 99 * Int32.toInt (qa.1 32 14) := ti_mul (by decide) rfl (by omega) (by omega)
  have t4 : Int32.toInt (x4 + 1) = x4.toInt + 1 := ti_add rfl (by decide) (by omega) (by omega)
  show dOk (zX3_leastPaid_s32_s20_47b (fun q x3 x4 => k47 (q, x3, x4)) qa x3 x4) _
  unfold zX3_leastPaid_s32_s20_47b zX3_leastPaid_s32_s20_143
  refine dOk_lt t99 rfl (fun _ => dOk_some ⟨a0, a1⟩) (fun c => ?_)
  refine dOk_le rfl rfl (fun _ => dOk_some ⟨a0, a1⟩) (fun _ => ?_)
  have hb := bk_r a3
  obtain ⟨bk, hbk⟩ : ∃ y : Int32, x4 - x4 / 100 * 100 = y := ⟨_, rfl⟩
  rw [hbk] at hb ⊢
  clear hbk t99
  have nb := cl_eq hb.1
  have c4 : x4.toInt < 5000000 := by omega
  unfold zX3_leastPaid_s32_s20_73
  refine dFix_ok (fun (a : dK × Int32 × Int32 × Int32 × Int32) => TC a.1 ∧ cFr [19, 21, 36, 38, 43, 44, 45] [(18, 1)] q a.1 ∧ BQ a.1 (-1) ∧ a.2.2.1 = x4 ∧ a.2.2.2.1 = bk ∧ 0 ≤ a.2.2.2.2.toInt ∧ a.2.2.2.2.toInt ≤ 50000) (fun (a : dK × Int32 × Int32 × Int32 × Int32) => (50000 - a.2.2.2.2.toInt).toNat) ?_ _ ⟨a0, a1, a2, rfl, rfl, by show 0 ≤ Int32.toInt 0; decide, by show Int32.toInt 0 ≤ 50000; decide⟩ _ (dF_gt (by show (50000 - Int32.toInt 0).toNat < 1000000000000; rw [show Int32.toInt 0 = 0 by decide]; omega))
  clear a0 a1 a2 hLa u14 u15 sa c
  intro a ha k73 hk73
  obtain ⟨qb, y3, y4, y5, x6⟩ := a
  obtain ⟨b0, b1, b2, b3, b4, b5, b6⟩ := ha
  replace b0 : TC qb := b0
  replace b1 : cFr [19, 21, 36, 38, 43, 44, 45] [(18, 1)] q qb := b1
  replace b2 : BQ qb (-1) := b2
  replace b3 : x4 = y4 := Eq.symm b3
  replace b4 : bk = y5 := Eq.symm b4
  replace b5 : 0 ≤ x6.toInt := b5
  replace b6 : x6.toInt ≤ 50000 := b6
  subst b3 b4
  obtain ⟨hLb, u14, u15⟩ := hd32 qb b1
  have sb := ld_sz hLb
  have h137 : ∀ (qc : dK) (z3 : Int32), TC qc → cFr [19, 21, 36, 38, 43, 44, 45] [(18, 1)] q qc → BQ qc (-1) → dOk (k47 (qc, z3, x4 + 1)) (fun (o : Int32 × dK) => (TC o.2) ∧ (cFr [19, 21, 36, 38, 43, 44, 45] [(18, 1)] q o.2)) := fun qc z3 h1 h2 h3 => hk47 (qc, z3, x4 + 1) ⟨h1, h2, h3, by show 0 ≤ Int32.toInt (x4 + 1); omega, by show Int32.toInt (x4 + 1) ≤ 5000000; omega⟩ (by show (5000000 - Int32.toInt (x4 + 1)).toNat < (5000000 - Int32.toInt x4).toNat; omega)
  show dOk (zX3_leastPaid_s32_s20_73b (fun q x3 x4 => k47 (q, x3, x4)) (fun q x3 x4 x5 x6 => k73 (q, x3, x4, x5, x6)) qb y3 x4 bk x6) _
  unfold zX3_leastPaid_s32_s20_73b zX3_leastPaid_s32_s20_137
  refine dOk_le rfl rfl (fun _ => h137 qb y3 b0 b1 b2) (fun c6 => ?_)
  have t6 : Int32.toInt (x6 + 1) = x6.toInt + 1 := ti_add rfl (by decide) (by omega) (by omega)
  refine dOk_G (dg_ok hb.1 hb.2) (dOk_L (fun v2 e2 => ?_))
  refine dOk_eq rfl rfl (fun _ _ => h137 qb y3 b0 b1 b2) (fun c2 _ => ?_)
  refine dOk_G (dg_ok hb.1 hb.2) (dOk_L (fun v4 e4 => ?_))
  have hV4 : VP qb v4 := by rw [e4]; exact b2.2 _ (by omega)
  rcases hV4 with z | hV4
  · rw [e2, ← e4] at c2
    exact absurd (Int32.toInt_inj.mp (z.trans (by decide : (-1 : Int) = Int32.toInt (-1)))) c2
  refine dOk_V (ok_X3_takeFromBucket_s32 qb v4 b0 hLb hV4 b2) (fun q7 h7 => ?_)
  obtain ⟨hT7, hF7, hB7⟩ := h7
  replace hT7 : TC q7 := hT7
  have w43 : q7.1 43 = qb.1 43 := hF7.row 43 (by decide) (by decide)
  have w14 : q7.1 32 14 = qb.1 32 14 := hF7.1 32 14 (by decide) (by decide)
  have hF7' : cFr [19, 21, 36, 38, 43, 44, 45] [(18, 1)] q q7 := b1.t hF7 (by decide) (by decide)
  refine dOk_B (ok_X3_isOrdered_s32 q7 v4 hT7) (fun r8 q10 h10 => ?_)
  obtain ⟨h100, h101⟩ := h10
  replace h100 : q7 = q10 := Eq.symm h100
  subst h100
  refine dOk_eq rfl rfl (fun _ _ => ?_) (fun _ _ => dOk_some ⟨hT7, hF7'⟩)
  refine dOk_B (ok_X3_offerTurns_s32 q7 v4 hT7 (hd32 q7 hF7').1 ⟨hV4.1, by rw [w14]; exact hV4.2.1, by rw [w43]; exact hV4.2.2⟩ hB7) (fun r11 q13 h13 => ?_)
  obtain ⟨hT13, hF13, hB13⟩ := h13
  exact hk73 (q13, y3 + (r11 - 1), x4, bk, x6 + 1) ⟨hT13, hF7'.t hF13 (by decide) (by decide), hB13, rfl, rfl, by show 0 ≤ Int32.toInt (x6 + 1); omega, by show Int32.toInt (x6 + 1) ≤ 50000; omega⟩ (by show (50000 - Int32.toInt (x6 + 1)).toNat < (50000 - Int32.toInt x6).toNat; omega)
end
