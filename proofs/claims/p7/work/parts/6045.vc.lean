set_option maxHeartbeats 4000000 in
set_option maxRecDepth 100000 in
theorem ok_X3_lay_s32_s2_s20_46 (nc : Nat) (ns : Nat) (q : dK) (hT : TC q) (hp0 : LD q) : dOk (zX3_lay_s32_s2_s20_46 nc ns q) (fun (o : dK) => (TC o) ∧ (cFr [19, 21, 33, 34, 35] [(18, 1), (32, 15)] q o) ∧ (0 ≤ Int32.toInt (o.1 32 15)) ∧ (Int32.toInt (o.1 32 15) < Int32.toInt (o.1 32 14))) := by
  unfold zX3_lay_s32_s2_s20_46
  have hLs := ld_sz hp0
  unfold zX3_lay_s32_s2_s20_52
  refine dFix_ok (fun (a : dK × Int32 × Int32) => (TC a.1) ∧ (cFr [33] [] q a.1) ∧ (a.2.2 = 0) ∧ (0 ≤ Int32.toInt a.2.1) ∧ (Int32.toInt a.2.1 ≤ 6) ∧ (0 ≤ Int32.toInt a.2.2) ∧ (Int32.toInt a.2.2 ≤ 6)) (fun (a : dK × Int32 × Int32) => (6 - Int32.toInt a.2.2).toNat) ?_ _ ?_ _ (dF_gt ?_)
  · intro a ha k_2 hk_1
    obtain ⟨q_3, x4_4, x5_5⟩ := a
    replace ha : (TC q_3) ∧ (cFr [33] [] q q_3) ∧ (x5_5 = 0) ∧ (0 ≤ Int32.toInt x4_4) ∧ (Int32.toInt x4_4 ≤ 6) ∧ (0 ≤ Int32.toInt x5_5) ∧ (Int32.toInt x5_5 ≤ 6) := ha
    obtain ⟨a_6, a_7, a_8, a_9, a_10, a_11, a_12⟩ := ha
    show dOk (zX3_lay_s32_s2_s20_52b nc ns (fun q x4 x5 => k_2 (q, x4, x5)) q_3 x4_4 x5_5) _
    unfold zX3_lay_s32_s2_s20_52b
    have hFq_3 : cFr [19, 21, 33, 34, 35] [(18, 1), (32, 15)] q q_3 := (cFr.rf (q := q)).t a_7 (by decide) (by decide)
    subst x5_5
    refine dOk_le (A := 6) (B := 0) (by decide) (by decide) (fun c_13 => ?_) (fun c_14 => ?_)
    · unfold zX3_lay_s32_s2_s20_99
      refine dFix_ok (fun (a : dK × Int32 × Int32) => (TC a.1) ∧ (cFr [34] [] q_3 a.1) ∧ (a.2.1 = 0) ∧ (a.2.2 = 0) ∧ (0 ≤ Int32.toInt a.2.1 ∧ Int32.toInt a.2.1 ≤ 63) ∧ (0 ≤ Int32.toInt a.2.2) ∧ (Int32.toInt a.2.2 ≤ 6)) (fun (a : dK × Int32 × Int32) => (6 - Int32.toInt a.2.2).toNat) ?_ _ ?_ _ (dF_gt ?_)
      · intro a ha k_16 hk_15
        obtain ⟨q_17, x5_18, x6_19⟩ := a
        replace ha : (TC q_17) ∧ (cFr [34] [] q_3 q_17) ∧ (x5_18 = 0) ∧ (x6_19 = 0) ∧ (0 ≤ Int32.toInt x5_18 ∧ Int32.toInt x5_18 ≤ 63) ∧ (0 ≤ Int32.toInt x6_19) ∧ (Int32.toInt x6_19 ≤ 6) := ha
        obtain ⟨a_20, a_21, a_22, a_23, a_24, a_25, a_26⟩ := ha
        show dOk (zX3_lay_s32_s2_s20_99b nc ns (fun q x5 x6 => k_16 (q, x5, x6)) q_17 x5_18 x6_19) _
        unfold zX3_lay_s32_s2_s20_99b
        have hFq_17 : cFr [19, 21, 33, 34, 35] [(18, 1), (32, 15)] q q_17 := hFq_3.t a_21 (by decide) (by decide)
        subst x5_18
        subst x6_19
        refine dOk_le (A := 6) (B := 0) (by decide) (by decide) (fun c_27 => ?_) (fun c_28 => ?_)
        · refine dOk_B (ok_X3_numberOfOrder_s32 q_17 a_20) (fun r_29 q_30 h_31 => ?_)
          replace h_31 : (q_30 = q_17) ∧ (0 ≤ Int32.toInt r_29 ∧ Int32.toInt r_29 ≤ 719) := h_31
          obtain ⟨i_32, i_33⟩ := h_31
          subst q_30
          refine dOk_L (fun q_34 eq_34 => ?_)
          have f_35 : 0 ≤ Int32.toInt (q_17.1 32 14) ∧ Int32.toInt (q_17.1 32 14) ≤ 46080 := rg_32_14 a_20
          have f_36 : 0 ≤ Int32.toInt (q_3.1 32 14) ∧ Int32.toInt (q_3.1 32 14) ≤ 46080 := rg_32_14 a_6
          have f_37 : 0 ≤ Int32.toInt (q.1 32 14) ∧ Int32.toInt (q.1 32 14) ≤ 46080 := rg_32_14 hT
          have w_38 : Int32.toInt (q_3.1 32 14) = Int32.toInt (q.1 32 14) := by rw [a_7.1 32 14 (by decide) (by decide)]
          have w_39 : Int32.toInt (q_17.1 32 14) = Int32.toInt (q_3.1 32 14) := by rw [a_21.1 32 14 (by decide) (by decide)]
          try have t_40 : Int32.toInt (q_17.1 32 14 - 1) = Int32.toInt (q_17.1 32 14) - 1 := ti_sub rfl (by decide) (by omega) (by omega)
          have f_41 : 0 ≤ Int32.toInt (q_17.1 32 13) ∧ Int32.toInt (q_17.1 32 13) ≤ 6 := rg_32_13 a_20
          have f_42 : 0 ≤ Int32.toInt (q_3.1 32 13) ∧ Int32.toInt (q_3.1 32 13) ≤ 6 := rg_32_13 a_6
          have f_43 : 0 ≤ Int32.toInt (q.1 32 13) ∧ Int32.toInt (q.1 32 13) ≤ 6 := rg_32_13 hT
          have w_44 : Int32.toInt (q_3.1 32 13) = Int32.toInt (q.1 32 13) := by rw [a_7.1 32 13 (by decide) (by decide)]
          have w_45 : Int32.toInt (q_17.1 32 13) = Int32.toInt (q_3.1 32 13) := by rw [a_21.1 32 13 (by decide) (by decide)]
          try have t_46 := ti_shl5 (x := r_29) (s := q_17.1 32 13) (by omega) (by omega) (by omega) (by omega)
          try have t_47 := ti_shl6 (x := r_29) (s := q_17.1 32 13) (by omega) (by omega) (by omega) (by omega)
          try have t_48 := ld_w (s := q_17.1 32 13) (v := r_29) (w := 0) (by omega) (by omega) (by omega) (by omega) (by omega) (by omega)
          have t_49 : Int32.toInt (mnI (q_17.1 32 14 - 1) (r_29 <<< ((q_17.1 32 13 : Int32) &&& 31) ||| 0)) ≤ Int32.toInt (q_17.1 32 14 - 1) ∧ Int32.toInt (mnI (q_17.1 32 14 - 1) (r_29 <<< ((q_17.1 32 13 : Int32) &&& 31) ||| 0)) ≤ Int32.toInt (r_29 <<< ((q_17.1 32 13 : Int32) &&& 31) ||| 0) ∧ (Int32.toInt (mnI (q_17.1 32 14 - 1) (r_29 <<< ((q_17.1 32 13 : Int32) &&& 31) ||| 0)) = Int32.toInt (q_17.1 32 14 - 1) ∨ Int32.toInt (mnI (q_17.1 32 14 - 1) (r_29 <<< ((q_17.1 32 13 : Int32) &&& 31) ||| 0)) = Int32.toInt (r_29 <<< ((q_17.1 32 13 : Int32) &&& 31) ||| 0)) := mn_le
          have hTq_34 : TC q_34 := by rw [eq_34]; exact st_32_15 a_20 (show (0 : Int) ≤ Int32.toInt (mnI (q_17.1 32 14 - 1) (r_29 <<< ((q_17.1 32 13 : Int32) &&& 31) ||| 0)) by omega) (show Int32.toInt (mnI (q_17.1 32 14 - 1) (r_29 <<< ((q_17.1 32 13 : Int32) &&& 31) ||| 0)) ≤ (46079 : Int) by omega)
          have hFq_34 : cFr [19, 21, 33, 34, 35] [(18, 1), (32, 15)] q q_34 := by rw [eq_34]; exact hFq_17.f (by decide)
          have f_50 : 0 ≤ Int32.toInt (q_34.1 2 4) ∧ Int32.toInt (q_34.1 2 4) ≤ 1023 := rg_2_4 hTq_34
          have f_51 : 0 ≤ Int32.toInt (q_17.1 2 4) ∧ Int32.toInt (q_17.1 2 4) ≤ 1023 := rg_2_4 a_20
          have f_52 : 0 ≤ Int32.toInt (q_3.1 2 4) ∧ Int32.toInt (q_3.1 2 4) ≤ 1023 := rg_2_4 a_6
          have f_53 : 0 ≤ Int32.toInt (q.1 2 4) ∧ Int32.toInt (q.1 2 4) ≤ 1023 := rg_2_4 hT
          have w_54 : Int32.toInt (q_3.1 2 4) = Int32.toInt (q.1 2 4) := by rw [a_7.1 2 4 (by decide) (by decide)]
          have w_55 : Int32.toInt (q_17.1 2 4) = Int32.toInt (q_3.1 2 4) := by rw [a_21.1 2 4 (by decide) (by decide)]
          have w_56 : Int32.toInt (q_34.1 2 4) = Int32.toInt (q_17.1 2 4) := by rw [eq_34, cui_o (by decide)]
          refine dOk_V (ok_X3_askCases_s32_s20_c1 q_34 (q_34.1 2 4) hTq_34) (fun q_57 h_58 => ?_)
          replace h_58 : (TC q_57) ∧ (cFr [19, 21, 35] [(18, 1)] q_34 q_57) := h_58
          obtain ⟨i_59, i_60⟩ := h_58
          have hFq_57 : cFr [19, 21, 33, 34, 35] [(18, 1), (32, 15)] q q_57 := hFq_34.t i_60 (by decide) (by decide)
          have f_61 : 0 ≤ Int32.toInt (q_57.1 32 15) ∧ Int32.toInt (q_57.1 32 15) ≤ 46079 := rg_32_15 i_59
          have f_62 : 0 ≤ Int32.toInt (q_34.1 32 15) ∧ Int32.toInt (q_34.1 32 15) ≤ 46079 := rg_32_15 hTq_34
          have w_63 : Int32.toInt (q_34.1 32 15) = Int32.toInt (mnI (q_17.1 32 14 - 1) (r_29 <<< ((q_17.1 32 13 : Int32) &&& 31) ||| 0)) := by rw [eq_34, cui_e]
          have w_64 : Int32.toInt (q_57.1 32 15) = Int32.toInt (q_34.1 32 15) := by rw [i_60.1 32 15 (by decide) (by decide)]
          have f_65 : 0 ≤ Int32.toInt (q_57.1 32 14) ∧ Int32.toInt (q_57.1 32 14) ≤ 46080 := rg_32_14 i_59
          have f_66 : 0 ≤ Int32.toInt (q_34.1 32 14) ∧ Int32.toInt (q_34.1 32 14) ≤ 46080 := rg_32_14 hTq_34
          have w_67 : Int32.toInt (q_34.1 32 14) = Int32.toInt (q_17.1 32 14) := by rw [eq_34, cui_n (by decide)]
          have w_68 : Int32.toInt (q_57.1 32 14) = Int32.toInt (q_34.1 32 14) := by rw [i_60.1 32 14 (by decide) (by decide)]
          exact dOk_some (show (TC q_57) ∧ (cFr [19, 21, 33, 34, 35] [(18, 1), (32, 15)] q q_57) ∧ (0 ≤ Int32.toInt (q_57.1 32 15)) ∧ (Int32.toInt (q_57.1 32 15) < Int32.toInt (q_57.1 32 14)) from ⟨i_59, hFq_57, by omega, by omega⟩)
        · have f_69 : 0 ≤ Int32.toInt (q_17.1 32 13) ∧ Int32.toInt (q_17.1 32 13) ≤ 6 := rg_32_13 a_20
          have f_70 : 0 ≤ Int32.toInt (q_3.1 32 13) ∧ Int32.toInt (q_3.1 32 13) ≤ 6 := rg_32_13 a_6
          have f_71 : 0 ≤ Int32.toInt (q.1 32 13) ∧ Int32.toInt (q.1 32 13) ≤ 6 := rg_32_13 hT
          have w_72 : Int32.toInt (q_3.1 32 13) = Int32.toInt (q.1 32 13) := by rw [a_7.1 32 13 (by decide) (by decide)]
          have w_73 : Int32.toInt (q_17.1 32 13) = Int32.toInt (q_3.1 32 13) := by rw [a_21.1 32 13 (by decide) (by decide)]
          refine dOk_le (A := Int32.toInt (q_17.1 32 13)) (B := 0) rfl (by decide) (fun c_74 => ?_) (fun c_75 => ?_)
          · unfold zX3_lay_s32_s2_s20_137
            refine dOk_G (dg_ok (show 0 ≤ (0 : Int) by omega) (show (0 : Int) < ((6 : Nat) : Int) by omega)) ?_
            have n_76 : ((Int32.toNatClampNeg 0 : Nat) : Int) = (0 : Int) := cl_eq (by omega)
            refine dOk_L (fun q_77 eq_77 => ?_)
            have hTq_77 : TC q_77 := by rw [eq_77]; exact sa_34 a_20
            have hFq_77 : cFr [19, 21, 33, 34, 35] [(18, 1), (32, 15)] q q_77 := by rw [eq_77]; exact hFq_17.i (by decide)
            have f_78 : 0 ≤ Int32.toInt (q_77.1 32 13) ∧ Int32.toInt (q_77.1 32 13) ≤ 6 := rg_32_13 hTq_77
            try have w_79 : Int32.toInt (q_77.1 32 13) = Int32.toInt (q_17.1 32 13) := by rw [eq_77, cui_o (by decide)]
            refine dOk_le (A := Int32.toInt (q_77.1 32 13)) (B := 0) rfl (by decide) (fun c_80 => ?_) (fun c_81 => ?_)
            · unfold zX3_lay_s32_s2_s20_163
              try have t_82 := ti_or (x := 0) (y := 0) 6 (by decide) (by omega) (by omega) (by omega) (by omega)
              try have t_83 : Int32.toInt (0 + 1) = 0 + 1 := ti_add (by decide) (by decide) (by omega) (by omega)
              exact hk_15 (q_77, (0 ||| 0), (0 + 1)) (show (TC q_77) ∧ (cFr [34] [] q_3 q_77) ∧ ((0 ||| 0) = 0) ∧ ((0 + 1) = 0) ∧ (0 ≤ Int32.toInt (0 ||| 0) ∧ Int32.toInt (0 ||| 0) ≤ 63) ∧ (0 ≤ Int32.toInt (0 + 1)) ∧ (Int32.toInt (0 + 1) ≤ 6) from ⟨hTq_77, (by rw [eq_77]; exact (((cFr.rf : cFr [34] [] q_3 q_3).t a_21 (by decide) (by decide)) : cFr [34] [] q_3 q_17).i (by decide)), rfl, rfl, by omega, by omega, by omega⟩) (show (6 - Int32.toInt (0 + 1)).toNat < (6 - (0 : Int)).toNat by omega)
            · refine dOk_G (dg_ok (show 0 ≤ (0 : Int) by omega) (show (0 : Int) < ((6 : Nat) : Int) by omega)) ?_
              refine dOk_L (fun v_84 ev_84 => ?_)
              have f_85 : 0 ≤ Int32.toInt v_84 ∧ Int32.toInt v_84 ≤ 1 := by rw [ev_84]; exact rg_4 hTq_77 _
              unfold zX3_lay_s32_s2_s20_163
              try have t_86 := ti_shl5 (x := v_84) (s := 0) (by omega) (by omega) (by omega) (by omega)
              try have t_87 := ti_shl6 (x := v_84) (s := 0) (by omega) (by omega) (by omega) (by omega)
              try have t_88 := ti_or (x := 0) (y := v_84 <<< ((0 : Int32) &&& 31)) 6 (by decide) (by omega) (by omega) (by omega) (by omega)
              try have t_89 : Int32.toInt (0 + 1) = 0 + 1 := ti_add (by decide) (by decide) (by omega) (by omega)
              exact hk_15 (q_77, (0 ||| v_84 <<< ((0 : Int32) &&& 31)), (0 + 1)) (show (TC q_77) ∧ (cFr [34] [] q_3 q_77) ∧ ((0 ||| v_84 <<< ((0 : Int32) &&& 31)) = 0) ∧ ((0 + 1) = 0) ∧ (0 ≤ Int32.toInt (0 ||| v_84 <<< ((0 : Int32) &&& 31)) ∧ Int32.toInt (0 ||| v_84 <<< ((0 : Int32) &&& 31)) ≤ 63) ∧ (0 ≤ Int32.toInt (0 + 1)) ∧ (Int32.toInt (0 + 1) ≤ 6) from ⟨hTq_77, (by rw [eq_77]; exact (((cFr.rf : cFr [34] [] q_3 q_3).t a_21 (by decide) (by decide)) : cFr [34] [] q_3 q_17).i (by decide)), rfl, rfl, by omega, by omega, by omega⟩) (show (6 - Int32.toInt (0 + 1)).toNat < (6 - (0 : Int)).toNat by omega)
          · refine dOk_G (dg_ok (show 0 ≤ (0 : Int) by omega) (show (0 : Int) < ((6 : Nat) : Int) by omega)) ?_
            have n_90 : ((Int32.toNatClampNeg 0 : Nat) : Int) = (0 : Int) := cl_eq (by omega)
            refine dOk_L (fun v_91 ev_91 => ?_)
            have f_92 : 0 ≤ Int32.toInt v_91 ∧ Int32.toInt v_91 ≤ 7 := by rw [ev_91]; exact rg_3 a_20 _
            refine dOk_B (ok_X3_indexOfRank_s32 q_17 v_91 a_20) (fun r_93 q_94 h_95 => ?_)
            replace h_95 : (q_94 = q_17) ∧ (-1 ≤ Int32.toInt r_93 ∧ Int32.toInt r_93 ≤ 5) := h_95
            obtain ⟨i_96, i_97⟩ := h_95
            subst q_94
            unfold zX3_lay_s32_s2_s20_137
            refine dOk_G (dg_ok (show 0 ≤ (0 : Int) by omega) (show (0 : Int) < ((6 : Nat) : Int) by omega)) ?_
            refine dOk_L (fun q_98 eq_98 => ?_)
            have hTq_98 : TC q_98 := by rw [eq_98]; exact sa_34 a_20
            have hFq_98 : cFr [19, 21, 33, 34, 35] [(18, 1), (32, 15)] q q_98 := by rw [eq_98]; exact hFq_17.i (by decide)
            have f_99 : 0 ≤ Int32.toInt (q_98.1 32 13) ∧ Int32.toInt (q_98.1 32 13) ≤ 6 := rg_32_13 hTq_98
            try have w_100 : Int32.toInt (q_98.1 32 13) = Int32.toInt (q_17.1 32 13) := by rw [eq_98, cui_o (by decide)]
            refine dOk_le (A := Int32.toInt (q_98.1 32 13)) (B := 0) rfl (by decide) (fun c_101 => ?_) (fun c_102 => ?_)
            · unfold zX3_lay_s32_s2_s20_163
              try have t_103 := ti_or (x := 0) (y := 0) 6 (by decide) (by omega) (by omega) (by omega) (by omega)
              try have t_104 : Int32.toInt (0 + 1) = 0 + 1 := ti_add (by decide) (by decide) (by omega) (by omega)
              exact hk_15 (q_98, (0 ||| 0), (0 + 1)) (show (TC q_98) ∧ (cFr [34] [] q_3 q_98) ∧ ((0 ||| 0) = 0) ∧ ((0 + 1) = 0) ∧ (0 ≤ Int32.toInt (0 ||| 0) ∧ Int32.toInt (0 ||| 0) ≤ 63) ∧ (0 ≤ Int32.toInt (0 + 1)) ∧ (Int32.toInt (0 + 1) ≤ 6) from ⟨hTq_98, (by rw [eq_98]; exact (((cFr.rf : cFr [34] [] q_3 q_3).t a_21 (by decide) (by decide)) : cFr [34] [] q_3 q_17).i (by decide)), rfl, rfl, by omega, by omega, by omega⟩) (show (6 - Int32.toInt (0 + 1)).toNat < (6 - (0 : Int)).toNat by omega)
            · refine dOk_G (dg_ok (show 0 ≤ (0 : Int) by omega) (show (0 : Int) < ((6 : Nat) : Int) by omega)) ?_
              refine dOk_L (fun v_105 ev_105 => ?_)
              have f_106 : 0 ≤ Int32.toInt v_105 ∧ Int32.toInt v_105 ≤ 1 := by rw [ev_105]; exact rg_4 hTq_98 _
              unfold zX3_lay_s32_s2_s20_163
              try have t_107 := ti_shl5 (x := v_105) (s := 0) (by omega) (by omega) (by omega) (by omega)
              try have t_108 := ti_shl6 (x := v_105) (s := 0) (by omega) (by omega) (by omega) (by omega)
              try have t_109 := ti_or (x := 0) (y := v_105 <<< ((0 : Int32) &&& 31)) 6 (by decide) (by omega) (by omega) (by omega) (by omega)
              try have t_110 : Int32.toInt (0 + 1) = 0 + 1 := ti_add (by decide) (by decide) (by omega) (by omega)
              exact hk_15 (q_98, (0 ||| v_105 <<< ((0 : Int32) &&& 31)), (0 + 1)) (show (TC q_98) ∧ (cFr [34] [] q_3 q_98) ∧ ((0 ||| v_105 <<< ((0 : Int32) &&& 31)) = 0) ∧ ((0 + 1) = 0) ∧ (0 ≤ Int32.toInt (0 ||| v_105 <<< ((0 : Int32) &&& 31)) ∧ Int32.toInt (0 ||| v_105 <<< ((0 : Int32) &&& 31)) ≤ 63) ∧ (0 ≤ Int32.toInt (0 + 1)) ∧ (Int32.toInt (0 + 1) ≤ 6) from ⟨hTq_98, (by rw [eq_98]; exact (((cFr.rf : cFr [34] [] q_3 q_3).t a_21 (by decide) (by decide)) : cFr [34] [] q_3 q_17).i (by decide)), rfl, rfl, by omega, by omega, by omega⟩) (show (6 - Int32.toInt (0 + 1)).toNat < (6 - (0 : Int)).toNat by omega)
      · exact (show (TC q_3) ∧ (cFr [34] [] q_3 q_3) ∧ (0 = 0) ∧ (0 = 0) ∧ (0 ≤ (0 : Int) ∧ (0 : Int) ≤ 63) ∧ (0 ≤ (0 : Int)) ∧ ((0 : Int) ≤ 6) from ⟨a_6, cFr.rf, rfl, rfl, by omega, by omega, by omega⟩)
      · show (6 - (0 : Int)).toNat < 1000000000000
        omega
    · refine dOk_B (ok_X8_has_s2 q_3 0 a_6) (fun r_111 q_112 h_113 => ?_)
      replace h_113 : (q_112 = q_3) ∧ ((Int32.toInt r_111 = 0 ∨ Int32.toInt r_111 = 1)) := h_113
      obtain ⟨i_114, i_115⟩ := h_113
      subst q_112
      refine dOk_eq (A := Int32.toInt r_111) (B := 0) rfl (by decide) (fun c_116z c_116 => ?_) (fun c_117z c_117 => ?_)
      · unfold zX3_lay_s32_s2_s20_87
        try have t_119 : Int32.toInt (0 + 1) = 0 + 1 := ti_add (by decide) (by decide) (by omega) (by omega)
        exact hk_1 (q_3, x4_4, (0 + 1)) (show (TC q_3) ∧ (cFr [33] [] q q_3) ∧ ((0 + 1) = 0) ∧ (0 ≤ Int32.toInt x4_4) ∧ (Int32.toInt x4_4 ≤ 6) ∧ (0 ≤ Int32.toInt (0 + 1)) ∧ (Int32.toInt (0 + 1) ≤ 6) from ⟨a_6, ((cFr.rf : cFr [33] [] q q).t a_7 (by decide) (by decide)), rfl, by omega, by omega, by omega, by omega⟩) (show (6 - Int32.toInt (0 + 1)).toNat < (6 - (0 : Int)).toNat by omega)
      · refine dOk_le (A := 6) (B := Int32.toInt x4_4) (by decide) rfl (fun c_120 => ?_) (fun c_121 => ?_)
        · unfold zX3_lay_s32_s2_s20_87
          try have t_122 : Int32.toInt (0 + 1) = 0 + 1 := ti_add (by decide) (by decide) (by omega) (by omega)
          exact hk_1 (q_3, x4_4, (0 + 1)) (show (TC q_3) ∧ (cFr [33] [] q q_3) ∧ ((0 + 1) = 0) ∧ (0 ≤ Int32.toInt x4_4) ∧ (Int32.toInt x4_4 ≤ 6) ∧ (0 ≤ Int32.toInt (0 + 1)) ∧ (Int32.toInt (0 + 1) ≤ 6) from ⟨a_6, ((cFr.rf : cFr [33] [] q q).t a_7 (by decide) (by decide)), rfl, by omega, by omega, by omega, by omega⟩) (show (6 - Int32.toInt (0 + 1)).toNat < (6 - (0 : Int)).toNat by omega)
        · refine dOk_G (dg_ok (show 0 ≤ Int32.toInt x4_4 by omega) (show Int32.toInt x4_4 < ((6 : Nat) : Int) by omega)) ?_
          have n_123 : ((Int32.toNatClampNeg x4_4 : Nat) : Int) = Int32.toInt x4_4 := cl_eq (by omega)
          refine dOk_L (fun q_124 eq_124 => ?_)
          have hTq_124 : TC q_124 := by rw [eq_124]; exact sa_33 a_6
          have hFq_124 : cFr [19, 21, 33, 34, 35] [(18, 1), (32, 15)] q q_124 := by rw [eq_124]; exact hFq_3.i (by decide)
          unfold zX3_lay_s32_s2_s20_87
          try have t_125 : Int32.toInt (x4_4 + 1) = Int32.toInt x4_4 + 1 := ti_add rfl (by decide) (by omega) (by omega)
          try have t_126 : Int32.toInt (0 + 1) = 0 + 1 := ti_add (by decide) (by decide) (by omega) (by omega)
          exact hk_1 (q_124, (x4_4 + 1), (0 + 1)) (show (TC q_124) ∧ (cFr [33] [] q q_124) ∧ ((0 + 1) = 0) ∧ (0 ≤ Int32.toInt (x4_4 + 1)) ∧ (Int32.toInt (x4_4 + 1) ≤ 6) ∧ (0 ≤ Int32.toInt (0 + 1)) ∧ (Int32.toInt (0 + 1) ≤ 6) from ⟨hTq_124, (by rw [eq_124]; exact (((cFr.rf : cFr [33] [] q q).t a_7 (by decide) (by decide)) : cFr [33] [] q q_3).i (by decide)), rfl, by omega, by omega, by omega, by omega⟩) (show (6 - Int32.toInt (0 + 1)).toNat < (6 - (0 : Int)).toNat by omega)
  · exact (show (TC q) ∧ (cFr [33] [] q q) ∧ (0 = 0) ∧ (0 ≤ (0 : Int)) ∧ ((0 : Int) ≤ 6) ∧ (0 ≤ (0 : Int)) ∧ ((0 : Int) ≤ 6) from ⟨hT, cFr.rf, rfl, by omega, by omega, by omega, by omega⟩)
  · show (6 - (0 : Int)).toNat < 1000000000000
    omega
