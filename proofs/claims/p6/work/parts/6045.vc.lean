set_option maxHeartbeats 4000000 in
set_option maxRecDepth 100000 in
theorem ok_X3_lay_s32_s2_s20_46 (nc : Nat) (ns : Nat) (q : dK) (hT : TC q) (hp0 : LD q) : dOk (zX3_lay_s32_s2_s20_46 nc ns q) (fun (o : dK) => (TC o) ∧ (cFr [19, 21, 33, 34, 35] [(18, 1), (32, 15)] q o) ∧ (0 ≤ Int32.toInt (o.1 32 15)) ∧ (Int32.toInt (o.1 32 15) < Int32.toInt (o.1 32 14))) := by
  unfold zX3_lay_s32_s2_s20_46
  have hLs := ld_sz hp0
  unfold zX3_lay_s32_s2_s20_52
  refine dFix_ok (fun (a : dK × Int32 × Int32) => (TC a.1) ∧ (cFr [33] [] q a.1) ∧ (0 ≤ Int32.toInt a.2.1) ∧ (Int32.toInt a.2.1 ≤ 6) ∧ (0 ≤ Int32.toInt a.2.2) ∧ (Int32.toInt a.2.2 ≤ 6)) (fun (a : dK × Int32 × Int32) => (6 - Int32.toInt a.2.2).toNat) ?_ _ ?_ _ (dF_gt ?_)
  · intro a ha k_2 hk_1
    obtain ⟨q_3, x4_4, x5_5⟩ := a
    replace ha : (TC q_3) ∧ (cFr [33] [] q q_3) ∧ (0 ≤ Int32.toInt x4_4) ∧ (Int32.toInt x4_4 ≤ 6) ∧ (0 ≤ Int32.toInt x5_5) ∧ (Int32.toInt x5_5 ≤ 6) := ha
    obtain ⟨a_6, a_7, a_8, a_9, a_10, a_11⟩ := ha
    show dOk (zX3_lay_s32_s2_s20_52b nc ns (fun q x4 x5 => k_2 (q, x4, x5)) q_3 x4_4 x5_5) _
    unfold zX3_lay_s32_s2_s20_52b
    have hFq_3 : cFr [19, 21, 33, 34, 35] [(18, 1), (32, 15)] q q_3 := (cFr.rf (q := q)).t a_7 (by decide) (by decide)
    refine dOk_le (A := 6) (B := Int32.toInt x5_5) (by decide) rfl (fun c_12 => ?_) (fun c_13 => ?_)
    · unfold zX3_lay_s32_s2_s20_99
      refine dFix_ok (fun (a : dK × Int32 × Int32) => (TC a.1) ∧ (cFr [34] [] q_3 a.1) ∧ (0 ≤ Int32.toInt a.2.1 ∧ Int32.toInt a.2.1 ≤ 63) ∧ (0 ≤ Int32.toInt a.2.2) ∧ (Int32.toInt a.2.2 ≤ 6)) (fun (a : dK × Int32 × Int32) => (6 - Int32.toInt a.2.2).toNat) ?_ _ ?_ _ (dF_gt ?_)
      · intro a ha k_15 hk_14
        obtain ⟨q_16, x5_17, x6_18⟩ := a
        replace ha : (TC q_16) ∧ (cFr [34] [] q_3 q_16) ∧ (0 ≤ Int32.toInt x5_17 ∧ Int32.toInt x5_17 ≤ 63) ∧ (0 ≤ Int32.toInt x6_18) ∧ (Int32.toInt x6_18 ≤ 6) := ha
        obtain ⟨a_19, a_20, a_21, a_22, a_23⟩ := ha
        show dOk (zX3_lay_s32_s2_s20_99b nc ns (fun q x5 x6 => k_15 (q, x5, x6)) q_16 x5_17 x6_18) _
        unfold zX3_lay_s32_s2_s20_99b
        have hFq_16 : cFr [19, 21, 33, 34, 35] [(18, 1), (32, 15)] q q_16 := hFq_3.t a_20 (by decide) (by decide)
        refine dOk_le (A := 6) (B := Int32.toInt x6_18) (by decide) rfl (fun c_24 => ?_) (fun c_25 => ?_)
        · refine dOk_B (ok_X3_numberOfOrder_s32 q_16 a_19) (fun r_26 q_27 h_28 => ?_)
          replace h_28 : (q_27 = q_16) ∧ (0 ≤ Int32.toInt r_26 ∧ Int32.toInt r_26 ≤ 719) := h_28
          obtain ⟨i_29, i_30⟩ := h_28
          subst q_27
          refine dOk_L (fun q_31 eq_31 => ?_)
          have f_32 : 0 ≤ Int32.toInt (q_16.1 32 14) ∧ Int32.toInt (q_16.1 32 14) ≤ 46080 := rg_32_14 a_19
          have f_33 : 0 ≤ Int32.toInt (q_3.1 32 14) ∧ Int32.toInt (q_3.1 32 14) ≤ 46080 := rg_32_14 a_6
          have f_34 : 0 ≤ Int32.toInt (q.1 32 14) ∧ Int32.toInt (q.1 32 14) ≤ 46080 := rg_32_14 hT
          have w_35 : Int32.toInt (q_3.1 32 14) = Int32.toInt (q.1 32 14) := by rw [a_7.1 32 14 (by decide) (by decide)]
          have w_36 : Int32.toInt (q_16.1 32 14) = Int32.toInt (q_3.1 32 14) := by rw [a_20.1 32 14 (by decide) (by decide)]
          try have t_37 : Int32.toInt (q_16.1 32 14 - 1) = Int32.toInt (q_16.1 32 14) - 1 := ti_sub rfl (by decide) (by omega) (by omega)
          have f_38 : 0 ≤ Int32.toInt (q_16.1 32 13) ∧ Int32.toInt (q_16.1 32 13) ≤ 6 := rg_32_13 a_19
          have f_39 : 0 ≤ Int32.toInt (q_3.1 32 13) ∧ Int32.toInt (q_3.1 32 13) ≤ 6 := rg_32_13 a_6
          have f_40 : 0 ≤ Int32.toInt (q.1 32 13) ∧ Int32.toInt (q.1 32 13) ≤ 6 := rg_32_13 hT
          have w_41 : Int32.toInt (q_3.1 32 13) = Int32.toInt (q.1 32 13) := by rw [a_7.1 32 13 (by decide) (by decide)]
          have w_42 : Int32.toInt (q_16.1 32 13) = Int32.toInt (q_3.1 32 13) := by rw [a_20.1 32 13 (by decide) (by decide)]
          try have t_43 := ti_shl5 (x := r_26) (s := q_16.1 32 13) (by omega) (by omega) (by omega) (by omega)
          try have t_44 := ti_shl6 (x := r_26) (s := q_16.1 32 13) (by omega) (by omega) (by omega) (by omega)
          try have t_45 := ld_w (s := q_16.1 32 13) (v := r_26) (w := x5_17) (by omega) (by omega) (by omega) (by omega) (by omega) (by omega)
          have t_46 : Int32.toInt (mnI (q_16.1 32 14 - 1) (r_26 <<< ((q_16.1 32 13 : Int32) &&& 31) ||| x5_17)) ≤ Int32.toInt (q_16.1 32 14 - 1) ∧ Int32.toInt (mnI (q_16.1 32 14 - 1) (r_26 <<< ((q_16.1 32 13 : Int32) &&& 31) ||| x5_17)) ≤ Int32.toInt (r_26 <<< ((q_16.1 32 13 : Int32) &&& 31) ||| x5_17) ∧ (Int32.toInt (mnI (q_16.1 32 14 - 1) (r_26 <<< ((q_16.1 32 13 : Int32) &&& 31) ||| x5_17)) = Int32.toInt (q_16.1 32 14 - 1) ∨ Int32.toInt (mnI (q_16.1 32 14 - 1) (r_26 <<< ((q_16.1 32 13 : Int32) &&& 31) ||| x5_17)) = Int32.toInt (r_26 <<< ((q_16.1 32 13 : Int32) &&& 31) ||| x5_17)) := mn_le
          have hTq_31 : TC q_31 := by rw [eq_31]; exact st_32_15 a_19 (show (0 : Int) ≤ Int32.toInt (mnI (q_16.1 32 14 - 1) (r_26 <<< ((q_16.1 32 13 : Int32) &&& 31) ||| x5_17)) by omega) (show Int32.toInt (mnI (q_16.1 32 14 - 1) (r_26 <<< ((q_16.1 32 13 : Int32) &&& 31) ||| x5_17)) ≤ (46079 : Int) by omega)
          have hFq_31 : cFr [19, 21, 33, 34, 35] [(18, 1), (32, 15)] q q_31 := by rw [eq_31]; exact hFq_16.f (by decide)
          have f_47 : 0 ≤ Int32.toInt (q_31.1 2 4) ∧ Int32.toInt (q_31.1 2 4) ≤ 1023 := rg_2_4 hTq_31
          have f_48 : 0 ≤ Int32.toInt (q_16.1 2 4) ∧ Int32.toInt (q_16.1 2 4) ≤ 1023 := rg_2_4 a_19
          have f_49 : 0 ≤ Int32.toInt (q_3.1 2 4) ∧ Int32.toInt (q_3.1 2 4) ≤ 1023 := rg_2_4 a_6
          have f_50 : 0 ≤ Int32.toInt (q.1 2 4) ∧ Int32.toInt (q.1 2 4) ≤ 1023 := rg_2_4 hT
          have w_51 : Int32.toInt (q_3.1 2 4) = Int32.toInt (q.1 2 4) := by rw [a_7.1 2 4 (by decide) (by decide)]
          have w_52 : Int32.toInt (q_16.1 2 4) = Int32.toInt (q_3.1 2 4) := by rw [a_20.1 2 4 (by decide) (by decide)]
          have w_53 : Int32.toInt (q_31.1 2 4) = Int32.toInt (q_16.1 2 4) := by rw [eq_31, cui_o (by decide)]
          refine dOk_V (ok_X3_askCases_s32_s20_c1 q_31 (q_31.1 2 4) hTq_31) (fun q_54 h_55 => ?_)
          replace h_55 : (TC q_54) ∧ (cFr [19, 21, 35] [(18, 1)] q_31 q_54) := h_55
          obtain ⟨i_56, i_57⟩ := h_55
          have hFq_54 : cFr [19, 21, 33, 34, 35] [(18, 1), (32, 15)] q q_54 := hFq_31.t i_57 (by decide) (by decide)
          have f_58 : 0 ≤ Int32.toInt (q_54.1 32 15) ∧ Int32.toInt (q_54.1 32 15) ≤ 46079 := rg_32_15 i_56
          have f_59 : 0 ≤ Int32.toInt (q_31.1 32 15) ∧ Int32.toInt (q_31.1 32 15) ≤ 46079 := rg_32_15 hTq_31
          have w_60 : Int32.toInt (q_31.1 32 15) = Int32.toInt (mnI (q_16.1 32 14 - 1) (r_26 <<< ((q_16.1 32 13 : Int32) &&& 31) ||| x5_17)) := by rw [eq_31, cui_e]
          have w_61 : Int32.toInt (q_54.1 32 15) = Int32.toInt (q_31.1 32 15) := by rw [i_57.1 32 15 (by decide) (by decide)]
          have f_62 : 0 ≤ Int32.toInt (q_54.1 32 14) ∧ Int32.toInt (q_54.1 32 14) ≤ 46080 := rg_32_14 i_56
          have f_63 : 0 ≤ Int32.toInt (q_31.1 32 14) ∧ Int32.toInt (q_31.1 32 14) ≤ 46080 := rg_32_14 hTq_31
          have w_64 : Int32.toInt (q_31.1 32 14) = Int32.toInt (q_16.1 32 14) := by rw [eq_31, cui_n (by decide)]
          have w_65 : Int32.toInt (q_54.1 32 14) = Int32.toInt (q_31.1 32 14) := by rw [i_57.1 32 14 (by decide) (by decide)]
          exact dOk_some (show (TC q_54) ∧ (cFr [19, 21, 33, 34, 35] [(18, 1), (32, 15)] q q_54) ∧ (0 ≤ Int32.toInt (q_54.1 32 15)) ∧ (Int32.toInt (q_54.1 32 15) < Int32.toInt (q_54.1 32 14)) from ⟨i_56, hFq_54, by omega, by omega⟩)
        · have f_66 : 0 ≤ Int32.toInt (q_16.1 32 13) ∧ Int32.toInt (q_16.1 32 13) ≤ 6 := rg_32_13 a_19
          have f_67 : 0 ≤ Int32.toInt (q_3.1 32 13) ∧ Int32.toInt (q_3.1 32 13) ≤ 6 := rg_32_13 a_6
          have f_68 : 0 ≤ Int32.toInt (q.1 32 13) ∧ Int32.toInt (q.1 32 13) ≤ 6 := rg_32_13 hT
          have w_69 : Int32.toInt (q_3.1 32 13) = Int32.toInt (q.1 32 13) := by rw [a_7.1 32 13 (by decide) (by decide)]
          have w_70 : Int32.toInt (q_16.1 32 13) = Int32.toInt (q_3.1 32 13) := by rw [a_20.1 32 13 (by decide) (by decide)]
          refine dOk_le (A := Int32.toInt (q_16.1 32 13)) (B := Int32.toInt x6_18) rfl rfl (fun c_71 => ?_) (fun c_72 => ?_)
          · unfold zX3_lay_s32_s2_s20_137
            refine dOk_G (dg_ok (show 0 ≤ Int32.toInt x6_18 by omega) (show Int32.toInt x6_18 < ((6 : Nat) : Int) by omega)) ?_
            have n_73 : ((Int32.toNatClampNeg x6_18 : Nat) : Int) = Int32.toInt x6_18 := cl_eq (by omega)
            refine dOk_L (fun q_74 eq_74 => ?_)
            have hTq_74 : TC q_74 := by rw [eq_74]; exact sa_34 a_19
            have hFq_74 : cFr [19, 21, 33, 34, 35] [(18, 1), (32, 15)] q q_74 := by rw [eq_74]; exact hFq_16.i (by decide)
            have f_75 : 0 ≤ Int32.toInt (q_74.1 32 13) ∧ Int32.toInt (q_74.1 32 13) ≤ 6 := rg_32_13 hTq_74
            try have w_76 : Int32.toInt (q_74.1 32 13) = Int32.toInt (q_16.1 32 13) := by rw [eq_74, cui_o (by decide)]
            refine dOk_le (A := Int32.toInt (q_74.1 32 13)) (B := Int32.toInt x6_18) rfl rfl (fun c_77 => ?_) (fun c_78 => ?_)
            · unfold zX3_lay_s32_s2_s20_163
              have t_79 : Int32.toInt (x5_17 ||| 0) = Int32.toInt x5_17 := ti_or0 _
              try have t_80 : Int32.toInt (x6_18 + 1) = Int32.toInt x6_18 + 1 := ti_add rfl (by decide) (by omega) (by omega)
              exact hk_14 (q_74, (x5_17 ||| 0), (x6_18 + 1)) (show (TC q_74) ∧ (cFr [34] [] q_3 q_74) ∧ (0 ≤ Int32.toInt (x5_17 ||| 0) ∧ Int32.toInt (x5_17 ||| 0) ≤ 63) ∧ (0 ≤ Int32.toInt (x6_18 + 1)) ∧ (Int32.toInt (x6_18 + 1) ≤ 6) from ⟨hTq_74, (by rw [eq_74]; exact (((cFr.rf : cFr [34] [] q_3 q_3).t a_20 (by decide) (by decide)) : cFr [34] [] q_3 q_16).i (by decide)), by omega, by omega, by omega⟩) (show (6 - Int32.toInt (x6_18 + 1)).toNat < (6 - Int32.toInt x6_18).toNat by omega)
            · refine dOk_G (dg_ok (show 0 ≤ Int32.toInt x6_18 by omega) (show Int32.toInt x6_18 < ((6 : Nat) : Int) by omega)) ?_
              refine dOk_L (fun v_81 ev_81 => ?_)
              have f_82 : 0 ≤ Int32.toInt v_81 ∧ Int32.toInt v_81 ≤ 1 := by rw [ev_81]; exact rg_4 hTq_74 _
              unfold zX3_lay_s32_s2_s20_163
              try have t_83 := ti_shl5 (x := v_81) (s := x6_18) (by omega) (by omega) (by omega) (by omega)
              try have t_84 := ti_shl6 (x := v_81) (s := x6_18) (by omega) (by omega) (by omega) (by omega)
              try have t_85 := ti_or (x := x5_17) (y := v_81 <<< ((x6_18 : Int32) &&& 31)) 6 (by decide) (by omega) (by omega) (by omega) (by omega)
              try have t_86 : Int32.toInt (x6_18 + 1) = Int32.toInt x6_18 + 1 := ti_add rfl (by decide) (by omega) (by omega)
              exact hk_14 (q_74, (x5_17 ||| v_81 <<< ((x6_18 : Int32) &&& 31)), (x6_18 + 1)) (show (TC q_74) ∧ (cFr [34] [] q_3 q_74) ∧ (0 ≤ Int32.toInt (x5_17 ||| v_81 <<< ((x6_18 : Int32) &&& 31)) ∧ Int32.toInt (x5_17 ||| v_81 <<< ((x6_18 : Int32) &&& 31)) ≤ 63) ∧ (0 ≤ Int32.toInt (x6_18 + 1)) ∧ (Int32.toInt (x6_18 + 1) ≤ 6) from ⟨hTq_74, (by rw [eq_74]; exact (((cFr.rf : cFr [34] [] q_3 q_3).t a_20 (by decide) (by decide)) : cFr [34] [] q_3 q_16).i (by decide)), by omega, by omega, by omega⟩) (show (6 - Int32.toInt (x6_18 + 1)).toNat < (6 - Int32.toInt x6_18).toNat by omega)
          · refine dOk_G (dg_ok (show 0 ≤ Int32.toInt x6_18 by omega) (show Int32.toInt x6_18 < ((6 : Nat) : Int) by omega)) ?_
            have n_87 : ((Int32.toNatClampNeg x6_18 : Nat) : Int) = Int32.toInt x6_18 := cl_eq (by omega)
            refine dOk_L (fun v_88 ev_88 => ?_)
            have f_89 : 0 ≤ Int32.toInt v_88 ∧ Int32.toInt v_88 ≤ 7 := by rw [ev_88]; exact rg_3 a_19 _
            refine dOk_B (ok_X3_indexOfRank_s32 q_16 v_88 a_19) (fun r_90 q_91 h_92 => ?_)
            replace h_92 : (q_91 = q_16) ∧ (-1 ≤ Int32.toInt r_90 ∧ Int32.toInt r_90 ≤ 5) := h_92
            obtain ⟨i_93, i_94⟩ := h_92
            subst q_91
            unfold zX3_lay_s32_s2_s20_137
            refine dOk_G (dg_ok (show 0 ≤ Int32.toInt x6_18 by omega) (show Int32.toInt x6_18 < ((6 : Nat) : Int) by omega)) ?_
            refine dOk_L (fun q_95 eq_95 => ?_)
            have hTq_95 : TC q_95 := by rw [eq_95]; exact sa_34 a_19
            have hFq_95 : cFr [19, 21, 33, 34, 35] [(18, 1), (32, 15)] q q_95 := by rw [eq_95]; exact hFq_16.i (by decide)
            have f_96 : 0 ≤ Int32.toInt (q_95.1 32 13) ∧ Int32.toInt (q_95.1 32 13) ≤ 6 := rg_32_13 hTq_95
            try have w_97 : Int32.toInt (q_95.1 32 13) = Int32.toInt (q_16.1 32 13) := by rw [eq_95, cui_o (by decide)]
            refine dOk_le (A := Int32.toInt (q_95.1 32 13)) (B := Int32.toInt x6_18) rfl rfl (fun c_98 => ?_) (fun c_99 => ?_)
            · unfold zX3_lay_s32_s2_s20_163
              have t_100 : Int32.toInt (x5_17 ||| 0) = Int32.toInt x5_17 := ti_or0 _
              try have t_101 : Int32.toInt (x6_18 + 1) = Int32.toInt x6_18 + 1 := ti_add rfl (by decide) (by omega) (by omega)
              exact hk_14 (q_95, (x5_17 ||| 0), (x6_18 + 1)) (show (TC q_95) ∧ (cFr [34] [] q_3 q_95) ∧ (0 ≤ Int32.toInt (x5_17 ||| 0) ∧ Int32.toInt (x5_17 ||| 0) ≤ 63) ∧ (0 ≤ Int32.toInt (x6_18 + 1)) ∧ (Int32.toInt (x6_18 + 1) ≤ 6) from ⟨hTq_95, (by rw [eq_95]; exact (((cFr.rf : cFr [34] [] q_3 q_3).t a_20 (by decide) (by decide)) : cFr [34] [] q_3 q_16).i (by decide)), by omega, by omega, by omega⟩) (show (6 - Int32.toInt (x6_18 + 1)).toNat < (6 - Int32.toInt x6_18).toNat by omega)
            · refine dOk_G (dg_ok (show 0 ≤ Int32.toInt x6_18 by omega) (show Int32.toInt x6_18 < ((6 : Nat) : Int) by omega)) ?_
              refine dOk_L (fun v_102 ev_102 => ?_)
              have f_103 : 0 ≤ Int32.toInt v_102 ∧ Int32.toInt v_102 ≤ 1 := by rw [ev_102]; exact rg_4 hTq_95 _
              unfold zX3_lay_s32_s2_s20_163
              try have t_104 := ti_shl5 (x := v_102) (s := x6_18) (by omega) (by omega) (by omega) (by omega)
              try have t_105 := ti_shl6 (x := v_102) (s := x6_18) (by omega) (by omega) (by omega) (by omega)
              try have t_106 := ti_or (x := x5_17) (y := v_102 <<< ((x6_18 : Int32) &&& 31)) 6 (by decide) (by omega) (by omega) (by omega) (by omega)
              try have t_107 : Int32.toInt (x6_18 + 1) = Int32.toInt x6_18 + 1 := ti_add rfl (by decide) (by omega) (by omega)
              exact hk_14 (q_95, (x5_17 ||| v_102 <<< ((x6_18 : Int32) &&& 31)), (x6_18 + 1)) (show (TC q_95) ∧ (cFr [34] [] q_3 q_95) ∧ (0 ≤ Int32.toInt (x5_17 ||| v_102 <<< ((x6_18 : Int32) &&& 31)) ∧ Int32.toInt (x5_17 ||| v_102 <<< ((x6_18 : Int32) &&& 31)) ≤ 63) ∧ (0 ≤ Int32.toInt (x6_18 + 1)) ∧ (Int32.toInt (x6_18 + 1) ≤ 6) from ⟨hTq_95, (by rw [eq_95]; exact (((cFr.rf : cFr [34] [] q_3 q_3).t a_20 (by decide) (by decide)) : cFr [34] [] q_3 q_16).i (by decide)), by omega, by omega, by omega⟩) (show (6 - Int32.toInt (x6_18 + 1)).toNat < (6 - Int32.toInt x6_18).toNat by omega)
      · exact (show (TC q_3) ∧ (cFr [34] [] q_3 q_3) ∧ (0 ≤ (0 : Int) ∧ (0 : Int) ≤ 63) ∧ (0 ≤ (0 : Int)) ∧ ((0 : Int) ≤ 6) from ⟨a_6, cFr.rf, by omega, by omega, by omega⟩)
      · show (6 - (0 : Int)).toNat < 1000000000000
        omega
    · refine dOk_B (ok_X8_has_s2 q_3 x5_5 a_6) (fun r_108 q_109 h_110 => ?_)
      replace h_110 : (q_109 = q_3) ∧ ((Int32.toInt r_108 = 0 ∨ Int32.toInt r_108 = 1)) := h_110
      obtain ⟨i_111, i_112⟩ := h_110
      subst q_109
      refine dOk_eq (A := Int32.toInt r_108) (B := 0) rfl (by decide) (fun c_113z c_113 => ?_) (fun c_114z c_114 => ?_)
      · unfold zX3_lay_s32_s2_s20_87
        try have t_116 : Int32.toInt (x5_5 + 1) = Int32.toInt x5_5 + 1 := ti_add rfl (by decide) (by omega) (by omega)
        exact hk_1 (q_3, x4_4, (x5_5 + 1)) (show (TC q_3) ∧ (cFr [33] [] q q_3) ∧ (0 ≤ Int32.toInt x4_4) ∧ (Int32.toInt x4_4 ≤ 6) ∧ (0 ≤ Int32.toInt (x5_5 + 1)) ∧ (Int32.toInt (x5_5 + 1) ≤ 6) from ⟨a_6, ((cFr.rf : cFr [33] [] q q).t a_7 (by decide) (by decide)), by omega, by omega, by omega, by omega⟩) (show (6 - Int32.toInt (x5_5 + 1)).toNat < (6 - Int32.toInt x5_5).toNat by omega)
      · refine dOk_le (A := 6) (B := Int32.toInt x4_4) (by decide) rfl (fun c_117 => ?_) (fun c_118 => ?_)
        · unfold zX3_lay_s32_s2_s20_87
          try have t_119 : Int32.toInt (x5_5 + 1) = Int32.toInt x5_5 + 1 := ti_add rfl (by decide) (by omega) (by omega)
          exact hk_1 (q_3, x4_4, (x5_5 + 1)) (show (TC q_3) ∧ (cFr [33] [] q q_3) ∧ (0 ≤ Int32.toInt x4_4) ∧ (Int32.toInt x4_4 ≤ 6) ∧ (0 ≤ Int32.toInt (x5_5 + 1)) ∧ (Int32.toInt (x5_5 + 1) ≤ 6) from ⟨a_6, ((cFr.rf : cFr [33] [] q q).t a_7 (by decide) (by decide)), by omega, by omega, by omega, by omega⟩) (show (6 - Int32.toInt (x5_5 + 1)).toNat < (6 - Int32.toInt x5_5).toNat by omega)
        · refine dOk_G (dg_ok (show 0 ≤ Int32.toInt x4_4 by omega) (show Int32.toInt x4_4 < ((6 : Nat) : Int) by omega)) ?_
          have n_120 : ((Int32.toNatClampNeg x4_4 : Nat) : Int) = Int32.toInt x4_4 := cl_eq (by omega)
          refine dOk_L (fun q_121 eq_121 => ?_)
          have hTq_121 : TC q_121 := by rw [eq_121]; exact sa_33 a_6
          have hFq_121 : cFr [19, 21, 33, 34, 35] [(18, 1), (32, 15)] q q_121 := by rw [eq_121]; exact hFq_3.i (by decide)
          unfold zX3_lay_s32_s2_s20_87
          try have t_122 : Int32.toInt (x4_4 + 1) = Int32.toInt x4_4 + 1 := ti_add rfl (by decide) (by omega) (by omega)
          try have t_123 : Int32.toInt (x5_5 + 1) = Int32.toInt x5_5 + 1 := ti_add rfl (by decide) (by omega) (by omega)
          exact hk_1 (q_121, (x4_4 + 1), (x5_5 + 1)) (show (TC q_121) ∧ (cFr [33] [] q q_121) ∧ (0 ≤ Int32.toInt (x4_4 + 1)) ∧ (Int32.toInt (x4_4 + 1) ≤ 6) ∧ (0 ≤ Int32.toInt (x5_5 + 1)) ∧ (Int32.toInt (x5_5 + 1) ≤ 6) from ⟨hTq_121, (by rw [eq_121]; exact (((cFr.rf : cFr [33] [] q q).t a_7 (by decide) (by decide)) : cFr [33] [] q q_3).i (by decide)), by omega, by omega, by omega, by omega⟩) (show (6 - Int32.toInt (x5_5 + 1)).toNat < (6 - Int32.toInt x5_5).toNat by omega)
  · exact (show (TC q) ∧ (cFr [33] [] q q) ∧ (0 ≤ (0 : Int)) ∧ ((0 : Int) ≤ 6) ∧ (0 ≤ (0 : Int)) ∧ ((0 : Int) ≤ 6) from ⟨hT, cFr.rf, by omega, by omega, by omega, by omega⟩)
  · show (6 - (0 : Int)).toNat < 1000000000000
    omega
