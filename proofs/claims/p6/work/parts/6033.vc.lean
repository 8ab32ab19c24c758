set_option maxHeartbeats 4000000 in
set_option maxRecDepth 100000 in
theorem ok_X5_run_s22_s25_s2_s20_s10 (q : dK) (hT : TC q) : dOk (zX5_run_s22_s25_s2_s20_s10 q) (fun (o : Int32 × dK) => (TC o.2) ∧ (cFr [3, 4, 12, 14, 19, 21, 23] [(2, 2), (2, 3), (2, 4), (10, 2), (10, 5), (18, 1), (22, 2), (22, 3)] q o.2)) := by
  unfold zX5_run_s22_s25_s2_s20_s10
  refine dOk_B (ok_X8_pack_s2 q hT) (fun r_1 q_2 h_3 => ?_)
  replace h_3 : (q_2 = q) ∧ (0 ≤ Int64.toInt r_1) := h_3
  obtain ⟨i_4, i_5⟩ := h_3
  subst q_2
  refine dOk_V (ok_X0_mark_s10 q hT) (fun q_6 h_7 => ?_)
  replace h_7 : (TC q_6) ∧ (cFr [14] [(10, 5)] q q_6) := h_7
  obtain ⟨i_8, i_9⟩ := h_7
  have hFq_6 : cFr [3, 4, 12, 14, 19, 21, 23] [(2, 2), (2, 3), (2, 4), (10, 2), (10, 5), (18, 1), (22, 2), (22, 3)] q q_6 := (cFr.rf (q := q)).t i_9 (by decide) (by decide)
  refine dOk_L (fun q_10 eq_10 => ?_)
  have hTq_10 : TC q_10 := by rw [eq_10]; exact sa_22_2 i_8
  have hFq_10 : cFr [3, 4, 12, 14, 19, 21, 23] [(2, 2), (2, 3), (2, 4), (10, 2), (10, 5), (18, 1), (22, 2), (22, 3)] q q_10 := by rw [eq_10]; exact hFq_6.f (by decide)
  refine dOk_L (fun q_11 eq_11 => ?_)
  have hTq_11 : TC q_11 := by rw [eq_11]; exact sa_22_3 hTq_10
  have hFq_11 : cFr [3, 4, 12, 14, 19, 21, 23] [(2, 2), (2, 3), (2, 4), (10, 2), (10, 5), (18, 1), (22, 2), (22, 3)] q q_11 := by rw [eq_11]; exact hFq_10.f (by decide)
  unfold zX5_run_s22_s25_s2_s20_s10_24
  refine dFix_ok (fun (a : dK × Int64 × Int32) => (TC a.1) ∧ (cFr [3, 4, 12, 19, 21, 23] [(2, 3), (2, 4), (10, 2), (18, 1), (22, 2), (22, 3)] q_11 a.1) ∧ (a.2.1 = (r_1)) ∧ (0 ≤ Int32.toInt a.2.2) ∧ (Int32.toInt a.2.2 ≤ 12)) (fun (a : dK × Int64 × Int32) => (12 - Int32.toInt a.2.2).toNat) ?_ _ ?_ _ (dF_gt ?_)
  · intro a ha k_13 hk_12
    obtain ⟨q_14, x5_15, x7_16⟩ := a
    replace ha : (TC q_14) ∧ (cFr [3, 4, 12, 19, 21, 23] [(2, 3), (2, 4), (10, 2), (18, 1), (22, 2), (22, 3)] q_11 q_14) ∧ (x5_15 = (r_1)) ∧ (0 ≤ Int32.toInt x7_16) ∧ (Int32.toInt x7_16 ≤ 12) := ha
    obtain ⟨a_17, a_18, a_19, a_20, a_21⟩ := ha
    show dOk (zX5_run_s22_s25_s2_s20_s10_24b  (fun q x5 x7 => k_13 (q, x5, x7)) q_14 x5_15 x7_16) _
    unfold zX5_run_s22_s25_s2_s20_s10_24b
    have hFq_14 : cFr [3, 4, 12, 14, 19, 21, 23] [(2, 2), (2, 3), (2, 4), (10, 2), (10, 5), (18, 1), (22, 2), (22, 3)] q q_14 := hFq_11.t a_18 (by decide) (by decide)
    subst x5_15
    have f_22 : 0 ≤ Int32.toInt (q_14.1 25 6) ∧ Int32.toInt (q_14.1 25 6) ≤ 12 := rg_25_6 a_17
    have f_23 : 0 ≤ Int32.toInt (q_11.1 25 6) ∧ Int32.toInt (q_11.1 25 6) ≤ 12 := rg_25_6 hTq_11
    have f_24 : 0 ≤ Int32.toInt (q_10.1 25 6) ∧ Int32.toInt (q_10.1 25 6) ≤ 12 := rg_25_6 hTq_10
    have f_25 : 0 ≤ Int32.toInt (q_6.1 25 6) ∧ Int32.toInt (q_6.1 25 6) ≤ 12 := rg_25_6 i_8
    have f_26 : 0 ≤ Int32.toInt (q.1 25 6) ∧ Int32.toInt (q.1 25 6) ≤ 12 := rg_25_6 hT
    have w_27 : Int32.toInt (q_6.1 25 6) = Int32.toInt (q.1 25 6) := by rw [i_9.1 25 6 (by decide) (by decide)]
    have w_28 : Int32.toInt (q_10.1 25 6) = Int32.toInt (q_6.1 25 6) := by rw [eq_10, cui_o (by decide)]
    have w_29 : Int32.toInt (q_11.1 25 6) = Int32.toInt (q_10.1 25 6) := by rw [eq_11, cui_o (by decide)]
    have w_30 : Int32.toInt (q_14.1 25 6) = Int32.toInt (q_11.1 25 6) := by rw [a_18.1 25 6 (by decide) (by decide)]
    refine dOk_le (A := Int32.toInt (q_14.1 25 6)) (B := Int32.toInt x7_16) rfl rfl (fun c_31 => ?_) (fun c_32 => ?_)
    · exact dOk_some (show (TC q_14) ∧ (cFr [3, 4, 12, 14, 19, 21, 23] [(2, 2), (2, 3), (2, 4), (10, 2), (10, 5), (18, 1), (22, 2), (22, 3)] q q_14) from ⟨a_17, hFq_14⟩)
    · unfold zX5_run_s22_s25_s2_s20_s10_36
      refine dFix_ok (fun (a : dK × Int64 × Int32 × Int32) => (TC a.1) ∧ (cFr [3, 4, 12, 19, 21, 23] [(2, 3), (2, 4), (10, 2), (18, 1), (22, 2), (22, 3)] q_14 a.1) ∧ (a.2.1 = ((r_1))) ∧ (a.2.2.1 = x7_16) ∧ (0 ≤ Int32.toInt a.2.2.2)) (fun (a : dK × Int64 × Int32 × Int32) => (Int32.toInt (q_14.1 27 (Int32.toNatClampNeg a.2.2.1)) - Int32.toInt a.2.2.2).toNat) ?_ _ ?_ _ (dF_gt ?_)
      · intro a ha k_34 hk_33
        obtain ⟨q_35, x5_36, x7_37, x8_38⟩ := a
        replace ha : (TC q_35) ∧ (cFr [3, 4, 12, 19, 21, 23] [(2, 3), (2, 4), (10, 2), (18, 1), (22, 2), (22, 3)] q_14 q_35) ∧ (x5_36 = ((r_1))) ∧ (x7_37 = x7_16) ∧ (0 ≤ Int32.toInt x8_38) := ha
        obtain ⟨a_39, a_40, a_41, a_42, a_43⟩ := ha
        show dOk (zX5_run_s22_s25_s2_s20_s10_36b _ (fun q x5 x7 x8 => k_34 (q, x5, x7, x8)) q_35 x5_36 x7_37 x8_38) _
        unfold zX5_run_s22_s25_s2_s20_s10_36b
        have hFq_35 : cFr [3, 4, 12, 14, 19, 21, 23] [(2, 2), (2, 3), (2, 4), (10, 2), (10, 5), (18, 1), (22, 2), (22, 3)] q q_35 := hFq_14.t a_40 (by decide) (by decide)
        subst x5_36
        subst x7_37
        have hb9 : Int32.toInt (q_35.1 27 (Int32.toNatClampNeg x7_16)) = Int32.toInt (q_14.1 27 (Int32.toNatClampNeg x7_16)) := by rw [a_40.row 27 (by decide) (by decide)]
        refine dOk_G (dg_ok (show 0 ≤ Int32.toInt x7_16 by omega) (show Int32.toInt x7_16 < ((12 : Nat) : Int) by omega)) ?_
        have n_44 : ((Int32.toNatClampNeg x7_16 : Nat) : Int) = Int32.toInt x7_16 := cl_eq (by omega)
        refine dOk_L (fun v_45 ev_45 => ?_)
        have w_46 : Int32.toInt v_45 = Int32.toInt (q_35.1 27 (Int32.toNatClampNeg x7_16)) := by rw [ev_45]
        have f_47 := ti_rg v_45
        refine dOk_le (A := Int32.toInt v_45) (B := Int32.toInt x8_38) rfl rfl (fun c_48 => ?_) (fun c_49 => ?_)
        · try have t_50 : Int32.toInt (x7_16 + 1) = Int32.toInt x7_16 + 1 := ti_add rfl (by decide) (by omega) (by omega)
          exact hk_12 (q_35, (((r_1))), (x7_16 + 1)) (show (TC q_35) ∧ (cFr [3, 4, 12, 19, 21, 23] [(2, 3), (2, 4), (10, 2), (18, 1), (22, 2), (22, 3)] q_11 q_35) ∧ ((((r_1))) = (r_1)) ∧ (0 ≤ Int32.toInt (x7_16 + 1)) ∧ (Int32.toInt (x7_16 + 1) ≤ 12) from ⟨a_39, ((((cFr.rf : cFr [3, 4, 12, 19, 21, 23] [(2, 3), (2, 4), (10, 2), (18, 1), (22, 2), (22, 3)] q_11 q_11).t a_18 (by decide) (by decide)) : cFr [3, 4, 12, 19, 21, 23] [(2, 3), (2, 4), (10, 2), (18, 1), (22, 2), (22, 3)] q_11 q_14).t a_40 (by decide) (by decide)), rfl, by omega, by omega⟩) (show (12 - Int32.toInt (x7_16 + 1)).toNat < (12 - Int32.toInt x7_16).toNat by omega)
        · refine dOk_V (ok_X5_setWords_s22_s2 q_35 a_39) (fun q_51 h_52 => ?_)
          replace h_52 : (TC q_51) ∧ (cFr [23] [] q_35 q_51) := h_52
          obtain ⟨i_53, i_54⟩ := h_52
          have hFq_51 : cFr [3, 4, 12, 14, 19, 21, 23] [(2, 2), (2, 3), (2, 4), (10, 2), (10, 5), (18, 1), (22, 2), (22, 3)] q q_51 := hFq_35.t i_54 (by decide) (by decide)
          refine dOk_G (dg_ok (show 0 ≤ Int32.toInt x7_16 by omega) (show Int32.toInt x7_16 < ((12 : Nat) : Int) by omega)) ?_
          refine dOk_L (fun v_55 ev_55 => ?_)
          have f_56 : 0 ≤ Int32.toInt v_55 ∧ Int32.toInt v_55 ≤ 400 := by rw [ev_55]; exact rg_29 i_53 _
          refine dOk_G (dg_ok (show 0 ≤ Int32.toInt x7_16 by omega) (show Int32.toInt x7_16 < ((12 : Nat) : Int) by omega)) ?_
          refine dOk_L (fun v_57 ev_57 => ?_)
          have f_58 : 0 ≤ Int32.toInt v_57 ∧ Int32.toInt v_57 ≤ 400 := by rw [ev_57]; exact rg_30 i_53 _
          refine dOk_B (ok_X2_valueOf_s18_s25_s23 q_51 v_55 v_57 i_53 (show 0 ≤ Int32.toInt v_55 by omega)) (fun r_59 q_60 h_61 => ?_)
          replace h_61 : (TC q_60) ∧ (cFr [19] [(18, 1)] q_51 q_60) := h_61
          obtain ⟨i_62, i_63⟩ := h_61
          have hFq_60 : cFr [3, 4, 12, 14, 19, 21, 23] [(2, 2), (2, 3), (2, 4), (10, 2), (10, 5), (18, 1), (22, 2), (22, 3)] q q_60 := hFq_51.t i_63 (by decide) (by decide)
          refine dOk_eq (A := Int32.toInt r_59) (B := 1) rfl (by decide) (fun c_64z c_64 => ?_) (fun c_65z c_65 => ?_)
          · refine dOk_B (ok_X8_pack_s2 q_60 i_62) (fun r_67 q_68 h_69 => ?_)
            replace h_69 : (q_68 = q_60) ∧ (0 ≤ Int64.toInt r_67) := h_69
            obtain ⟨i_70, i_71⟩ := h_69
            subst q_68
            refine dOk_G (dg_ok (show 0 ≤ Int32.toInt x7_16 by omega) (show Int32.toInt x7_16 < ((12 : Nat) : Int) by omega)) ?_
            refine dOk_L (fun v_72 ev_72 => ?_)
            refine dOk_G (dg_ok (show 0 ≤ Int32.toInt x7_16 by omega) (show Int32.toInt x7_16 < ((12 : Nat) : Int) by omega)) ?_
            refine dOk_L (fun v_73 ev_73 => ?_)
            have f_74 : 0 ≤ Int32.toInt v_73 ∧ Int32.toInt v_73 ≤ 400 := by rw [ev_73]; exact rg_28 i_62 _
            refine dOk_G (dg_ok (show 0 ≤ Int32.toInt x7_16 by omega) (show Int32.toInt x7_16 < ((12 : Nat) : Int) by omega)) ?_
            refine dOk_L (fun v_75 ev_75 => ?_)
            have f_76 : 0 ≤ Int32.toInt v_75 ∧ Int32.toInt v_75 ≤ 400 := by rw [ev_75]; exact rg_29 i_62 _
            refine dOk_B (ok_X2_valueOf_s18_s25_s23 q_60 v_73 v_75 i_62 (show 0 ≤ Int32.toInt v_73 by omega)) (fun r_77 q_78 h_79 => ?_)
            replace h_79 : (TC q_78) ∧ (cFr [19] [(18, 1)] q_60 q_78) := h_79
            obtain ⟨i_80, i_81⟩ := h_79
            have hFq_78 : cFr [3, 4, 12, 14, 19, 21, 23] [(2, 2), (2, 3), (2, 4), (10, 2), (10, 5), (18, 1), (22, 2), (22, 3)] q q_78 := hFq_60.t i_81 (by decide) (by decide)
            have f_82 : 0 ≤ Int32.toInt (q_78.1 18 1) ∧ Int32.toInt (q_78.1 18 1) ≤ 1 := rg_18_1 i_80
            refine dOk_eq (A := Int32.toInt (q_78.1 18 1)) (B := 0) rfl (by decide) (fun c_83z c_83 => ?_) (fun c_84z c_84 => ?_)
            · refine dOk_B (ok_X8_act_s2_s20 q_78 v_72 r_77 i_80) (fun r_86 q_87 h_88 => ?_)
              replace h_88 : (TC q_87) ∧ (cFr [3, 4, 19, 21] [(2, 3), (2, 4), (18, 1)] q_78 q_87) ∧ (-3 ≤ Int32.toInt r_86 ∧ Int32.toInt r_86 ≤ 99) := h_88
              obtain ⟨i_89, i_90, i_91⟩ := h_88
              have hFq_87 : cFr [3, 4, 12, 14, 19, 21, 23] [(2, 2), (2, 3), (2, 4), (10, 2), (10, 5), (18, 1), (22, 2), (22, 3)] q q_87 := hFq_78.t i_90 (by decide) (by decide)
              unfold zX5_run_s22_s25_s2_s20_s10_150
              refine dOk_le (A := 0) (B := Int32.toInt r_86) (by decide) rfl (fun c_92 => ?_) (fun c_93 => ?_)
              · refine dOk_V (ok_X0_keep_s10 q_87 v_72 ((r_67)) i_89 (show 0 ≤ Int64.toInt ((r_67)) by omega)) (fun q_94 h_95 => ?_)
                replace h_95 : (TC q_94) ∧ (cFr [12] [(10, 2)] q_87 q_94) := h_95
                obtain ⟨i_96, i_97⟩ := h_95
                have hFq_94 : cFr [3, 4, 12, 14, 19, 21, 23] [(2, 2), (2, 3), (2, 4), (10, 2), (10, 5), (18, 1), (22, 2), (22, 3)] q q_94 := hFq_87.t i_97 (by decide) (by decide)
                refine dOk_L (fun q_98 eq_98 => ?_)
                have w_99 : Int32.toInt (q_51.1 22 2) = Int32.toInt (q_35.1 22 2) := by rw [i_54.1 22 2 (by decide) (by decide)]
                have w_100 : Int32.toInt (q_60.1 22 2) = Int32.toInt (q_51.1 22 2) := by rw [i_63.1 22 2 (by decide) (by decide)]
                have w_101 : Int32.toInt (q_78.1 22 2) = Int32.toInt (q_60.1 22 2) := by rw [i_81.1 22 2 (by decide) (by decide)]
                have w_102 : Int32.toInt (q_87.1 22 2) = Int32.toInt (q_78.1 22 2) := by rw [i_90.1 22 2 (by decide) (by decide)]
                have w_103 : Int32.toInt (q_94.1 22 2) = Int32.toInt (q_87.1 22 2) := by rw [i_97.1 22 2 (by decide) (by decide)]
                try have t_104 : Int32.toInt (q_94.1 22 2 + 1) = Int32.toInt (q_94.1 22 2) + 1 := ti_add rfl (by decide) (by omega) (by omega)
                have hTq_98 : TC q_98 := by rw [eq_98]; exact sa_22_2 i_96
                have hFq_98 : cFr [3, 4, 12, 14, 19, 21, 23] [(2, 2), (2, 3), (2, 4), (10, 2), (10, 5), (18, 1), (22, 2), (22, 3)] q q_98 := by rw [eq_98]; exact hFq_94.f (by decide)
                refine dOk_eq (A := Int32.toInt v_72) (B := 0) rfl (by decide) (fun c_105z c_105 => ?_) (fun c_106z c_106 => ?_)
                · unfold zX5_run_s22_s25_s2_s20_s10_205
                  refine dOk_L (fun q_108 eq_108 => ?_)
                  have hTq_108 : TC q_108 := by rw [eq_108]; exact sa_22_3 hTq_98
                  have hFq_108 : cFr [3, 4, 12, 14, 19, 21, 23] [(2, 2), (2, 3), (2, 4), (10, 2), (10, 5), (18, 1), (22, 2), (22, 3)] q q_108 := by rw [eq_108]; exact hFq_98.f (by decide)
                  unfold zX5_run_s22_s25_s2_s20_s10_208
                  try have t_109 : Int32.toInt (x8_38 + 1) = Int32.toInt x8_38 + 1 := ti_add rfl (by decide) (by omega) (by omega)
                  exact hk_33 (q_108, ((((((r_1)))))), x7_16, (x8_38 + 1)) (show (TC q_108) ∧ (cFr [3, 4, 12, 19, 21, 23] [(2, 3), (2, 4), (10, 2), (18, 1), (22, 2), (22, 3)] q_14 q_108) ∧ (((((((r_1)))))) = ((r_1))) ∧ (x7_16 = x7_16) ∧ (0 ≤ Int32.toInt (x8_38 + 1)) from ⟨hTq_108, (by rw [eq_108]; exact ((by rw [eq_98]; exact (((((((((((((cFr.rf : cFr [3, 4, 12, 19, 21, 23] [(2, 3), (2, 4), (10, 2), (18, 1), (22, 2), (22, 3)] q_14 q_14).t a_40 (by decide) (by decide)) : cFr [3, 4, 12, 19, 21, 23] [(2, 3), (2, 4), (10, 2), (18, 1), (22, 2), (22, 3)] q_14 q_35).t i_54 (by decide) (by decide)) : cFr [3, 4, 12, 19, 21, 23] [(2, 3), (2, 4), (10, 2), (18, 1), (22, 2), (22, 3)] q_14 q_51).t i_63 (by decide) (by decide)) : cFr [3, 4, 12, 19, 21, 23] [(2, 3), (2, 4), (10, 2), (18, 1), (22, 2), (22, 3)] q_14 q_60).t i_81 (by decide) (by decide)) : cFr [3, 4, 12, 19, 21, 23] [(2, 3), (2, 4), (10, 2), (18, 1), (22, 2), (22, 3)] q_14 q_78).t i_90 (by decide) (by decide)) : cFr [3, 4, 12, 19, 21, 23] [(2, 3), (2, 4), (10, 2), (18, 1), (22, 2), (22, 3)] q_14 q_87).t i_97 (by decide) (by decide)) : cFr [3, 4, 12, 19, 21, 23] [(2, 3), (2, 4), (10, 2), (18, 1), (22, 2), (22, 3)] q_14 q_94).f (by decide)) : cFr [3, 4, 12, 19, 21, 23] [(2, 3), (2, 4), (10, 2), (18, 1), (22, 2), (22, 3)] q_14 q_98).f (by decide)), rfl, rfl, by omega⟩) (show (Int32.toInt (q_14.1 27 (Int32.toNatClampNeg x7_16)) - Int32.toInt (x8_38 + 1)).toNat < (Int32.toInt (q_14.1 27 (Int32.toNatClampNeg x7_16)) - Int32.toInt x8_38).toNat by omega)
                · unfold zX5_run_s22_s25_s2_s20_s10_205
                  refine dOk_L (fun q_110 eq_110 => ?_)
                  have w_111 : Int32.toInt (q_51.1 22 3) = Int32.toInt (q_35.1 22 3) := by rw [i_54.1 22 3 (by decide) (by decide)]
                  have w_112 : Int32.toInt (q_60.1 22 3) = Int32.toInt (q_51.1 22 3) := by rw [i_63.1 22 3 (by decide) (by decide)]
                  have w_113 : Int32.toInt (q_78.1 22 3) = Int32.toInt (q_60.1 22 3) := by rw [i_81.1 22 3 (by decide) (by decide)]
                  have w_114 : Int32.toInt (q_87.1 22 3) = Int32.toInt (q_78.1 22 3) := by rw [i_90.1 22 3 (by decide) (by decide)]
                  have w_115 : Int32.toInt (q_94.1 22 3) = Int32.toInt (q_87.1 22 3) := by rw [i_97.1 22 3 (by decide) (by decide)]
                  have w_116 : Int32.toInt (q_98.1 22 3) = Int32.toInt (q_94.1 22 3) := by rw [eq_98, cui_n (by decide)]
                  have hTq_110 : TC q_110 := by rw [eq_110]; exact sa_22_3 hTq_98
                  have hFq_110 : cFr [3, 4, 12, 14, 19, 21, 23] [(2, 2), (2, 3), (2, 4), (10, 2), (10, 5), (18, 1), (22, 2), (22, 3)] q q_110 := by rw [eq_110]; exact hFq_98.f (by decide)
                  unfold zX5_run_s22_s25_s2_s20_s10_208
                  try have t_117 : Int32.toInt (x8_38 + 1) = Int32.toInt x8_38 + 1 := ti_add rfl (by decide) (by omega) (by omega)
                  exact hk_33 (q_110, ((((((r_1)))))), x7_16, (x8_38 + 1)) (show (TC q_110) ∧ (cFr [3, 4, 12, 19, 21, 23] [(2, 3), (2, 4), (10, 2), (18, 1), (22, 2), (22, 3)] q_14 q_110) ∧ (((((((r_1)))))) = ((r_1))) ∧ (x7_16 = x7_16) ∧ (0 ≤ Int32.toInt (x8_38 + 1)) from ⟨hTq_110, (by rw [eq_110]; exact ((by rw [eq_98]; exact (((((((((((((cFr.rf : cFr [3, 4, 12, 19, 21, 23] [(2, 3), (2, 4), (10, 2), (18, 1), (22, 2), (22, 3)] q_14 q_14).t a_40 (by decide) (by decide)) : cFr [3, 4, 12, 19, 21, 23] [(2, 3), (2, 4), (10, 2), (18, 1), (22, 2), (22, 3)] q_14 q_35).t i_54 (by decide) (by decide)) : cFr [3, 4, 12, 19, 21, 23] [(2, 3), (2, 4), (10, 2), (18, 1), (22, 2), (22, 3)] q_14 q_51).t i_63 (by decide) (by decide)) : cFr [3, 4, 12, 19, 21, 23] [(2, 3), (2, 4), (10, 2), (18, 1), (22, 2), (22, 3)] q_14 q_60).t i_81 (by decide) (by decide)) : cFr [3, 4, 12, 19, 21, 23] [(2, 3), (2, 4), (10, 2), (18, 1), (22, 2), (22, 3)] q_14 q_78).t i_90 (by decide) (by decide)) : cFr [3, 4, 12, 19, 21, 23] [(2, 3), (2, 4), (10, 2), (18, 1), (22, 2), (22, 3)] q_14 q_87).t i_97 (by decide) (by decide)) : cFr [3, 4, 12, 19, 21, 23] [(2, 3), (2, 4), (10, 2), (18, 1), (22, 2), (22, 3)] q_14 q_94).f (by decide)) : cFr [3, 4, 12, 19, 21, 23] [(2, 3), (2, 4), (10, 2), (18, 1), (22, 2), (22, 3)] q_14 q_98).f (by decide)), rfl, rfl, by omega⟩) (show (Int32.toInt (q_14.1 27 (Int32.toNatClampNeg x7_16)) - Int32.toInt (x8_38 + 1)).toNat < (Int32.toInt (q_14.1 27 (Int32.toNatClampNeg x7_16)) - Int32.toInt x8_38).toNat by omega)
              · refine dOk_V (ok_X8_unpack_s2 q_87 ((((r_1)))) i_89 (show 0 ≤ Int64.toInt ((((r_1)))) by omega)) (fun q_118 h_119 => ?_)
                replace h_119 : (TC q_118) ∧ (cFr [3, 4] [(2, 2), (2, 3), (2, 4)] q_87 q_118) := h_119
                obtain ⟨i_120, i_121⟩ := h_119
                have hFq_118 : cFr [3, 4, 12, 14, 19, 21, 23] [(2, 2), (2, 3), (2, 4), (10, 2), (10, 5), (18, 1), (22, 2), (22, 3)] q q_118 := hFq_87.t i_121 (by decide) (by decide)
                refine dOk_V (ok_X0_backToMark_s10 q_118 i_120) (fun q_122 h_123 => ?_)
                replace h_123 : (TC q_122) ∧ (cFr [12] [(10, 2)] q_118 q_122) := h_123
                obtain ⟨i_124, i_125⟩ := h_123
                have hFq_122 : cFr [3, 4, 12, 14, 19, 21, 23] [(2, 2), (2, 3), (2, 4), (10, 2), (10, 5), (18, 1), (22, 2), (22, 3)] q q_122 := hFq_118.t i_125 (by decide) (by decide)
                exact dOk_some (show (TC q_122) ∧ (cFr [3, 4, 12, 14, 19, 21, 23] [(2, 2), (2, 3), (2, 4), (10, 2), (10, 5), (18, 1), (22, 2), (22, 3)] q q_122) from ⟨i_124, hFq_122⟩)
            · unfold zX5_run_s22_s25_s2_s20_s10_150
              refine dOk_le (A := 0) (B := (-3)) (by decide) (by decide) (fun c_126 => ?_) (fun c_127 => ?_)
              · refine dOk_V (ok_X0_keep_s10 q_78 v_72 ((r_67)) i_80 (show 0 ≤ Int64.toInt ((r_67)) by omega)) (fun q_128 h_129 => ?_)
                replace h_129 : (TC q_128) ∧ (cFr [12] [(10, 2)] q_78 q_128) := h_129
                obtain ⟨i_130, i_131⟩ := h_129
                have hFq_128 : cFr [3, 4, 12, 14, 19, 21, 23] [(2, 2), (2, 3), (2, 4), (10, 2), (10, 5), (18, 1), (22, 2), (22, 3)] q q_128 := hFq_78.t i_131 (by decide) (by decide)
                refine dOk_L (fun q_132 eq_132 => ?_)
                have w_133 : Int32.toInt (q_51.1 22 2) = Int32.toInt (q_35.1 22 2) := by rw [i_54.1 22 2 (by decide) (by decide)]
                have w_134 : Int32.toInt (q_60.1 22 2) = Int32.toInt (q_51.1 22 2) := by rw [i_63.1 22 2 (by decide) (by decide)]
                have w_135 : Int32.toInt (q_78.1 22 2) = Int32.toInt (q_60.1 22 2) := by rw [i_81.1 22 2 (by decide) (by decide)]
                have w_136 : Int32.toInt (q_128.1 22 2) = Int32.toInt (q_78.1 22 2) := by rw [i_131.1 22 2 (by decide) (by decide)]
                try have t_137 : Int32.toInt (q_128.1 22 2 + 1) = Int32.toInt (q_128.1 22 2) + 1 := ti_add rfl (by decide) (by omega) (by omega)
                have hTq_132 : TC q_132 := by rw [eq_132]; exact sa_22_2 i_130
                have hFq_132 : cFr [3, 4, 12, 14, 19, 21, 23] [(2, 2), (2, 3), (2, 4), (10, 2), (10, 5), (18, 1), (22, 2), (22, 3)] q q_132 := by rw [eq_132]; exact hFq_128.f (by decide)
                refine dOk_eq (A := Int32.toInt v_72) (B := 0) rfl (by decide) (fun c_138z c_138 => ?_) (fun c_139z c_139 => ?_)
                · unfold zX5_run_s22_s25_s2_s20_s10_205
                  refine dOk_L (fun q_141 eq_141 => ?_)
                  have hTq_141 : TC q_141 := by rw [eq_141]; exact sa_22_3 hTq_132
                  have hFq_141 : cFr [3, 4, 12, 14, 19, 21, 23] [(2, 2), (2, 3), (2, 4), (10, 2), (10, 5), (18, 1), (22, 2), (22, 3)] q q_141 := by rw [eq_141]; exact hFq_132.f (by decide)
                  unfold zX5_run_s22_s25_s2_s20_s10_208
                  try have t_142 : Int32.toInt (x8_38 + 1) = Int32.toInt x8_38 + 1 := ti_add rfl (by decide) (by omega) (by omega)
                  exact hk_33 (q_141, ((((((r_1)))))), x7_16, (x8_38 + 1)) (show (TC q_141) ∧ (cFr [3, 4, 12, 19, 21, 23] [(2, 3), (2, 4), (10, 2), (18, 1), (22, 2), (22, 3)] q_14 q_141) ∧ (((((((r_1)))))) = ((r_1))) ∧ (x7_16 = x7_16) ∧ (0 ≤ Int32.toInt (x8_38 + 1)) from ⟨hTq_141, (by rw [eq_141]; exact ((by rw [eq_132]; exact (((((((((((cFr.rf : cFr [3, 4, 12, 19, 21, 23] [(2, 3), (2, 4), (10, 2), (18, 1), (22, 2), (22, 3)] q_14 q_14).t a_40 (by decide) (by decide)) : cFr [3, 4, 12, 19, 21, 23] [(2, 3), (2, 4), (10, 2), (18, 1), (22, 2), (22, 3)] q_14 q_35).t i_54 (by decide) (by decide)) : cFr [3, 4, 12, 19, 21, 23] [(2, 3), (2, 4), (10, 2), (18, 1), (22, 2), (22, 3)] q_14 q_51).t i_63 (by decide) (by decide)) : cFr [3, 4, 12, 19, 21, 23] [(2, 3), (2, 4), (10, 2), (18, 1), (22, 2), (22, 3)] q_14 q_60).t i_81 (by decide) (by decide)) : cFr [3, 4, 12, 19, 21, 23] [(2, 3), (2, 4), (10, 2), (18, 1), (22, 2), (22, 3)] q_14 q_78).t i_131 (by decide) (by decide)) : cFr [3, 4, 12, 19, 21, 23] [(2, 3), (2, 4), (10, 2), (18, 1), (22, 2), (22, 3)] q_14 q_128).f (by decide)) : cFr [3, 4, 12, 19, 21, 23] [(2, 3), (2, 4), (10, 2), (18, 1), (22, 2), (22, 3)] q_14 q_132).f (by decide)), rfl, rfl, by omega⟩) (show (Int32.toInt (q_14.1 27 (Int32.toNatClampNeg x7_16)) - Int32.toInt (x8_38 + 1)).toNat < (Int32.toInt (q_14.1 27 (Int32.toNatClampNeg x7_16)) - Int32.toInt x8_38).toNat by omega)
                · unfold zX5_run_s22_s25_s2_s20_s10_205
                  refine dOk_L (fun q_143 eq_143 => ?_)
                  have w_144 : Int32.toInt (q_51.1 22 3) = Int32.toInt (q_35.1 22 3) := by rw [i_54.1 22 3 (by decide) (by decide)]
                  have w_145 : Int32.toInt (q_60.1 22 3) = Int32.toInt (q_51.1 22 3) := by rw [i_63.1 22 3 (by decide) (by decide)]
                  have w_146 : Int32.toInt (q_78.1 22 3) = Int32.toInt (q_60.1 22 3) := by rw [i_81.1 22 3 (by decide) (by decide)]
                  have w_147 : Int32.toInt (q_128.1 22 3) = Int32.toInt (q_78.1 22 3) := by rw [i_131.1 22 3 (by decide) (by decide)]
                  have w_148 : Int32.toInt (q_132.1 22 3) = Int32.toInt (q_128.1 22 3) := by rw [eq_132, cui_n (by decide)]
                  have hTq_143 : TC q_143 := by rw [eq_143]; exact sa_22_3 hTq_132
                  have hFq_143 : cFr [3, 4, 12, 14, 19, 21, 23] [(2, 2), (2, 3), (2, 4), (10, 2), (10, 5), (18, 1), (22, 2), (22, 3)] q q_143 := by rw [eq_143]; exact hFq_132.f (by decide)
                  unfold zX5_run_s22_s25_s2_s20_s10_208
                  try have t_149 : Int32.toInt (x8_38 + 1) = Int32.toInt x8_38 + 1 := ti_add rfl (by decide) (by omega) (by omega)
                  exact hk_33 (q_143, ((((((r_1)))))), x7_16, (x8_38 + 1)) (show (TC q_143) ∧ (cFr [3, 4, 12, 19, 21, 23] [(2, 3), (2, 4), (10, 2), (18, 1), (22, 2), (22, 3)] q_14 q_143) ∧ (((((((r_1)))))) = ((r_1))) ∧ (x7_16 = x7_16) ∧ (0 ≤ Int32.toInt (x8_38 + 1)) from ⟨hTq_143, (by rw [eq_143]; exact ((by rw [eq_132]; exact (((((((((((cFr.rf : cFr [3, 4, 12, 19, 21, 23] [(2, 3), (2, 4), (10, 2), (18, 1), (22, 2), (22, 3)] q_14 q_14).t a_40 (by decide) (by decide)) : cFr [3, 4, 12, 19, 21, 23] [(2, 3), (2, 4), (10, 2), (18, 1), (22, 2), (22, 3)] q_14 q_35).t i_54 (by decide) (by decide)) : cFr [3, 4, 12, 19, 21, 23] [(2, 3), (2, 4), (10, 2), (18, 1), (22, 2), (22, 3)] q_14 q_51).t i_63 (by decide) (by decide)) : cFr [3, 4, 12, 19, 21, 23] [(2, 3), (2, 4), (10, 2), (18, 1), (22, 2), (22, 3)] q_14 q_60).t i_81 (by decide) (by decide)) : cFr [3, 4, 12, 19, 21, 23] [(2, 3), (2, 4), (10, 2), (18, 1), (22, 2), (22, 3)] q_14 q_78).t i_131 (by decide) (by decide)) : cFr [3, 4, 12, 19, 21, 23] [(2, 3), (2, 4), (10, 2), (18, 1), (22, 2), (22, 3)] q_14 q_128).f (by decide)) : cFr [3, 4, 12, 19, 21, 23] [(2, 3), (2, 4), (10, 2), (18, 1), (22, 2), (22, 3)] q_14 q_132).f (by decide)), rfl, rfl, by omega⟩) (show (Int32.toInt (q_14.1 27 (Int32.toNatClampNeg x7_16)) - Int32.toInt (x8_38 + 1)).toNat < (Int32.toInt (q_14.1 27 (Int32.toNatClampNeg x7_16)) - Int32.toInt x8_38).toNat by omega)
              · refine dOk_V (ok_X8_unpack_s2 q_78 ((((r_1)))) i_80 (show 0 ≤ Int64.toInt ((((r_1)))) by omega)) (fun q_150 h_151 => ?_)
                replace h_151 : (TC q_150) ∧ (cFr [3, 4] [(2, 2), (2, 3), (2, 4)] q_78 q_150) := h_151
                obtain ⟨i_152, i_153⟩ := h_151
                have hFq_150 : cFr [3, 4, 12, 14, 19, 21, 23] [(2, 2), (2, 3), (2, 4), (10, 2), (10, 5), (18, 1), (22, 2), (22, 3)] q q_150 := hFq_78.t i_153 (by decide) (by decide)
                refine dOk_V (ok_X0_backToMark_s10 q_150 i_152) (fun q_154 h_155 => ?_)
                replace h_155 : (TC q_154) ∧ (cFr [12] [(10, 2)] q_150 q_154) := h_155
                obtain ⟨i_156, i_157⟩ := h_155
                have hFq_154 : cFr [3, 4, 12, 14, 19, 21, 23] [(2, 2), (2, 3), (2, 4), (10, 2), (10, 5), (18, 1), (22, 2), (22, 3)] q q_154 := hFq_150.t i_157 (by decide) (by decide)
                exact dOk_some (show (TC q_154) ∧ (cFr [3, 4, 12, 14, 19, 21, 23] [(2, 2), (2, 3), (2, 4), (10, 2), (10, 5), (18, 1), (22, 2), (22, 3)] q q_154) from ⟨i_156, hFq_154⟩)
          · unfold zX5_run_s22_s25_s2_s20_s10_208
            try have t_158 : Int32.toInt (x8_38 + 1) = Int32.toInt x8_38 + 1 := ti_add rfl (by decide) (by omega) (by omega)
            exact hk_33 (q_60, ((((r_1)))), x7_16, (x8_38 + 1)) (show (TC q_60) ∧ (cFr [3, 4, 12, 19, 21, 23] [(2, 3), (2, 4), (10, 2), (18, 1), (22, 2), (22, 3)] q_14 q_60) ∧ (((((r_1)))) = ((r_1))) ∧ (x7_16 = x7_16) ∧ (0 ≤ Int32.toInt (x8_38 + 1)) from ⟨i_62, ((((((cFr.rf : cFr [3, 4, 12, 19, 21, 23] [(2, 3), (2, 4), (10, 2), (18, 1), (22, 2), (22, 3)] q_14 q_14).t a_40 (by decide) (by decide)) : cFr [3, 4, 12, 19, 21, 23] [(2, 3), (2, 4), (10, 2), (18, 1), (22, 2), (22, 3)] q_14 q_35).t i_54 (by decide) (by decide)) : cFr [3, 4, 12, 19, 21, 23] [(2, 3), (2, 4), (10, 2), (18, 1), (22, 2), (22, 3)] q_14 q_51).t i_63 (by decide) (by decide)), rfl, rfl, by omega⟩) (show (Int32.toInt (q_14.1 27 (Int32.toNatClampNeg x7_16)) - Int32.toInt (x8_38 + 1)).toNat < (Int32.toInt (q_14.1 27 (Int32.toNatClampNeg x7_16)) - Int32.toInt x8_38).toNat by omega)
      · exact (show (TC q_14) ∧ (cFr [3, 4, 12, 19, 21, 23] [(2, 3), (2, 4), (10, 2), (18, 1), (22, 2), (22, 3)] q_14 q_14) ∧ (((r_1)) = ((r_1))) ∧ (x7_16 = x7_16) ∧ (0 ≤ (0 : Int)) from ⟨a_17, cFr.rf, rfl, rfl, by omega⟩)
      · have hm9 := ti_rg (q_14.1 27 (Int32.toNatClampNeg x7_16))
        show (Int32.toInt (q_14.1 27 (Int32.toNatClampNeg x7_16)) - (0 : Int)).toNat < 1000000000000
        omega
  · exact (show (TC q_11) ∧ (cFr [3, 4, 12, 19, 21, 23] [(2, 3), (2, 4), (10, 2), (18, 1), (22, 2), (22, 3)] q_11 q_11) ∧ ((r_1) = (r_1)) ∧ (0 ≤ (0 : Int)) ∧ ((0 : Int) ≤ 12) from ⟨hTq_11, cFr.rf, rfl, by omega, by omega⟩)
  · show (12 - (0 : Int)).toNat < 1000000000000
    omega

set_option maxHeartbeats 4000000 in
set_option maxRecDepth 100000 in
theorem ok_X9_orders_s0 (q : dK) (hT : TC q) : dOk (zX9_orders_s0 q) (fun (o : Int32 × dK) => (TC o.2) ∧ (cFr [3, 4, 12, 14, 19, 21, 23, 26, 27, 28, 29, 30, 31, 48] [(0, 12), (0, 13), (0, 15), (0, 18), (2, 2), (2, 3), (2, 4), (10, 2), (10, 5), (18, 1), (20, 2), (22, 2), (22, 3), (24, 0), (24, 1), (24, 2), (24, 3), (24, 4), (24, 5), (24, 6), (24, 7), (24, 8), (24, 9), (24, 10), (25, 6), (25, 7)] q o.2) ∧ (Int32.toInt (o.2.1 0 12) = 0)) := by
  unfold zX9_orders_s0
  refine dOk_L (fun q_1 eq_1 => ?_)
  have hTq_1 : TC q_1 := by rw [eq_1]; exact st_0_12 hT (show (0 : Int) ≤ (0 : Int) by omega) (show (0 : Int) ≤ (400 : Int) by omega)
  have hFq_1 : cFr [3, 4, 12, 14, 19, 21, 23, 26, 27, 28, 29, 30, 31, 48] [(0, 12), (0, 13), (0, 15), (0, 18), (2, 2), (2, 3), (2, 4), (10, 2), (10, 5), (18, 1), (20, 2), (22, 2), (22, 3), (24, 0), (24, 1), (24, 2), (24, 3), (24, 4), (24, 5), (24, 6), (24, 7), (24, 8), (24, 9), (24, 10), (25, 6), (25, 7)] q q_1 := by rw [eq_1]; exact (cFr.rf (q := q)).f (by decide)
  refine dOk_L (fun q_2 eq_2 => ?_)
  have hTq_2 : TC q_2 := by rw [eq_2]; exact sa_0_15 hTq_1
  have hFq_2 : cFr [3, 4, 12, 14, 19, 21, 23, 26, 27, 28, 29, 30, 31, 48] [(0, 12), (0, 13), (0, 15), (0, 18), (2, 2), (2, 3), (2, 4), (10, 2), (10, 5), (18, 1), (20, 2), (22, 2), (22, 3), (24, 0), (24, 1), (24, 2), (24, 3), (24, 4), (24, 5), (24, 6), (24, 7), (24, 8), (24, 9), (24, 10), (25, 6), (25, 7)] q q_2 := by rw [eq_2]; exact hFq_1.f (by decide)
  have f_3 : 0 ≤ Int32.toInt (q.1 0 12) ∧ Int32.toInt (q.1 0 12) ≤ 400 := rg_0_12 hT
  refine dOk_B (ok_X4_read_s24_s46_s25 q_2 (q.1 0 12) 1 hTq_2 (show 0 ≤ Int32.toInt (q.1 0 12) by omega) (show (1 : Int) = 0 ∨ (1 : Int) = 1 by omega)) (fun r_4 q_5 h_6 => ?_)
  replace h_6 : (TC q_5) ∧ (cFr [26, 27, 28, 29, 30, 31] [(24, 0), (24, 1), (24, 2), (24, 3), (24, 4), (24, 5), (24, 6), (24, 7), (24, 8), (24, 9), (24, 10), (25, 6), (25, 7)] q_2 q_5) := h_6
  obtain ⟨i_7, i_8⟩ := h_6
  have hFq_5 : cFr [3, 4, 12, 14, 19, 21, 23, 26, 27, 28, 29, 30, 31, 48] [(0, 12), (0, 13), (0, 15), (0, 18), (2, 2), (2, 3), (2, 4), (10, 2), (10, 5), (18, 1), (20, 2), (22, 2), (22, 3), (24, 0), (24, 1), (24, 2), (24, 3), (24, 4), (24, 5), (24, 6), (24, 7), (24, 8), (24, 9), (24, 10), (25, 6), (25, 7)] q q_5 := hFq_2.t i_8 (by decide) (by decide)
  refine dOk_L (fun q_9 eq_9 => ?_)
  have hTq_9 : TC q_9 := by rw [eq_9]; exact sa_0_13 i_7
  have hFq_9 : cFr [3, 4, 12, 14, 19, 21, 23, 26, 27, 28, 29, 30, 31, 48] [(0, 12), (0, 13), (0, 15), (0, 18), (2, 2), (2, 3), (2, 4), (10, 2), (10, 5), (18, 1), (20, 2), (22, 2), (22, 3), (24, 0), (24, 1), (24, 2), (24, 3), (24, 4), (24, 5), (24, 6), (24, 7), (24, 8), (24, 9), (24, 10), (25, 6), (25, 7)] q q_9 := by rw [eq_9]; exact hFq_5.f (by decide)
  have w_10 : Int32.toInt (q_9.1 0 13) = Int32.toInt r_4 := by rw [eq_9, cui_e]
  refine dOk_eq (A := Int32.toInt (q_9.1 0 13)) (B := (-1)) rfl (by decide) (fun c_11z c_11 => ?_) (fun c_12z c_12 => ?_)
  · refine dOk_V (ok_X9_seated_s0 q_9 hTq_9) (fun q_14 h_15 => ?_)
    replace h_15 : (TC q_14) ∧ (cFr [21] [(20, 2)] q_9 q_14) := h_15
    obtain ⟨i_16, i_17⟩ := h_15
    have hFq_14 : cFr [3, 4, 12, 14, 19, 21, 23, 26, 27, 28, 29, 30, 31, 48] [(0, 12), (0, 13), (0, 15), (0, 18), (2, 2), (2, 3), (2, 4), (10, 2), (10, 5), (18, 1), (20, 2), (22, 2), (22, 3), (24, 0), (24, 1), (24, 2), (24, 3), (24, 4), (24, 5), (24, 6), (24, 7), (24, 8), (24, 9), (24, 10), (25, 6), (25, 7)] q q_14 := hFq_9.t i_17 (by decide) (by decide)
    refine dOk_B (ok_X5_run_s22_s25_s2_s20_s10 q_14 i_16) (fun r_18 q_19 h_20 => ?_)
    replace h_20 : (TC q_19) ∧ (cFr [3, 4, 12, 14, 19, 21, 23] [(2, 2), (2, 3), (2, 4), (10, 2), (10, 5), (18, 1), (22, 2), (22, 3)] q_14 q_19) := h_20
    obtain ⟨i_21, i_22⟩ := h_20
    have hFq_19 : cFr [3, 4, 12, 14, 19, 21, 23, 26, 27, 28, 29, 30, 31, 48] [(0, 12), (0, 13), (0, 15), (0, 18), (2, 2), (2, 3), (2, 4), (10, 2), (10, 5), (18, 1), (20, 2), (22, 2), (22, 3), (24, 0), (24, 1), (24, 2), (24, 3), (24, 4), (24, 5), (24, 6), (24, 7), (24, 8), (24, 9), (24, 10), (25, 6), (25, 7)] q q_19 := hFq_14.t i_22 (by decide) (by decide)
    refine dOk_L (fun q_23 eq_23 => ?_)
    have hTq_23 : TC q_23 := by rw [eq_23]; exact sa_0_15 i_21
    have hFq_23 : cFr [3, 4, 12, 14, 19, 21, 23, 26, 27, 28, 29, 30, 31, 48] [(0, 12), (0, 13), (0, 15), (0, 18), (2, 2), (2, 3), (2, 4), (10, 2), (10, 5), (18, 1), (20, 2), (22, 2), (22, 3), (24, 0), (24, 1), (24, 2), (24, 3), (24, 4), (24, 5), (24, 6), (24, 7), (24, 8), (24, 9), (24, 10), (25, 6), (25, 7)] q q_23 := by rw [eq_23]; exact hFq_19.f (by decide)
    have w_24 : Int32.toInt (q_23.1 0 15) = Int32.toInt r_18 := by rw [eq_23, cui_e]
    refine dOk_eq (A := Int32.toInt (q_23.1 0 15)) (B := (-1)) rfl (by decide) (fun c_25z c_25 => ?_) (fun c_26z c_26 => ?_)
    · have w_28 : Int32.toInt (q_23.1 22 2) = Int32.toInt (q_19.1 22 2) := by rw [eq_23, cui_o (by decide)]
      refine dOk_B (ok_X9_accept_s0 q_23 (q_23.1 22 2) hTq_23) (fun r_29 q_30 h_31 => ?_)
      replace h_31 : (TC q_30) ∧ (cFr [] [(0, 18)] q_23 q_30) ∧ (Int32.toInt r_29 = Int32.toInt (q_23.1 22 2)) := h_31
      obtain ⟨i_32, i_33, i_34⟩ := h_31
      have hFq_30 : cFr [3, 4, 12, 14, 19, 21, 23, 26, 27, 28, 29, 30, 31, 48] [(0, 12), (0, 13), (0, 15), (0, 18), (2, 2), (2, 3), (2, 4), (10, 2), (10, 5), (18, 1), (20, 2), (22, 2), (22, 3), (24, 0), (24, 1), (24, 2), (24, 3), (24, 4), (24, 5), (24, 6), (24, 7), (24, 8), (24, 9), (24, 10), (25, 6), (25, 7)] q q_30 := hFq_23.t i_33 (by decide) (by decide)
      unfold zX9_orders_s0_109
      have f_35 : 0 ≤ Int32.toInt (q_30.1 0 12) ∧ Int32.toInt (q_30.1 0 12) ≤ 400 := rg_0_12 i_32
      have f_36 : 0 ≤ Int32.toInt (q_23.1 0 12) ∧ Int32.toInt (q_23.1 0 12) ≤ 400 := rg_0_12 hTq_23
      have f_37 : 0 ≤ Int32.toInt (q_19.1 0 12) ∧ Int32.toInt (q_19.1 0 12) ≤ 400 := rg_0_12 i_21
      have f_38 : 0 ≤ Int32.toInt (q_14.1 0 12) ∧ Int32.toInt (q_14.1 0 12) ≤ 400 := rg_0_12 i_16
      have f_39 : 0 ≤ Int32.toInt (q_9.1 0 12) ∧ Int32.toInt (q_9.1 0 12) ≤ 400 := rg_0_12 hTq_9
      have f_40 : 0 ≤ Int32.toInt (q_5.1 0 12) ∧ Int32.toInt (q_5.1 0 12) ≤ 400 := rg_0_12 i_7
      have f_41 : 0 ≤ Int32.toInt (q_2.1 0 12) ∧ Int32.toInt (q_2.1 0 12) ≤ 400 := rg_0_12 hTq_2
      have f_42 : 0 ≤ Int32.toInt (q_1.1 0 12) ∧ Int32.toInt (q_1.1 0 12) ≤ 400 := rg_0_12 hTq_1
      have w_43 : Int32.toInt (q_1.1 0 12) = (0 : Int) := by rw [eq_1, cui_e]; decide
      have w_44 : Int32.toInt (q_2.1 0 12) = Int32.toInt (q_1.1 0 12) := by rw [eq_2, cui_n (by decide)]
      have w_45 : Int32.toInt (q_5.1 0 12) = Int32.toInt (q_2.1 0 12) := by rw [i_8.1 0 12 (by decide) (by decide)]
      have w_46 : Int32.toInt (q_9.1 0 12) = Int32.toInt (q_5.1 0 12) := by rw [eq_9, cui_n (by decide)]
      have w_47 : Int32.toInt (q_14.1 0 12) = Int32.toInt (q_9.1 0 12) := by rw [i_17.1 0 12 (by decide) (by decide)]
      have w_48 : Int32.toInt (q_19.1 0 12) = Int32.toInt (q_14.1 0 12) := by rw [i_22.1 0 12 (by decide) (by decide)]
      have w_49 : Int32.toInt (q_23.1 0 12) = Int32.toInt (q_19.1 0 12) := by rw [eq_23, cui_n (by decide)]
      have w_50 : Int32.toInt (q_30.1 0 12) = Int32.toInt (q_23.1 0 12) := by rw [i_33.1 0 12 (by decide) (by decide)]
      exact dOk_some (show (TC q_30) ∧ (cFr [3, 4, 12, 14, 19, 21, 23, 26, 27, 28, 29, 30, 31, 48] [(0, 12), (0, 13), (0, 15), (0, 18), (2, 2), (2, 3), (2, 4), (10, 2), (10, 5), (18, 1), (20, 2), (22, 2), (22, 3), (24, 0), (24, 1), (24, 2), (24, 3), (24, 4), (24, 5), (24, 6), (24, 7), (24, 8), (24, 9), (24, 10), (25, 6), (25, 7)] q q_30) ∧ (Int32.toInt (q_30.1 0 12) = 0) from ⟨i_32, hFq_30, by omega⟩)
    · refine dOk_B (ok_X9_refuse_s0 q_23 (-3) hTq_23) (fun r_51 q_52 h_53 => ?_)
      replace h_53 : (TC q_52) ∧ (cFr [48] [(0, 18)] q_23 q_52) ∧ (Int32.toInt r_51 = (-3 : Int)) := h_53
      obtain ⟨i_54, i_55, i_56⟩ := h_53
      have hFq_52 : cFr [3, 4, 12, 14, 19, 21, 23, 26, 27, 28, 29, 30, 31, 48] [(0, 12), (0, 13), (0, 15), (0, 18), (2, 2), (2, 3), (2, 4), (10, 2), (10, 5), (18, 1), (20, 2), (22, 2), (22, 3), (24, 0), (24, 1), (24, 2), (24, 3), (24, 4), (24, 5), (24, 6), (24, 7), (24, 8), (24, 9), (24, 10), (25, 6), (25, 7)] q q_52 := hFq_23.t i_55 (by decide) (by decide)
      unfold zX9_orders_s0_109
      have f_57 : 0 ≤ Int32.toInt (q_52.1 0 12) ∧ Int32.toInt (q_52.1 0 12) ≤ 400 := rg_0_12 i_54
      have f_58 : 0 ≤ Int32.toInt (q_23.1 0 12) ∧ Int32.toInt (q_23.1 0 12) ≤ 400 := rg_0_12 hTq_23
      have f_59 : 0 ≤ Int32.toInt (q_19.1 0 12) ∧ Int32.toInt (q_19.1 0 12) ≤ 400 := rg_0_12 i_21
      have f_60 : 0 ≤ Int32.toInt (q_14.1 0 12) ∧ Int32.toInt (q_14.1 0 12) ≤ 400 := rg_0_12 i_16
      have f_61 : 0 ≤ Int32.toInt (q_9.1 0 12) ∧ Int32.toInt (q_9.1 0 12) ≤ 400 := rg_0_12 hTq_9
      have f_62 : 0 ≤ Int32.toInt (q_5.1 0 12) ∧ Int32.toInt (q_5.1 0 12) ≤ 400 := rg_0_12 i_7
      have f_63 : 0 ≤ Int32.toInt (q_2.1 0 12) ∧ Int32.toInt (q_2.1 0 12) ≤ 400 := rg_0_12 hTq_2
      have f_64 : 0 ≤ Int32.toInt (q_1.1 0 12) ∧ Int32.toInt (q_1.1 0 12) ≤ 400 := rg_0_12 hTq_1
      have w_65 : Int32.toInt (q_1.1 0 12) = (0 : Int) := by rw [eq_1, cui_e]; decide
      have w_66 : Int32.toInt (q_2.1 0 12) = Int32.toInt (q_1.1 0 12) := by rw [eq_2, cui_n (by decide)]
      have w_67 : Int32.toInt (q_5.1 0 12) = Int32.toInt (q_2.1 0 12) := by rw [i_8.1 0 12 (by decide) (by decide)]
      have w_68 : Int32.toInt (q_9.1 0 12) = Int32.toInt (q_5.1 0 12) := by rw [eq_9, cui_n (by decide)]
      have w_69 : Int32.toInt (q_14.1 0 12) = Int32.toInt (q_9.1 0 12) := by rw [i_17.1 0 12 (by decide) (by decide)]
      have w_70 : Int32.toInt (q_19.1 0 12) = Int32.toInt (q_14.1 0 12) := by rw [i_22.1 0 12 (by decide) (by decide)]
      have w_71 : Int32.toInt (q_23.1 0 12) = Int32.toInt (q_19.1 0 12) := by rw [eq_23, cui_n (by decide)]
      have w_72 : Int32.toInt (q_52.1 0 12) = Int32.toInt (q_23.1 0 12) := by rw [i_55.1 0 12 (by decide) (by decide)]
      exact dOk_some (show (TC q_52) ∧ (cFr [3, 4, 12, 14, 19, 21, 23, 26, 27, 28, 29, 30, 31, 48] [(0, 12), (0, 13), (0, 15), (0, 18), (2, 2), (2, 3), (2, 4), (10, 2), (10, 5), (18, 1), (20, 2), (22, 2), (22, 3), (24, 0), (24, 1), (24, 2), (24, 3), (24, 4), (24, 5), (24, 6), (24, 7), (24, 8), (24, 9), (24, 10), (25, 6), (25, 7)] q q_52) ∧ (Int32.toInt (q_52.1 0 12) = 0) from ⟨i_54, hFq_52, by omega⟩)
  · refine dOk_B (ok_X9_refuse_s0 q_9 (-6) hTq_9) (fun r_73 q_74 h_75 => ?_)
    replace h_75 : (TC q_74) ∧ (cFr [48] [(0, 18)] q_9 q_74) ∧ (Int32.toInt r_73 = (-6 : Int)) := h_75
    obtain ⟨i_76, i_77, i_78⟩ := h_75
    have hFq_74 : cFr [3, 4, 12, 14, 19, 21, 23, 26, 27, 28, 29, 30, 31, 48] [(0, 12), (0, 13), (0, 15), (0, 18), (2, 2), (2, 3), (2, 4), (10, 2), (10, 5), (18, 1), (20, 2), (22, 2), (22, 3), (24, 0), (24, 1), (24, 2), (24, 3), (24, 4), (24, 5), (24, 6), (24, 7), (24, 8), (24, 9), (24, 10), (25, 6), (25, 7)] q q_74 := hFq_9.t i_77 (by decide) (by decide)
    have f_79 : 0 ≤ Int32.toInt (q_74.1 0 12) ∧ Int32.toInt (q_74.1 0 12) ≤ 400 := rg_0_12 i_76
    have f_80 : 0 ≤ Int32.toInt (q_9.1 0 12) ∧ Int32.toInt (q_9.1 0 12) ≤ 400 := rg_0_12 hTq_9
    have f_81 : 0 ≤ Int32.toInt (q_5.1 0 12) ∧ Int32.toInt (q_5.1 0 12) ≤ 400 := rg_0_12 i_7
    have f_82 : 0 ≤ Int32.toInt (q_2.1 0 12) ∧ Int32.toInt (q_2.1 0 12) ≤ 400 := rg_0_12 hTq_2
    have f_83 : 0 ≤ Int32.toInt (q_1.1 0 12) ∧ Int32.toInt (q_1.1 0 12) ≤ 400 := rg_0_12 hTq_1
    have w_84 : Int32.toInt (q_1.1 0 12) = (0 : Int) := by rw [eq_1, cui_e]; decide
    have w_85 : Int32.toInt (q_2.1 0 12) = Int32.toInt (q_1.1 0 12) := by rw [eq_2, cui_n (by decide)]
    have w_86 : Int32.toInt (q_5.1 0 12) = Int32.toInt (q_2.1 0 12) := by rw [i_8.1 0 12 (by decide) (by decide)]
    have w_87 : Int32.toInt (q_9.1 0 12) = Int32.toInt (q_5.1 0 12) := by rw [eq_9, cui_n (by decide)]
    have w_88 : Int32.toInt (q_74.1 0 12) = Int32.toInt (q_9.1 0 12) := by rw [i_77.1 0 12 (by decide) (by decide)]
    exact dOk_some (show (TC q_74) ∧ (cFr [3, 4, 12, 14, 19, 21, 23, 26, 27, 28, 29, 30, 31, 48] [(0, 12), (0, 13), (0, 15), (0, 18), (2, 2), (2, 3), (2, 4), (10, 2), (10, 5), (18, 1), (20, 2), (22, 2), (22, 3), (24, 0), (24, 1), (24, 2), (24, 3), (24, 4), (24, 5), (24, 6), (24, 7), (24, 8), (24, 9), (24, 10), (25, 6), (25, 7)] q q_74) ∧ (Int32.toInt (q_74.1 0 12) = 0) from ⟨i_76, hFq_74, by omega⟩)
