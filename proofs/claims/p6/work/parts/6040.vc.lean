set_option maxHeartbeats 4000000 in
set_option maxRecDepth 100000 in
theorem ok_X3_nearest_s32 (q : dK) (p1 : Int32) (p2 : Int32) (hT : TC q) (hp0 : LD q) (hp1 : 0 ≤ Int32.toInt (q.1 32 15)) (hp2 : Int32.toInt (q.1 32 15) < Int32.toInt (q.1 32 14)) : dOk (zX3_nearest_s32 q p1 p2) (fun (o : Int32 × dK) => (TC o.2) ∧ (cFr [43, 44] [(32, 19)] q o.2)) := by
  unfold zX3_nearest_s32
  have hLs := ld_sz hp0
  refine dOk_L (fun q_1 eq_1 => ?_)
  have hTq_1 : TC q_1 := by rw [eq_1]; exact tc_cfi hT (by decide)
  have hFq_1 : cFr [43, 44] [(32, 19)] q q_1 := by rw [eq_1]; exact (cFr.rf (q := q)).g (by decide)
  have f_2 : 0 ≤ Int32.toInt (q_1.1 32 15) ∧ Int32.toInt (q_1.1 32 15) ≤ 46079 := rg_32_15 hTq_1
  have f_3 : 0 ≤ Int32.toInt (q.1 32 15) ∧ Int32.toInt (q.1 32 15) ≤ 46079 := rg_32_15 hT
  have w_4 : Int32.toInt (q_1.1 32 15) = Int32.toInt (q.1 32 15) := by rw [eq_1]; rfl
  have f_5 : 0 ≤ Int32.toInt (q_1.1 32 104) ∧ Int32.toInt (q_1.1 32 104) ≤ 46080 := rg_32_104 hTq_1
  have f_6 : 0 ≤ Int32.toInt (q.1 32 104) ∧ Int32.toInt (q.1 32 104) ≤ 46080 := rg_32_104 hT
  have w_7 : Int32.toInt (q_1.1 32 104) = Int32.toInt (q.1 32 104) := by rw [eq_1]; rfl
  refine dOk_G (dg_ok (show 0 ≤ Int32.toInt (q_1.1 32 15) by omega) (show Int32.toInt (q_1.1 32 15) < ((Int32.toNatClampNeg (q_1.1 32 104) : Nat) : Int) by rw [cl_eq (show 0 ≤ Int32.toInt (q_1.1 32 104) by omega)]; omega)) ?_
  have n_8 : ((Int32.toNatClampNeg (q_1.1 32 15) : Nat) : Int) = Int32.toInt (q_1.1 32 15) := cl_eq (by omega)
  refine dOk_L (fun q_9 eq_9 => ?_)
  have hTq_9 : TC q_9 := by rw [eq_9]; exact sa_43 hTq_1
  have hFq_9 : cFr [43, 44] [(32, 19)] q q_9 := by rw [eq_9]; exact hFq_1.i (by decide)
  have f_10 : 0 ≤ Int32.toInt (q_9.1 32 105) ∧ Int32.toInt (q_9.1 32 105) ≤ 46080 := rg_32_105 hTq_9
  have f_11 : 0 ≤ Int32.toInt (q_1.1 32 105) ∧ Int32.toInt (q_1.1 32 105) ≤ 46080 := rg_32_105 hTq_1
  have f_12 : 0 ≤ Int32.toInt (q.1 32 105) ∧ Int32.toInt (q.1 32 105) ≤ 46080 := rg_32_105 hT
  have w_13 : Int32.toInt (q_1.1 32 105) = Int32.toInt (q.1 32 105) := by rw [eq_1]; rfl
  try have w_14 : Int32.toInt (q_9.1 32 105) = Int32.toInt (q_1.1 32 105) := by rw [eq_9, cui_o (by decide)]
  refine dOk_G (dg_ok (show 0 ≤ (0 : Int) by omega) (show (0 : Int) < ((Int32.toNatClampNeg (q_9.1 32 105) : Nat) : Int) by rw [cl_eq (show 0 ≤ Int32.toInt (q_9.1 32 105) by omega)]; omega)) ?_
  refine dOk_L (fun q_15 eq_15 => ?_)
  have hTq_15 : TC q_15 := by rw [eq_15]; exact sa_44 hTq_9
  have hFq_15 : cFr [43, 44] [(32, 19)] q q_15 := by rw [eq_15]; exact hFq_9.i (by decide)
  have f_16 : 0 ≤ Int32.toInt (q_9.1 32 15) ∧ Int32.toInt (q_9.1 32 15) ≤ 46079 := rg_32_15 hTq_9
  try have w_17 : Int32.toInt (q_9.1 32 15) = Int32.toInt (q_1.1 32 15) := by rw [eq_9, cui_o (by decide)]
  have f_18 : 0 ≤ Int32.toInt (q_9.1 32 14) ∧ Int32.toInt (q_9.1 32 14) ≤ 46080 := rg_32_14 hTq_9
  have f_19 : 0 ≤ Int32.toInt (q_1.1 32 14) ∧ Int32.toInt (q_1.1 32 14) ≤ 46080 := rg_32_14 hTq_1
  have f_20 : 0 ≤ Int32.toInt (q.1 32 14) ∧ Int32.toInt (q.1 32 14) ≤ 46080 := rg_32_14 hT
  have w_21 : Int32.toInt (q_1.1 32 14) = Int32.toInt (q.1 32 14) := by rw [eq_1]; rfl
  try have w_22 : Int32.toInt (q_9.1 32 14) = Int32.toInt (q_1.1 32 14) := by rw [eq_9, cui_o (by decide)]
  have hB_23 : BL q_15 (0 + 1) := by rw [eq_15]; exact bl_p (n := 0) bl_0 (show ((0 : Nat) : Int) = 0 by omega) (show 0 ≤ Int32.toInt (q_9.1 32 15) by omega) (show Int32.toInt (q_9.1 32 15) < Int32.toInt (q_9.1 32 14) by omega)
  refine dOk_L (fun q_24 eq_24 => ?_)
  have hTq_24 : TC q_24 := by rw [eq_24]; exact sa_32_19 hTq_15
  have hFq_24 : cFr [43, 44] [(32, 19)] q q_24 := by rw [eq_24]; exact hFq_15.f (by decide)
  have hB_25 : BL q_24 (0 + 1) := by rw [eq_24]; exact bl_o hB_23 rfl
  unfold zX3_nearest_s32_35
  refine dFix_ok (fun (a : dK × Int32 × Int32 × Int32) => (TC a.1) ∧ (cFr [43, 44] [(32, 19)] q_24 a.1) ∧ (a.2.1 = p1) ∧ (a.2.2.1 = p2) ∧ (0 ≤ Int32.toInt a.2.2.2) ∧ (Int32.toInt a.2.2.2 ≤ Int32.toInt (a.1.1 32 19)) ∧ (Int32.toInt (a.1.1 32 19) ≤ Int32.toInt (q_24.1 32 14)) ∧ (BL a.1 (Int32.toInt (a.1.1 32 19)))) (fun (a : dK × Int32 × Int32 × Int32) => (Int32.toInt (q_24.1 32 14) - Int32.toInt a.2.2.2).toNat) ?_ _ ?_ _ (dF_gt ?_)
  · intro a ha k_27 hk_26
    obtain ⟨q_28, x1_29, x2_30, x3_31⟩ := a
    replace ha : (TC q_28) ∧ (cFr [43, 44] [(32, 19)] q_24 q_28) ∧ (x1_29 = p1) ∧ (x2_30 = p2) ∧ (0 ≤ Int32.toInt x3_31) ∧ (Int32.toInt x3_31 ≤ Int32.toInt (q_28.1 32 19)) ∧ (Int32.toInt (q_28.1 32 19) ≤ Int32.toInt (q_24.1 32 14)) ∧ (BL q_28 (Int32.toInt (q_28.1 32 19))) := ha
    obtain ⟨a_32, a_33, a_34, a_35, a_36, a_37, a_38, a_39⟩ := ha
    show dOk (zX3_nearest_s32_35b  (fun q x1 x2 x3 => k_27 (q, x1, x2, x3)) q_28 x1_29 x2_30 x3_31) _
    unfold zX3_nearest_s32_35b
    have hFq_28 : cFr [43, 44] [(32, 19)] q q_28 := hFq_24.t a_33 (by decide) (by decide)
    subst x1_29
    subst x2_30
    have f_40 : 0 ≤ Int32.toInt (q_24.1 32 14) ∧ Int32.toInt (q_24.1 32 14) ≤ 46080 := rg_32_14 hTq_24
    have f_41 : 0 ≤ Int32.toInt (q_15.1 32 14) ∧ Int32.toInt (q_15.1 32 14) ≤ 46080 := rg_32_14 hTq_15
    have w_42 : Int32.toInt (q_15.1 32 14) = Int32.toInt (q_9.1 32 14) := by rw [eq_15, cui_o (by decide)]
    have w_43 : Int32.toInt (q_24.1 32 14) = Int32.toInt (q_15.1 32 14) := by rw [eq_24, cui_n (by decide)]
    have f_44 : 0 ≤ Int32.toInt (q_28.1 32 14) ∧ Int32.toInt (q_28.1 32 14) ≤ 46080 := rg_32_14 a_32
    have w_45 : Int32.toInt (q_28.1 32 14) = Int32.toInt (q_24.1 32 14) := by rw [a_33.1 32 14 (by decide) (by decide)]
    refine dOk_le (A := Int32.toInt (q_28.1 32 14)) (B := Int32.toInt x3_31) rfl rfl (fun c_46 => ?_) (fun c_47 => ?_)
    · unfold zX3_nearest_s32_187
      exact dOk_some (show (TC q_28) ∧ (cFr [43, 44] [(32, 19)] q q_28) from ⟨a_32, hFq_28⟩)
    · refine dOk_le (A := Int32.toInt (q_28.1 32 19)) (B := Int32.toInt x3_31) rfl rfl (fun c_48 => ?_) (fun c_49 => ?_)
      · unfold zX3_nearest_s32_187
        exact dOk_some (show (TC q_28) ∧ (cFr [43, 44] [(32, 19)] q q_28) from ⟨a_32, hFq_28⟩)
      · have f_50 : 0 ≤ Int32.toInt (q_28.1 32 105) ∧ Int32.toInt (q_28.1 32 105) ≤ 46080 := rg_32_105 a_32
        have f_51 : 0 ≤ Int32.toInt (q_24.1 32 105) ∧ Int32.toInt (q_24.1 32 105) ≤ 46080 := rg_32_105 hTq_24
        have f_52 : 0 ≤ Int32.toInt (q_15.1 32 105) ∧ Int32.toInt (q_15.1 32 105) ≤ 46080 := rg_32_105 hTq_15
        have w_53 : Int32.toInt (q_15.1 32 105) = Int32.toInt (q_9.1 32 105) := by rw [eq_15, cui_o (by decide)]
        have w_54 : Int32.toInt (q_24.1 32 105) = Int32.toInt (q_15.1 32 105) := by rw [eq_24, cui_n (by decide)]
        have w_55 : Int32.toInt (q_28.1 32 105) = Int32.toInt (q_24.1 32 105) := by rw [a_33.1 32 105 (by decide) (by decide)]
        refine dOk_G (dg_ok (show 0 ≤ Int32.toInt x3_31 by omega) (show Int32.toInt x3_31 < ((Int32.toNatClampNeg (q_28.1 32 105) : Nat) : Int) by rw [cl_eq (show 0 ≤ Int32.toInt (q_28.1 32 105) by omega)]; omega)) ?_
        have n_56 : ((Int32.toNatClampNeg x3_31 : Nat) : Int) = Int32.toInt x3_31 := cl_eq (by omega)
        refine dOk_L (fun v_57 ev_57 => ?_)
        have f_58 : 0 ≤ Int32.toInt v_57 ∧ Int32.toInt v_57 < Int32.toInt (q_28.1 32 14) := by rw [ev_57]; exact a_39 _ (show ((Int32.toNatClampNeg x3_31 : Nat) : Int) < Int32.toInt (q_28.1 32 19) by omega)
        refine dOk_B (ok_X3_fits_s32 q_28 v_57 p1 p2 a_32 (ld_fr hp0 hFq_28 rfl) (show 0 ≤ Int32.toInt v_57 by omega) (show Int32.toInt v_57 < Int32.toInt (q_28.1 32 14) by omega)) (fun r_59 q_60 h_61 => ?_)
        replace h_61 : (q_60 = q_28) ∧ ((Int32.toInt r_59 = 0 ∨ Int32.toInt r_59 = 1)) := h_61
        obtain ⟨i_62, i_63⟩ := h_61
        subst q_60
        refine dOk_eq (A := Int32.toInt r_59) (B := 0) rfl (by decide) (fun c_64z c_64 => ?_) (fun c_65z c_65 => ?_)
        · unfold zX3_nearest_s32_81
          refine dFix_ok (fun (a : dK × Int32 × Int32 × Int32 × Int32 × Int32) => (TC a.1) ∧ (cFr [43, 44] [(32, 19)] q_28 a.1) ∧ (a.2.1 = p1) ∧ (a.2.2.1 = p2) ∧ (a.2.2.2.1 = x3_31) ∧ (a.2.2.2.2.1 = v_57) ∧ (1 ≤ Int32.toInt a.2.2.2.2.2) ∧ (Int32.toInt a.2.2.2.2.2 ≤ 7) ∧ (Int32.toInt a.2.2.2.1 < Int32.toInt (a.1.1 32 19)) ∧ (Int32.toInt (a.1.1 32 19) ≤ Int32.toInt (q_28.1 32 14)) ∧ (BL a.1 (Int32.toInt (a.1.1 32 19)))) (fun (a : dK × Int32 × Int32 × Int32 × Int32 × Int32) => (7 - Int32.toInt a.2.2.2.2.2).toNat) ?_ _ ?_ _ (dF_gt ?_)
          · intro a ha k_68 hk_67
            obtain ⟨q_69, x1_70, x2_71, x3_72, x4_73, x5_74⟩ := a
            replace ha : (TC q_69) ∧ (cFr [43, 44] [(32, 19)] q_28 q_69) ∧ (x1_70 = p1) ∧ (x2_71 = p2) ∧ (x3_72 = x3_31) ∧ (x4_73 = v_57) ∧ (1 ≤ Int32.toInt x5_74) ∧ (Int32.toInt x5_74 ≤ 7) ∧ (Int32.toInt x3_72 < Int32.toInt (q_69.1 32 19)) ∧ (Int32.toInt (q_69.1 32 19) ≤ Int32.toInt (q_28.1 32 14)) ∧ (BL q_69 (Int32.toInt (q_69.1 32 19))) := ha
            obtain ⟨a_75, a_76, a_77, a_78, a_79, a_80, a_81, a_82, a_83, a_84, a_85⟩ := ha
            show dOk (zX3_nearest_s32_81b _ (fun q x1 x2 x3 x4 x5 => k_68 (q, x1, x2, x3, x4, x5)) q_69 x1_70 x2_71 x3_72 x4_73 x5_74) _
            unfold zX3_nearest_s32_81b
            have hFq_69 : cFr [43, 44] [(32, 19)] q q_69 := hFq_28.t a_76 (by decide) (by decide)
            subst x1_70
            subst x2_71
            subst x3_72
            subst x4_73
            have f_86 : 0 ≤ Int32.toInt (q_69.1 32 13) ∧ Int32.toInt (q_69.1 32 13) ≤ 6 := rg_32_13 a_75
            have f_87 : 0 ≤ Int32.toInt (q_28.1 32 13) ∧ Int32.toInt (q_28.1 32 13) ≤ 6 := rg_32_13 a_32
            have f_88 : 0 ≤ Int32.toInt (q_24.1 32 13) ∧ Int32.toInt (q_24.1 32 13) ≤ 6 := rg_32_13 hTq_24
            have f_89 : 0 ≤ Int32.toInt (q_15.1 32 13) ∧ Int32.toInt (q_15.1 32 13) ≤ 6 := rg_32_13 hTq_15
            have f_90 : 0 ≤ Int32.toInt (q_9.1 32 13) ∧ Int32.toInt (q_9.1 32 13) ≤ 6 := rg_32_13 hTq_9
            have f_91 : 0 ≤ Int32.toInt (q_1.1 32 13) ∧ Int32.toInt (q_1.1 32 13) ≤ 6 := rg_32_13 hTq_1
            have f_92 : 0 ≤ Int32.toInt (q.1 32 13) ∧ Int32.toInt (q.1 32 13) ≤ 6 := rg_32_13 hT
            have w_93 : Int32.toInt (q_1.1 32 13) = Int32.toInt (q.1 32 13) := by rw [eq_1]; rfl
            try have w_94 : Int32.toInt (q_9.1 32 13) = Int32.toInt (q_1.1 32 13) := by rw [eq_9, cui_o (by decide)]
            have w_95 : Int32.toInt (q_15.1 32 13) = Int32.toInt (q_9.1 32 13) := by rw [eq_15, cui_o (by decide)]
            have w_96 : Int32.toInt (q_24.1 32 13) = Int32.toInt (q_15.1 32 13) := by rw [eq_24, cui_n (by decide)]
            have w_97 : Int32.toInt (q_28.1 32 13) = Int32.toInt (q_24.1 32 13) := by rw [a_33.1 32 13 (by decide) (by decide)]
            have w_98 : Int32.toInt (q_69.1 32 13) = Int32.toInt (q_28.1 32 13) := by rw [a_76.1 32 13 (by decide) (by decide)]
            refine dOk_lt (A := Int32.toInt (q_69.1 32 13)) (B := Int32.toInt x5_74) rfl rfl (fun c_99 => ?_) (fun c_100 => ?_)
            · try have t_101 : Int32.toInt (x3_31 + 1) = Int32.toInt x3_31 + 1 := ti_add rfl (by decide) (by omega) (by omega)
              exact hk_26 (q_69, p1, p2, (x3_31 + 1)) (show (TC q_69) ∧ (cFr [43, 44] [(32, 19)] q_24 q_69) ∧ (p1 = p1) ∧ (p2 = p2) ∧ (0 ≤ Int32.toInt (x3_31 + 1)) ∧ (Int32.toInt (x3_31 + 1) ≤ Int32.toInt (q_69.1 32 19)) ∧ (Int32.toInt (q_69.1 32 19) ≤ Int32.toInt (q_24.1 32 14)) ∧ (BL q_69 (Int32.toInt (q_69.1 32 19))) from ⟨a_75, ((((cFr.rf : cFr [43, 44] [(32, 19)] q_24 q_24).t a_33 (by decide) (by decide)) : cFr [43, 44] [(32, 19)] q_24 q_28).t a_76 (by decide) (by decide)), rfl, rfl, by omega, by omega, by omega, bl_c (n := Int32.toInt (q_69.1 32 19)) a_85 (show Int32.toInt (q_69.1 32 19) ≤ Int32.toInt (q_69.1 32 19) by omega)⟩) (show (Int32.toInt (q_24.1 32 14) - Int32.toInt (x3_31 + 1)).toNat < (Int32.toInt (q_24.1 32 14) - Int32.toInt x3_31).toNat by omega)
            · have f_102 : 0 ≤ Int32.toInt (q_69.1 32 14) ∧ Int32.toInt (q_69.1 32 14) ≤ 46080 := rg_32_14 a_75
              have w_103 : Int32.toInt (q_69.1 32 14) = Int32.toInt (q_28.1 32 14) := by rw [a_76.1 32 14 (by decide) (by decide)]
              refine dOk_B (ok_X3_turned_s32 q_69 v_57 x5_74 a_75 (ld_fr hp0 hFq_69 rfl) (show 0 ≤ Int32.toInt v_57 by omega) (show Int32.toInt v_57 < Int32.toInt (q_69.1 32 14) by omega)) (fun r_104 q_105 h_106 => ?_)
              replace h_106 : (q_105 = q_69) ∧ (0 ≤ Int32.toInt r_104) ∧ (Int32.toInt r_104 < Int32.toInt (q_69.1 32 14)) := h_106
              obtain ⟨i_107, i_108, i_109⟩ := h_106
              subst q_105
              have f_110 : 0 ≤ Int32.toInt (q_69.1 32 104) ∧ Int32.toInt (q_69.1 32 104) ≤ 46080 := rg_32_104 a_75
              have f_111 : 0 ≤ Int32.toInt (q_28.1 32 104) ∧ Int32.toInt (q_28.1 32 104) ≤ 46080 := rg_32_104 a_32
              have f_112 : 0 ≤ Int32.toInt (q_24.1 32 104) ∧ Int32.toInt (q_24.1 32 104) ≤ 46080 := rg_32_104 hTq_24
              have f_113 : 0 ≤ Int32.toInt (q_15.1 32 104) ∧ Int32.toInt (q_15.1 32 104) ≤ 46080 := rg_32_104 hTq_15
              have f_114 : 0 ≤ Int32.toInt (q_9.1 32 104) ∧ Int32.toInt (q_9.1 32 104) ≤ 46080 := rg_32_104 hTq_9
              try have w_115 : Int32.toInt (q_9.1 32 104) = Int32.toInt (q_1.1 32 104) := by rw [eq_9, cui_o (by decide)]
              have w_116 : Int32.toInt (q_15.1 32 104) = Int32.toInt (q_9.1 32 104) := by rw [eq_15, cui_o (by decide)]
              have w_117 : Int32.toInt (q_24.1 32 104) = Int32.toInt (q_15.1 32 104) := by rw [eq_24, cui_n (by decide)]
              have w_118 : Int32.toInt (q_28.1 32 104) = Int32.toInt (q_24.1 32 104) := by rw [a_33.1 32 104 (by decide) (by decide)]
              have w_119 : Int32.toInt (q_69.1 32 104) = Int32.toInt (q_28.1 32 104) := by rw [a_76.1 32 104 (by decide) (by decide)]
              refine dOk_G (dg_ok (show 0 ≤ Int32.toInt r_104 by omega) (show Int32.toInt r_104 < ((Int32.toNatClampNeg (q_69.1 32 104) : Nat) : Int) by rw [cl_eq (show 0 ≤ Int32.toInt (q_69.1 32 104) by omega)]; omega)) ?_
              have n_120 : ((Int32.toNatClampNeg r_104 : Nat) : Int) = Int32.toInt r_104 := cl_eq (by omega)
              refine dOk_L (fun v_121 ev_121 => ?_)
              refine dOk_eq (A := Int32.toInt v_121) (B := (-1)) rfl (by decide) (fun c_122z c_122 => ?_) (fun c_123z c_123 => ?_)
              · refine dOk_B (ok_X3_caseOf_s32 q_69 v_57 x5_74 a_75 (ld_fr hp0 hFq_69 rfl) (show 0 ≤ Int32.toInt v_57 by omega) (show Int32.toInt v_57 < Int32.toInt (q_69.1 32 14) by omega) (show 1 ≤ Int32.toInt x5_74 by omega) (show Int32.toInt x5_74 ≤ Int32.toInt (q_69.1 32 13) by omega)) (fun r_125 q_126 h_127 => ?_)
                replace h_127 : (q_126 = q_69) ∧ (0 ≤ Int32.toInt r_125) ∧ (Int32.toInt r_125 < 504) := h_127
                obtain ⟨i_128, i_129, i_130⟩ := h_127
                subst q_126
                refine dOk_G (dg_ok (show 0 ≤ Int32.toInt r_125 by omega) (show Int32.toInt r_125 < ((504 : Nat) : Int) by omega)) ?_
                have n_131 : ((Int32.toNatClampNeg r_125 : Nat) : Int) = Int32.toInt r_125 := cl_eq (by omega)
                refine dOk_L (fun v_132 ev_132 => ?_)
                refine dOk_eq (A := Int32.toInt v_132) (B := 0) rfl (by decide) (fun c_133z c_133 => ?_) (fun c_134z c_134 => ?_)
                · refine dOk_le (A := Int32.toInt (q_69.1 32 14)) (B := Int32.toInt (q_69.1 32 19)) rfl rfl (fun c_136 => ?_) (fun c_137 => ?_)
                  · unfold zX3_nearest_s32_175
                    try have t_138 : Int32.toInt (x5_74 + 1) = Int32.toInt x5_74 + 1 := ti_add rfl (by decide) (by omega) (by omega)
                    exact hk_67 (q_69, p1, p2, x3_31, v_57, (x5_74 + 1)) (show (TC q_69) ∧ (cFr [43, 44] [(32, 19)] q_28 q_69) ∧ (p1 = p1) ∧ (p2 = p2) ∧ (x3_31 = x3_31) ∧ (v_57 = v_57) ∧ (1 ≤ Int32.toInt (x5_74 + 1)) ∧ (Int32.toInt (x5_74 + 1) ≤ 7) ∧ (Int32.toInt x3_31 < Int32.toInt (q_69.1 32 19)) ∧ (Int32.toInt (q_69.1 32 19) ≤ Int32.toInt (q_28.1 32 14)) ∧ (BL q_69 (Int32.toInt (q_69.1 32 19))) from ⟨a_75, ((cFr.rf : cFr [43, 44] [(32, 19)] q_28 q_28).t a_76 (by decide) (by decide)), rfl, rfl, rfl, rfl, by omega, by omega, by omega, by omega, bl_c (n := Int32.toInt (q_69.1 32 19)) a_85 (show Int32.toInt (q_69.1 32 19) ≤ Int32.toInt (q_69.1 32 19) by omega)⟩) (show (7 - Int32.toInt (x5_74 + 1)).toNat < (7 - Int32.toInt x5_74).toNat by omega)
                  · refine dOk_G (dg_ok (show 0 ≤ Int32.toInt v_57 by omega) (show Int32.toInt v_57 < ((Int32.toNatClampNeg (q_69.1 32 104) : Nat) : Int) by rw [cl_eq (show 0 ≤ Int32.toInt (q_69.1 32 104) by omega)]; omega)) ?_
                    have n_139 : ((Int32.toNatClampNeg v_57 : Nat) : Int) = Int32.toInt v_57 := cl_eq (by omega)
                    refine dOk_L (fun v_140 ev_140 => ?_)
                    refine dOk_G (dg_ok (show 0 ≤ Int32.toInt r_104 by omega) (show Int32.toInt r_104 < ((Int32.toNatClampNeg (q_69.1 32 104) : Nat) : Int) by rw [cl_eq (show 0 ≤ Int32.toInt (q_69.1 32 104) by omega)]; omega)) ?_
                    refine dOk_L (fun q_141 eq_141 => ?_)
                    have hTq_141 : TC q_141 := by rw [eq_141]; exact sa_43 a_75
                    have hFq_141 : cFr [43, 44] [(32, 19)] q q_141 := by rw [eq_141]; exact hFq_69.i (by decide)
                    have hB_142 : BL q_141 (Int32.toInt (q_69.1 32 19)) := by rw [eq_141]; exact bl_o a_85 rfl
                    try have w_143 : Int32.toInt (q_141.1 32 19) = Int32.toInt (q_69.1 32 19) := by rw [eq_141, cui_o (by decide)]
                    have f_144 : 0 ≤ Int32.toInt (q_141.1 32 105) ∧ Int32.toInt (q_141.1 32 105) ≤ 46080 := rg_32_105 hTq_141
                    have f_145 : 0 ≤ Int32.toInt (q_69.1 32 105) ∧ Int32.toInt (q_69.1 32 105) ≤ 46080 := rg_32_105 a_75
                    have w_146 : Int32.toInt (q_69.1 32 105) = Int32.toInt (q_28.1 32 105) := by rw [a_76.1 32 105 (by decide) (by decide)]
                    try have w_147 : Int32.toInt (q_141.1 32 105) = Int32.toInt (q_69.1 32 105) := by rw [eq_141, cui_o (by decide)]
                    refine dOk_G (dg_ok (show 0 ≤ Int32.toInt (q_141.1 32 19) by omega) (show Int32.toInt (q_141.1 32 19) < ((Int32.toNatClampNeg (q_141.1 32 105) : Nat) : Int) by rw [cl_eq (show 0 ≤ Int32.toInt (q_141.1 32 105) by omega)]; omega)) ?_
                    have n_148 : ((Int32.toNatClampNeg (q_141.1 32 19) : Nat) : Int) = Int32.toInt (q_141.1 32 19) := cl_eq (by omega)
                    refine dOk_L (fun q_149 eq_149 => ?_)
                    have hTq_149 : TC q_149 := by rw [eq_149]; exact sa_44 hTq_141
                    have hFq_149 : cFr [43, 44] [(32, 19)] q q_149 := by rw [eq_149]; exact hFq_141.i (by decide)
                    have f_150 : 0 ≤ Int32.toInt (q_141.1 32 14) ∧ Int32.toInt (q_141.1 32 14) ≤ 46080 := rg_32_14 hTq_141
                    try have w_151 : Int32.toInt (q_141.1 32 14) = Int32.toInt (q_69.1 32 14) := by rw [eq_141, cui_o (by decide)]
                    have hB_152 : BL q_149 (Int32.toInt (q_69.1 32 19) + 1) := by rw [eq_149]; exact bl_p (n := Int32.toInt (q_69.1 32 19)) hB_142 (show ((Int32.toNatClampNeg (q_141.1 32 19) : Nat) : Int) = Int32.toInt (q_69.1 32 19) by omega) (show 0 ≤ Int32.toInt r_104 by omega) (show Int32.toInt r_104 < Int32.toInt (q_141.1 32 14) by omega)
                    refine dOk_L (fun q_153 eq_153 => ?_)
                    try have w_154 : Int32.toInt (q_149.1 32 19) = Int32.toInt (q_141.1 32 19) := by rw [eq_149, cui_o (by decide)]
                    try have t_155 : Int32.toInt (q_149.1 32 19 + 1) = Int32.toInt (q_149.1 32 19) + 1 := ti_add rfl (by decide) (by omega) (by omega)
                    have hTq_153 : TC q_153 := by rw [eq_153]; exact sa_32_19 hTq_149
                    have hFq_153 : cFr [43, 44] [(32, 19)] q q_153 := by rw [eq_153]; exact hFq_149.f (by decide)
                    have hB_156 : BL q_153 (Int32.toInt (q_69.1 32 19) + 1) := by rw [eq_153]; exact bl_o hB_152 rfl
                    unfold zX3_nearest_s32_175
                    try have t_157 : Int32.toInt (x5_74 + 1) = Int32.toInt x5_74 + 1 := ti_add rfl (by decide) (by omega) (by omega)
                    have w_158 : Int32.toInt (q_153.1 32 19) = Int32.toInt (q_149.1 32 19 + 1) := by rw [eq_153, cui_e]
                    exact hk_67 (q_153, p1, p2, x3_31, v_57, (x5_74 + 1)) (show (TC q_153) ∧ (cFr [43, 44] [(32, 19)] q_28 q_153) ∧ (p1 = p1) ∧ (p2 = p2) ∧ (x3_31 = x3_31) ∧ (v_57 = v_57) ∧ (1 ≤ Int32.toInt (x5_74 + 1)) ∧ (Int32.toInt (x5_74 + 1) ≤ 7) ∧ (Int32.toInt x3_31 < Int32.toInt (q_153.1 32 19)) ∧ (Int32.toInt (q_153.1 32 19) ≤ Int32.toInt (q_28.1 32 14)) ∧ (BL q_153 (Int32.toInt (q_153.1 32 19))) from ⟨hTq_153, (by rw [eq_153]; exact ((by rw [eq_149]; exact ((by rw [eq_141]; exact (((cFr.rf : cFr [43, 44] [(32, 19)] q_28 q_28).t a_76 (by decide) (by decide)) : cFr [43, 44] [(32, 19)] q_28 q_69).i (by decide)) : cFr [43, 44] [(32, 19)] q_28 q_141).i (by decide)) : cFr [43, 44] [(32, 19)] q_28 q_149).f (by decide)), rfl, rfl, rfl, rfl, by omega, by omega, by omega, by omega, bl_c (n := Int32.toInt (q_69.1 32 19) + 1) hB_156 (show Int32.toInt (q_153.1 32 19) ≤ Int32.toInt (q_69.1 32 19) + 1 by omega)⟩) (show (7 - Int32.toInt (x5_74 + 1)).toNat < (7 - Int32.toInt x5_74).toNat by omega)
                · unfold zX3_nearest_s32_175
                  try have t_159 : Int32.toInt (x5_74 + 1) = Int32.toInt x5_74 + 1 := ti_add rfl (by decide) (by omega) (by omega)
                  exact hk_67 (q_69, p1, p2, x3_31, v_57, (x5_74 + 1)) (show (TC q_69) ∧ (cFr [43, 44] [(32, 19)] q_28 q_69) ∧ (p1 = p1) ∧ (p2 = p2) ∧ (x3_31 = x3_31) ∧ (v_57 = v_57) ∧ (1 ≤ Int32.toInt (x5_74 + 1)) ∧ (Int32.toInt (x5_74 + 1) ≤ 7) ∧ (Int32.toInt x3_31 < Int32.toInt (q_69.1 32 19)) ∧ (Int32.toInt (q_69.1 32 19) ≤ Int32.toInt (q_28.1 32 14)) ∧ (BL q_69 (Int32.toInt (q_69.1 32 19))) from ⟨a_75, ((cFr.rf : cFr [43, 44] [(32, 19)] q_28 q_28).t a_76 (by decide) (by decide)), rfl, rfl, rfl, rfl, by omega, by omega, by omega, by omega, bl_c (n := Int32.toInt (q_69.1 32 19)) a_85 (show Int32.toInt (q_69.1 32 19) ≤ Int32.toInt (q_69.1 32 19) by omega)⟩) (show (7 - Int32.toInt (x5_74 + 1)).toNat < (7 - Int32.toInt x5_74).toNat by omega)
              · unfold zX3_nearest_s32_175
                try have t_160 : Int32.toInt (x5_74 + 1) = Int32.toInt x5_74 + 1 := ti_add rfl (by decide) (by omega) (by omega)
                exact hk_67 (q_69, p1, p2, x3_31, v_57, (x5_74 + 1)) (show (TC q_69) ∧ (cFr [43, 44] [(32, 19)] q_28 q_69) ∧ (p1 = p1) ∧ (p2 = p2) ∧ (x3_31 = x3_31) ∧ (v_57 = v_57) ∧ (1 ≤ Int32.toInt (x5_74 + 1)) ∧ (Int32.toInt (x5_74 + 1) ≤ 7) ∧ (Int32.toInt x3_31 < Int32.toInt (q_69.1 32 19)) ∧ (Int32.toInt (q_69.1 32 19) ≤ Int32.toInt (q_28.1 32 14)) ∧ (BL q_69 (Int32.toInt (q_69.1 32 19))) from ⟨a_75, ((cFr.rf : cFr [43, 44] [(32, 19)] q_28 q_28).t a_76 (by decide) (by decide)), rfl, rfl, rfl, rfl, by omega, by omega, by omega, by omega, bl_c (n := Int32.toInt (q_69.1 32 19)) a_85 (show Int32.toInt (q_69.1 32 19) ≤ Int32.toInt (q_69.1 32 19) by omega)⟩) (show (7 - Int32.toInt (x5_74 + 1)).toNat < (7 - Int32.toInt x5_74).toNat by omega)
          · exact (show (TC q_28) ∧ (cFr [43, 44] [(32, 19)] q_28 q_28) ∧ (p1 = p1) ∧ (p2 = p2) ∧ (x3_31 = x3_31) ∧ (v_57 = v_57) ∧ (1 ≤ (1 : Int)) ∧ ((1 : Int) ≤ 7) ∧ (Int32.toInt x3_31 < Int32.toInt (q_28.1 32 19)) ∧ (Int32.toInt (q_28.1 32 19) ≤ Int32.toInt (q_28.1 32 14)) ∧ (BL q_28 (Int32.toInt (q_28.1 32 19))) from ⟨a_32, cFr.rf, rfl, rfl, rfl, rfl, by omega, by omega, by omega, by omega, bl_c (n := Int32.toInt (q_28.1 32 19)) a_39 (show Int32.toInt (q_28.1 32 19) ≤ Int32.toInt (q_28.1 32 19) by omega)⟩)
          · show (7 - (1 : Int)).toNat < 1000000000000
            omega
        · have f_161 : 0 ≤ Int32.toInt (q_28.1 32 104) ∧ Int32.toInt (q_28.1 32 104) ≤ 46080 := rg_32_104 a_32
          have f_162 : 0 ≤ Int32.toInt (q_24.1 32 104) ∧ Int32.toInt (q_24.1 32 104) ≤ 46080 := rg_32_104 hTq_24
          have f_163 : 0 ≤ Int32.toInt (q_15.1 32 104) ∧ Int32.toInt (q_15.1 32 104) ≤ 46080 := rg_32_104 hTq_15
          have f_164 : 0 ≤ Int32.toInt (q_9.1 32 104) ∧ Int32.toInt (q_9.1 32 104) ≤ 46080 := rg_32_104 hTq_9
          try have w_165 : Int32.toInt (q_9.1 32 104) = Int32.toInt (q_1.1 32 104) := by rw [eq_9, cui_o (by decide)]
          have w_166 : Int32.toInt (q_15.1 32 104) = Int32.toInt (q_9.1 32 104) := by rw [eq_15, cui_o (by decide)]
          have w_167 : Int32.toInt (q_24.1 32 104) = Int32.toInt (q_15.1 32 104) := by rw [eq_24, cui_n (by decide)]
          have w_168 : Int32.toInt (q_28.1 32 104) = Int32.toInt (q_24.1 32 104) := by rw [a_33.1 32 104 (by decide) (by decide)]
          refine dOk_G (dg_ok (show 0 ≤ Int32.toInt v_57 by omega) (show Int32.toInt v_57 < ((Int32.toNatClampNeg (q_28.1 32 104) : Nat) : Int) by rw [cl_eq (show 0 ≤ Int32.toInt (q_28.1 32 104) by omega)]; omega)) ?_
          have n_169 : ((Int32.toNatClampNeg v_57 : Nat) : Int) = Int32.toInt v_57 := cl_eq (by omega)
          refine dOk_L (fun v_170 ev_170 => ?_)
          exact dOk_some (show (TC q_28) ∧ (cFr [43, 44] [(32, 19)] q q_28) from ⟨a_32, hFq_28⟩)
  · have w_171 : Int32.toInt (q_24.1 32 19) = (1 : Int) := by rw [eq_24, cui_e]; decide
    have f_172 : 0 ≤ Int32.toInt (q_24.1 32 14) ∧ Int32.toInt (q_24.1 32 14) ≤ 46080 := rg_32_14 hTq_24
    have f_173 : 0 ≤ Int32.toInt (q_15.1 32 14) ∧ Int32.toInt (q_15.1 32 14) ≤ 46080 := rg_32_14 hTq_15
    have w_174 : Int32.toInt (q_15.1 32 14) = Int32.toInt (q_9.1 32 14) := by rw [eq_15, cui_o (by decide)]
    have w_175 : Int32.toInt (q_24.1 32 14) = Int32.toInt (q_15.1 32 14) := by rw [eq_24, cui_n (by decide)]
    exact (show (TC q_24) ∧ (cFr [43, 44] [(32, 19)] q_24 q_24) ∧ (p1 = p1) ∧ (p2 = p2) ∧ (0 ≤ (0 : Int)) ∧ ((0 : Int) ≤ Int32.toInt (q_24.1 32 19)) ∧ (Int32.toInt (q_24.1 32 19) ≤ Int32.toInt (q_24.1 32 14)) ∧ (BL q_24 (Int32.toInt (q_24.1 32 19))) from ⟨hTq_24, cFr.rf, rfl, rfl, by omega, by omega, by omega, bl_c (n := 0 + 1) hB_25 (show Int32.toInt (q_24.1 32 19) ≤ 0 + 1 by omega)⟩)
  · have f_176 : 0 ≤ Int32.toInt (q_24.1 32 14) ∧ Int32.toInt (q_24.1 32 14) ≤ 46080 := rg_32_14 hTq_24
    have f_177 : 0 ≤ Int32.toInt (q_15.1 32 14) ∧ Int32.toInt (q_15.1 32 14) ≤ 46080 := rg_32_14 hTq_15
    have w_178 : Int32.toInt (q_15.1 32 14) = Int32.toInt (q_9.1 32 14) := by rw [eq_15, cui_o (by decide)]
    have w_179 : Int32.toInt (q_24.1 32 14) = Int32.toInt (q_15.1 32 14) := by rw [eq_24, cui_n (by decide)]
    show (Int32.toInt (q_24.1 32 14) - (0 : Int)).toNat < 1000000000000
    omega

set_option maxHeartbeats 4000000 in
set_option maxRecDepth 100000 in
theorem ok_X3_towersReached_s32 (q : dK) (hT : TC q) (hp0 : LD q) (hp1 : 0 ≤ Int32.toInt (q.1 32 15)) (hp2 : Int32.toInt (q.1 32 15) < Int32.toInt (q.1 32 14)) : dOk (zX3_towersReached_s32 q) (fun (o : Int32 × dK) => (TC o.2) ∧ (cFr [43, 44] [(32, 19)] q o.2)) := by
  unfold zX3_towersReached_s32
  have hLs := ld_sz hp0
  have f_1 : 0 ≤ Int32.toInt (q.1 32 15) ∧ Int32.toInt (q.1 32 15) ≤ 46079 := rg_32_15 hT
  have f_2 : 0 ≤ Int32.toInt (q.1 32 14) ∧ Int32.toInt (q.1 32 14) ≤ 46080 := rg_32_14 hT
  refine dOk_B (ok_X3_nearest_s32 q 0 0 hT hp0 (show 0 ≤ Int32.toInt (q.1 32 15) by omega) (show Int32.toInt (q.1 32 15) < Int32.toInt (q.1 32 14) by omega)) (fun r_3 q_4 h_5 => ?_)
  replace h_5 : (TC q_4) ∧ (cFr [43, 44] [(32, 19)] q q_4) := h_5
  obtain ⟨i_6, i_7⟩ := h_5
  have hFq_4 : cFr [43, 44] [(32, 19)] q q_4 := (cFr.rf (q := q)).t i_7 (by decide) (by decide)
  exact dOk_some (show (TC q_4) ∧ (cFr [43, 44] [(32, 19)] q q_4) from ⟨i_6, hFq_4⟩)

set_option maxHeartbeats 4000000 in
set_option maxRecDepth 100000 in
theorem ok_X3_turnsToTop_s32 (q : dK) (p1 : Int32) (hT : TC q) (hp0 : LD q) (hp1 : 0 ≤ Int32.toInt (q.1 32 15)) (hp2 : Int32.toInt (q.1 32 15) < Int32.toInt (q.1 32 14)) : dOk (zX3_turnsToTop_s32 q p1) (fun (o : Int32 × dK) => (TC o.2) ∧ (cFr [43, 44] [(32, 19)] q o.2)) := by
  unfold zX3_turnsToTop_s32
  have hLs := ld_sz hp0
  refine dOk_B (ok_X3_indexOfRank_s32 q p1 hT) (fun r_1 q_2 h_3 => ?_)
  replace h_3 : (q_2 = q) ∧ (-1 ≤ Int32.toInt r_1 ∧ Int32.toInt r_1 ≤ 5) := h_3
  obtain ⟨i_4, i_5⟩ := h_3
  subst q_2
  have f_6 : 0 ≤ Int32.toInt (q.1 32 15) ∧ Int32.toInt (q.1 32 15) ≤ 46079 := rg_32_15 hT
  have f_7 : 0 ≤ Int32.toInt (q.1 32 14) ∧ Int32.toInt (q.1 32 14) ≤ 46080 := rg_32_14 hT
  refine dOk_B (ok_X3_nearest_s32 q 2 r_1 hT hp0 (show 0 ≤ Int32.toInt (q.1 32 15) by omega) (show Int32.toInt (q.1 32 15) < Int32.toInt (q.1 32 14) by omega)) (fun r_8 q_9 h_10 => ?_)
  replace h_10 : (TC q_9) ∧ (cFr [43, 44] [(32, 19)] q q_9) := h_10
  obtain ⟨i_11, i_12⟩ := h_10
  have hFq_9 : cFr [43, 44] [(32, 19)] q q_9 := (cFr.rf (q := q)).t i_12 (by decide) (by decide)
  exact dOk_some (show (TC q_9) ∧ (cFr [43, 44] [(32, 19)] q q_9) from ⟨i_11, hFq_9⟩)
