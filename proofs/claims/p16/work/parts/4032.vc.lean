section
set_option maxHeartbeats 4000000 in
set_option maxRecDepth 100000 in
theorem ok_laysTables (q : dS) (hT : TS q) : dOk (zX10_laysTables q) (fun (o : dS) => (TS o) ∧ (dFr [16, 17, 18, 19] [37, 38] q o) ∧ (Int32.toInt (o.1 0 37) = facI (Int32.toInt (q.1 2 29))) ∧ (Int32.toInt (o.1 0 38) = powI (Int32.toInt (q.1 2 29)))) := by
  unfold zX10_laysTables
  refine dOk_B (ok_size q hT) (fun r_1 q_2 h_3 => ?_)
  replace h_3 : (q_2 = q) ∧ (Int32.toInt r_1 = Int32.toInt (q.1 2 29)) ∧ (0 ≤ Int32.toInt r_1 ∧ Int32.toInt r_1 ≤ 6) := h_3
  obtain ⟨i_4, i_5, i_6⟩ := h_3
  subst q_2
  have f_7 : 0 ≤ Int32.toInt (q.1 2 29) ∧ Int32.toInt (q.1 2 29) ≤ 6 := hT.1 2 29
  refine dOk_V (ok_allOrders r_1 (show Int32.toInt r_1 ≤ 6 by omega)) (fun r_8 h_9 => ?_)
  replace h_9 : (((Int32.toInt r_1 ≤ 1 ∧ Int32.toInt r_8 = 1) ∨ (Int32.toInt r_1 = 2 ∧ Int32.toInt r_8 = 2) ∨ (Int32.toInt r_1 = 3 ∧ Int32.toInt r_8 = 6) ∨ (Int32.toInt r_1 = 4 ∧ Int32.toInt r_8 = 24) ∨ (Int32.toInt r_1 = 5 ∧ Int32.toInt r_8 = 120) ∨ (Int32.toInt r_1 = 6 ∧ Int32.toInt r_8 = 720))) := h_9
  have i_10 := h_9
  refine dOk_L (fun q_11 eq_11 => ?_)
  have hTq_11 : TS q_11 := by rw [eq_11]; exact ts_f hT (show 0 ≤ Int32.toInt r_8 by omega) (show Int32.toInt r_8 ≤ 720 by omega)
  have hFq_11 : dFr [16, 17, 18, 19] [37, 38] q q_11 := by rw [eq_11]; exact (dFr.rf (q := q)).f (by decide)
  refine dOk_B (ok_size q_11 hTq_11) (fun r_12 q_13 h_14 => ?_)
  replace h_14 : (q_13 = q_11) ∧ (Int32.toInt r_12 = Int32.toInt (q_11.1 2 29)) ∧ (0 ≤ Int32.toInt r_12 ∧ Int32.toInt r_12 ≤ 6) := h_14
  obtain ⟨i_15, i_16, i_17⟩ := h_14
  subst q_13
  have f_18 : 0 ≤ Int32.toInt (q_11.1 2 29) ∧ Int32.toInt (q_11.1 2 29) ≤ 6 := hTq_11.1 2 29
  have w_19 : Int32.toInt (q_11.1 2 29) = Int32.toInt (q.1 2 29) := by rw [eq_11, dui_o (by decide)]
  refine dOk_L (fun q_20 eq_20 => ?_)
  try have t_21 := ti_shlP (s := r_12) (by omega) (by omega)
  try have t_22 := ti_shl5 (x := 1) (s := r_12) (by decide) (by decide) (by omega) (by omega)
  try have t_23 := ti_shl6 (x := 1) (s := r_12) (by decide) (by decide) (by omega) (by omega)
  have hTq_20 : TS q_20 := by rw [eq_20]; exact ts_f hTq_11 (show 0 ≤ Int32.toInt (1 <<< ((r_12 : Int32) &&& 31)) by omega) (show Int32.toInt (1 <<< ((r_12 : Int32) &&& 31)) ≤ 64 by omega)
  have hFq_20 : dFr [16, 17, 18, 19] [37, 38] q q_20 := by rw [eq_20]; exact hFq_11.f (by decide)
  unfold zX10_laysTables_23
  refine dFix_ok (fun (a : dS × Int32) => (TS a.1) ∧ (dFr [16, 17, 19] [] q_20 a.1) ∧ (0 ≤ Int32.toInt a.2) ∧ (Int32.toInt a.2 ≤ 720)) (fun (a : dS × Int32) => (720 - Int32.toInt a.2).toNat) ?_ _ ?_ _ (dF_gt ?_)
  · intro a ha k_25 hk_24
    obtain ⟨q_26, x1_27⟩ := a
    replace ha : (TS q_26) ∧ (dFr [16, 17, 19] [] q_20 q_26) ∧ (0 ≤ Int32.toInt x1_27) ∧ (Int32.toInt x1_27 ≤ 720) := ha
    obtain ⟨a_28, a_29, a_30, a_31⟩ := ha
    show dOk (zX10_laysTables_23b  (fun q x1 => k_25 (q, x1)) q_26 x1_27) _
    unfold zX10_laysTables_23b
    have hFq_26 : dFr [16, 17, 18, 19] [37, 38] q q_26 := hFq_20.t a_29 (by decide) (by decide)
    have f_32 : 0 ≤ Int32.toInt (q_26.1 0 37) ∧ Int32.toInt (q_26.1 0 37) ≤ 720 := a_28.1 0 37
    have f_33 : 0 ≤ Int32.toInt (q_20.1 0 37) ∧ Int32.toInt (q_20.1 0 37) ≤ 720 := hTq_20.1 0 37
    have f_34 : 0 ≤ Int32.toInt (q_11.1 0 37) ∧ Int32.toInt (q_11.1 0 37) ≤ 720 := hTq_11.1 0 37
    have w_35 : Int32.toInt (q_11.1 0 37) = Int32.toInt r_8 := by rw [eq_11, dui_e]
    have w_36 : Int32.toInt (q_20.1 0 37) = Int32.toInt (q_11.1 0 37) := by rw [eq_20, dui_n (by decide)]
    have w_37 : Int32.toInt (q_26.1 0 37) = Int32.toInt (q_20.1 0 37) := by rw [a_29.2 37 (by decide)]
    refine dOk_le (A := Int32.toInt (q_26.1 0 37)) (B := Int32.toInt x1_27) rfl rfl (fun c_38 => ?_) (fun c_39 => ?_)
    · unfold zX10_laysTables_121
      refine dFix_ok (fun (a : dS × Int32) => (TS a.1) ∧ (dFr [18] [] q_26 a.1) ∧ (0 ≤ Int32.toInt a.2) ∧ (Int32.toInt a.2 ≤ 64)) (fun (a : dS × Int32) => (64 - Int32.toInt a.2).toNat) ?_ _ ?_ _ (dF_gt ?_)
      · intro a ha k_41 hk_40
        obtain ⟨q_42, x1_43⟩ := a
        replace ha : (TS q_42) ∧ (dFr [18] [] q_26 q_42) ∧ (0 ≤ Int32.toInt x1_43) ∧ (Int32.toInt x1_43 ≤ 64) := ha
        obtain ⟨a_44, a_45, a_46, a_47⟩ := ha
        show dOk (zX10_laysTables_121b  (fun q x1 => k_41 (q, x1)) q_42 x1_43) _
        unfold zX10_laysTables_121b
        have hFq_42 : dFr [16, 17, 18, 19] [37, 38] q q_42 := hFq_26.t a_45 (by decide) (by decide)
        have f_48 : 0 ≤ Int32.toInt (q_42.1 0 38) ∧ Int32.toInt (q_42.1 0 38) ≤ 64 := a_44.1 0 38
        have f_49 : 0 ≤ Int32.toInt (q_26.1 0 38) ∧ Int32.toInt (q_26.1 0 38) ≤ 64 := a_28.1 0 38
        have f_50 : 0 ≤ Int32.toInt (q_20.1 0 38) ∧ Int32.toInt (q_20.1 0 38) ≤ 64 := hTq_20.1 0 38
        have w_51 : Int32.toInt (q_20.1 0 38) = Int32.toInt (1 <<< ((r_12 : Int32) &&& 31)) := by rw [eq_20, dui_e]
        have w_52 : Int32.toInt (q_26.1 0 38) = Int32.toInt (q_20.1 0 38) := by rw [a_29.2 38 (by decide)]
        have w_53 : Int32.toInt (q_42.1 0 38) = Int32.toInt (q_26.1 0 38) := by rw [a_45.2 38 (by decide)]
        refine dOk_le (A := Int32.toInt (q_42.1 0 38)) (B := Int32.toInt x1_43) rfl rfl (fun c_54 => ?_) (fun c_55 => ?_)
        · have f_56 : 0 ≤ Int32.toInt (q_42.1 0 37) ∧ Int32.toInt (q_42.1 0 37) ≤ 720 := a_44.1 0 37
          have w_57 : Int32.toInt (q_42.1 0 37) = Int32.toInt (q_26.1 0 37) := by rw [a_45.2 37 (by decide)]
          exact dOk_some (show (TS q_42) ∧ (dFr [16, 17, 18, 19] [37, 38] q q_42) ∧ (Int32.toInt (q_42.1 0 37) = facI (Int32.toInt (q.1 2 29))) ∧ (Int32.toInt (q_42.1 0 38) = powI (Int32.toInt (q.1 2 29))) from ⟨a_44, hFq_42, by ((try unfold facI at *); (try unfold facI); omega), by ((try unfold powI at *); (try unfold powI); omega)⟩)
        · unfold zX10_laysTables_131
          refine dFix_ok (fun (a : dS × Int32 × Int32) => (TS a.1) ∧ (dFr [18] [] q_42 a.1) ∧ (a.2.1 = x1_43) ∧ (1 ≤ Int32.toInt a.2.2) ∧ (Int32.toInt a.2.2 ≤ 7)) (fun (a : dS × Int32 × Int32) => (7 - Int32.toInt a.2.2).toNat) ?_ _ ?_ _ (dF_gt ?_)
          · intro a ha k_59 hk_58
            obtain ⟨q_60, x1_61, x2_62⟩ := a
            replace ha : (TS q_60) ∧ (dFr [18] [] q_42 q_60) ∧ (x1_61 = x1_43) ∧ (1 ≤ Int32.toInt x2_62) ∧ (Int32.toInt x2_62 ≤ 7) := ha
            obtain ⟨a_63, a_64, a_65, a_66, a_67⟩ := ha
            show dOk (zX10_laysTables_131b _ (fun q x1 x2 => k_59 (q, x1, x2)) q_60 x1_61 x2_62) _
            unfold zX10_laysTables_131b
            have hFq_60 : dFr [16, 17, 18, 19] [37, 38] q q_60 := hFq_42.t a_64 (by decide) (by decide)
            subst x1_61
            refine dOk_B (ok_size q_60 a_63) (fun r_68 q_69 h_70 => ?_)
            replace h_70 : (q_69 = q_60) ∧ (Int32.toInt r_68 = Int32.toInt (q_60.1 2 29)) ∧ (0 ≤ Int32.toInt r_68 ∧ Int32.toInt r_68 ≤ 6) := h_70
            obtain ⟨i_71, i_72, i_73⟩ := h_70
            subst q_69
            have f_74 : 0 ≤ Int32.toInt (q_60.1 2 29) ∧ Int32.toInt (q_60.1 2 29) ≤ 6 := a_63.1 2 29
            have f_75 : 0 ≤ Int32.toInt (q_42.1 2 29) ∧ Int32.toInt (q_42.1 2 29) ≤ 6 := a_44.1 2 29
            have f_76 : 0 ≤ Int32.toInt (q_26.1 2 29) ∧ Int32.toInt (q_26.1 2 29) ≤ 6 := a_28.1 2 29
            have f_77 : 0 ≤ Int32.toInt (q_20.1 2 29) ∧ Int32.toInt (q_20.1 2 29) ≤ 6 := hTq_20.1 2 29
            have w_78 : Int32.toInt (q_20.1 2 29) = Int32.toInt (q_11.1 2 29) := by rw [eq_20, dui_o (by decide)]
            have w_79 : Int32.toInt (q_26.1 2 29) = Int32.toInt (q_20.1 2 29) := by rw [a_29.1 2 (by decide) (by decide)]
            have w_80 : Int32.toInt (q_42.1 2 29) = Int32.toInt (q_26.1 2 29) := by rw [a_45.1 2 (by decide) (by decide)]
            have w_81 : Int32.toInt (q_60.1 2 29) = Int32.toInt (q_42.1 2 29) := by rw [a_64.1 2 (by decide) (by decide)]
            refine dOk_lt (A := Int32.toInt r_68) (B := Int32.toInt x2_62) rfl rfl (fun c_82 => ?_) (fun c_83 => ?_)
            · try have t_84 : Int32.toInt (x1_43 + 1) = Int32.toInt x1_43 + 1 := ti_add rfl (by decide) (by omega) (by omega)
              exact hk_40 (q_60, (x1_43 + 1)) (show (TS q_60) ∧ (dFr [18] [] q_26 q_60) ∧ (0 ≤ Int32.toInt (x1_43 + 1)) ∧ (Int32.toInt (x1_43 + 1) ≤ 64) from ⟨a_63, ((((dFr.rf : dFr [18] [] q_26 q_26).t a_45 (by decide) (by decide)) : dFr [18] [] q_26 q_42).t a_64 (by decide) (by decide)), by omega, by omega⟩) (show (64 - Int32.toInt (x1_43 + 1)).toNat < (64 - Int32.toInt x1_43).toNat by omega)
            · refine dOk_B (ok_headsBehind q_60 x1_43 x2_62 a_63 (show 1 ≤ Int32.toInt x2_62 by omega)) (fun r_85 q_86 h_87 => ?_)
              replace h_87 : (q_86 = q_60) ∧ (0 ≤ Int32.toInt r_85 ∧ Int32.toInt r_85 ≤ 63) := h_87
              obtain ⟨i_88, i_89⟩ := h_87
              subst q_86
              try have t_90 : Int32.toInt (7 * x1_43) = 7 * Int32.toInt x1_43 := ti_mul (by decide) rfl (by omega) (by omega)
              try have t_91 : Int32.toInt (7 * x1_43 + x2_62) = Int32.toInt (7 * x1_43) + Int32.toInt x2_62 := ti_add rfl rfl (by omega) (by omega)
              refine dOk_G (dg_ok (show 0 ≤ Int32.toInt (7 * x1_43 + x2_62) by omega) (show Int32.toInt (7 * x1_43 + x2_62) < ((448 : Nat) : Int) by omega)) ?_
              have n_92 : ((Int32.toNatClampNeg (7 * x1_43 + x2_62) : Nat) : Int) = Int32.toInt (7 * x1_43 + x2_62) := cl_eq (by omega)
              refine dOk_L (fun q_93 eq_93 => ?_)
              have hTq_93 : TS q_93 := by rw [eq_93]; exact ts_set a_63 (by decide) (show 0 ≤ Int32.toInt r_85 by omega) (show Int32.toInt r_85 ≤ 63 by omega)
              have hFq_93 : dFr [16, 17, 18, 19] [37, 38] q q_93 := by rw [eq_93]; exact hFq_60.i (by decide) (by decide)
              try have t_94 : Int32.toInt (x2_62 + 1) = Int32.toInt x2_62 + 1 := ti_add rfl (by decide) (by omega) (by omega)
              exact hk_58 (q_93, x1_43, (x2_62 + 1)) (show (TS q_93) ∧ (dFr [18] [] q_42 q_93) ∧ (x1_43 = x1_43) ∧ (1 ≤ Int32.toInt (x2_62 + 1)) ∧ (Int32.toInt (x2_62 + 1) ≤ 7) from ⟨hTq_93, (by rw [eq_93]; exact (((dFr.rf : dFr [18] [] q_42 q_42).t a_64 (by decide) (by decide)) : dFr [18] [] q_42 q_60).i (by decide) (by decide)), rfl, by omega, by omega⟩) (show (7 - Int32.toInt (x2_62 + 1)).toNat < (7 - Int32.toInt x2_62).toNat by omega)
          · exact (show (TS q_42) ∧ (dFr [18] [] q_42 q_42) ∧ (x1_43 = x1_43) ∧ (1 ≤ (1 : Int)) ∧ ((1 : Int) ≤ 7) from ⟨a_44, dFr.rf, rfl, by omega, by omega⟩)
          · show (7 - (1 : Int)).toNat < 1000000000000
            omega
      · exact (show (TS q_26) ∧ (dFr [18] [] q_26 q_26) ∧ (0 ≤ (0 : Int)) ∧ ((0 : Int) ≤ 64) from ⟨a_28, dFr.rf, by omega, by omega⟩)
      · show (64 - (0 : Int)).toNat < 1000000000000
        omega
    · have f_95 : 0 ≤ Int32.toInt (q_26.1 2 29) ∧ Int32.toInt (q_26.1 2 29) ≤ 6 := a_28.1 2 29
      have f_96 : 0 ≤ Int32.toInt (q_20.1 2 29) ∧ Int32.toInt (q_20.1 2 29) ≤ 6 := hTq_20.1 2 29
      have w_97 : Int32.toInt (q_20.1 2 29) = Int32.toInt (q_11.1 2 29) := by rw [eq_20, dui_o (by decide)]
      have w_98 : Int32.toInt (q_26.1 2 29) = Int32.toInt (q_20.1 2 29) := by rw [a_29.1 2 (by decide) (by decide)]
      refine dOk_V (ok_laysOrder q_26 x1_27 a_28 (show 0 ≤ Int32.toInt x1_27 by ((try unfold facI); omega)) (show Int32.toInt x1_27 < facI (Int32.toInt (q_26.1 2 29)) by ((try unfold facI); omega))) (fun q_99 h_100 => ?_)
      replace h_100 : (TS q_99) ∧ (dFr [16] [] q_26 q_99) := h_100
      obtain ⟨i_101, i_102⟩ := h_100
      have hFq_99 : dFr [16, 17, 18, 19] [37, 38] q q_99 := hFq_26.t i_102 (by decide) (by decide)
      unfold zX10_laysTables_38
      refine dFix_ok (fun (a : dS × Int32 × Int32) => (TS a.1) ∧ (dFr [17, 19] [] q_99 a.1) ∧ (a.2.1 = x1_27) ∧ (1 ≤ Int32.toInt a.2.2) ∧ (Int32.toInt a.2.2 ≤ 7)) (fun (a : dS × Int32 × Int32) => (7 - Int32.toInt a.2.2).toNat) ?_ _ ?_ _ (dF_gt ?_)
      · intro a ha k_104 hk_103
        obtain ⟨q_105, x1_106, x2_107⟩ := a
        replace ha : (TS q_105) ∧ (dFr [17, 19] [] q_99 q_105) ∧ (x1_106 = x1_27) ∧ (1 ≤ Int32.toInt x2_107) ∧ (Int32.toInt x2_107 ≤ 7) := ha
        obtain ⟨a_108, a_109, a_110, a_111, a_112⟩ := ha
        show dOk (zX10_laysTables_38b _ (fun q x1 x2 => k_104 (q, x1, x2)) q_105 x1_106 x2_107) _
        unfold zX10_laysTables_38b
        have hFq_105 : dFr [16, 17, 18, 19] [37, 38] q q_105 := hFq_99.t a_109 (by decide) (by decide)
        subst x1_106
        refine dOk_B (ok_size q_105 a_108) (fun r_113 q_114 h_115 => ?_)
        replace h_115 : (q_114 = q_105) ∧ (Int32.toInt r_113 = Int32.toInt (q_105.1 2 29)) ∧ (0 ≤ Int32.toInt r_113 ∧ Int32.toInt r_113 ≤ 6) := h_115
        obtain ⟨i_116, i_117, i_118⟩ := h_115
        subst q_114
        have f_119 : 0 ≤ Int32.toInt (q_105.1 2 29) ∧ Int32.toInt (q_105.1 2 29) ≤ 6 := a_108.1 2 29
        have f_120 : 0 ≤ Int32.toInt (q_99.1 2 29) ∧ Int32.toInt (q_99.1 2 29) ≤ 6 := i_101.1 2 29
        have w_121 : Int32.toInt (q_99.1 2 29) = Int32.toInt (q_26.1 2 29) := by rw [i_102.1 2 (by decide) (by decide)]
        have w_122 : Int32.toInt (q_105.1 2 29) = Int32.toInt (q_99.1 2 29) := by rw [a_109.1 2 (by decide) (by decide)]
        refine dOk_lt (A := Int32.toInt r_113) (B := Int32.toInt x2_107) rfl rfl (fun c_123 => ?_) (fun c_124 => ?_)
        · try have t_125 : Int32.toInt (x1_27 + 1) = Int32.toInt x1_27 + 1 := ti_add rfl (by decide) (by omega) (by omega)
          exact hk_24 (q_105, (x1_27 + 1)) (show (TS q_105) ∧ (dFr [16, 17, 19] [] q_20 q_105) ∧ (0 ≤ Int32.toInt (x1_27 + 1)) ∧ (Int32.toInt (x1_27 + 1) ≤ 720) from ⟨a_108, ((((((dFr.rf : dFr [16, 17, 19] [] q_20 q_20).t a_29 (by decide) (by decide)) : dFr [16, 17, 19] [] q_20 q_26).t i_102 (by decide) (by decide)) : dFr [16, 17, 19] [] q_20 q_99).t a_109 (by decide) (by decide)), by omega, by omega⟩) (show (720 - Int32.toInt (x1_27 + 1)).toNat < (720 - Int32.toInt x1_27).toNat by omega)
        · unfold zX10_laysTables_48
          refine dFix_ok (fun (a : dS × Int32 × Int32 × Int32) => (TS a.1) ∧ (dFr [19] [] q_105 a.1) ∧ (a.2.1 = x1_27) ∧ (a.2.2.1 = x2_107) ∧ (0 ≤ Int32.toInt a.2.2.2) ∧ (Int32.toInt a.2.2.2 ≤ 6)) (fun (a : dS × Int32 × Int32 × Int32) => (6 - Int32.toInt a.2.2.2).toNat) ?_ _ ?_ _ (dF_gt ?_)
          · intro a ha k_127 hk_126
            obtain ⟨q_128, x1_129, x2_130, x3_131⟩ := a
            replace ha : (TS q_128) ∧ (dFr [19] [] q_105 q_128) ∧ (x1_129 = x1_27) ∧ (x2_130 = x2_107) ∧ (0 ≤ Int32.toInt x3_131) ∧ (Int32.toInt x3_131 ≤ 6) := ha
            obtain ⟨a_132, a_133, a_134, a_135, a_136, a_137⟩ := ha
            show dOk (zX10_laysTables_48b _ _ (fun q x1 x2 x3 => k_127 (q, x1, x2, x3)) q_128 x1_129 x2_130 x3_131) _
            unfold zX10_laysTables_48b
            have hFq_128 : dFr [16, 17, 18, 19] [37, 38] q q_128 := hFq_105.t a_133 (by decide) (by decide)
            subst x1_129
            subst x2_130
            refine dOk_B (ok_size q_128 a_132) (fun r_138 q_139 h_140 => ?_)
            replace h_140 : (q_139 = q_128) ∧ (Int32.toInt r_138 = Int32.toInt (q_128.1 2 29)) ∧ (0 ≤ Int32.toInt r_138 ∧ Int32.toInt r_138 ≤ 6) := h_140
            obtain ⟨i_141, i_142, i_143⟩ := h_140
            subst q_139
            have f_144 : 0 ≤ Int32.toInt (q_128.1 2 29) ∧ Int32.toInt (q_128.1 2 29) ≤ 6 := a_132.1 2 29
            have w_145 : Int32.toInt (q_128.1 2 29) = Int32.toInt (q_105.1 2 29) := by rw [a_133.1 2 (by decide) (by decide)]
            refine dOk_le (A := Int32.toInt r_138) (B := Int32.toInt x3_131) rfl rfl (fun c_146 => ?_) (fun c_147 => ?_)
            · refine dOk_B (ok_numberOf q_128 a_132) (fun r_148 q_149 h_150 => ?_)
              replace h_150 : (q_149 = q_128) ∧ (NB (Int32.toInt (q_128.1 2 29)) (Int32.toInt (q_128.1 2 29)) (Int32.toInt r_148)) ∧ (0 ≤ Int32.toInt r_148 ∧ Int32.toInt r_148 ≤ 719) := h_150
              obtain ⟨i_151, i_152, i_153⟩ := h_150
              subst q_149
              try have t_154 : Int32.toInt (7 * x1_27) = 7 * Int32.toInt x1_27 := ti_mul (by decide) rfl (by omega) (by omega)
              try have t_155 : Int32.toInt (7 * x1_27 + x2_107) = Int32.toInt (7 * x1_27) + Int32.toInt x2_107 := ti_add rfl rfl (by omega) (by omega)
              refine dOk_G (dg_ok (show 0 ≤ Int32.toInt (7 * x1_27 + x2_107) by omega) (show Int32.toInt (7 * x1_27 + x2_107) < ((5040 : Nat) : Int) by omega)) ?_
              have n_156 : ((Int32.toNatClampNeg (7 * x1_27 + x2_107) : Nat) : Int) = Int32.toInt (7 * x1_27 + x2_107) := cl_eq (by omega)
              refine dOk_L (fun q_157 eq_157 => ?_)
              have hTq_157 : TS q_157 := by rw [eq_157]; exact ts_set a_132 (by decide) (show 0 ≤ Int32.toInt r_148 by omega) (show Int32.toInt r_148 ≤ 719 by omega)
              have hFq_157 : dFr [16, 17, 18, 19] [37, 38] q q_157 := by rw [eq_157]; exact hFq_128.i (by decide) (by decide)
              try have t_158 : Int32.toInt (x2_107 + 1) = Int32.toInt x2_107 + 1 := ti_add rfl (by decide) (by omega) (by omega)
              exact hk_103 (q_157, x1_27, (x2_107 + 1)) (show (TS q_157) ∧ (dFr [17, 19] [] q_99 q_157) ∧ (x1_27 = x1_27) ∧ (1 ≤ Int32.toInt (x2_107 + 1)) ∧ (Int32.toInt (x2_107 + 1) ≤ 7) from ⟨hTq_157, (by rw [eq_157]; exact (((((dFr.rf : dFr [17, 19] [] q_99 q_99).t a_109 (by decide) (by decide)) : dFr [17, 19] [] q_99 q_105).t a_133 (by decide) (by decide)) : dFr [17, 19] [] q_99 q_128).i (by decide) (by decide)), rfl, by omega, by omega⟩) (show (7 - Int32.toInt (x2_107 + 1)).toNat < (7 - Int32.toInt x2_107).toNat by omega)
            · refine dOk_le (A := Int32.toInt x2_107) (B := Int32.toInt x3_131) rfl rfl (fun c_159 => ?_) (fun c_160 => ?_)
              · unfold zX10_laysTables_83
                try have t_161 : Int32.toInt (6 * x1_27) = 6 * Int32.toInt x1_27 := ti_mul (by decide) rfl (by omega) (by omega)
                try have t_162 : Int32.toInt (6 * x1_27 + x3_131) = Int32.toInt (6 * x1_27) + Int32.toInt x3_131 := ti_add rfl rfl (by omega) (by omega)
                refine dOk_G (dg_ok (show 0 ≤ Int32.toInt (6 * x1_27 + x3_131) by omega) (show Int32.toInt (6 * x1_27 + x3_131) < ((4320 : Nat) : Int) by omega)) ?_
                have n_163 : ((Int32.toNatClampNeg (6 * x1_27 + x3_131) : Nat) : Int) = Int32.toInt (6 * x1_27 + x3_131) := cl_eq (by omega)
                refine dOk_L (fun v_164 ev_164 => ?_)
                have f_165 : 0 ≤ Int32.toInt v_164 ∧ Int32.toInt v_164 ≤ 5 := by rw [ev_164]; exact a_132.1 16 _
                refine dOk_G (dg_ok (show 0 ≤ Int32.toInt x3_131 by omega) (show Int32.toInt x3_131 < ((6 : Nat) : Int) by omega)) ?_
                have n_166 : ((Int32.toNatClampNeg x3_131 : Nat) : Int) = Int32.toInt x3_131 := cl_eq (by omega)
                refine dOk_L (fun q_167 eq_167 => ?_)
                have hTq_167 : TS q_167 := by rw [eq_167]; exact ts_any a_132 rfl
                have hFq_167 : dFr [16, 17, 18, 19] [37, 38] q q_167 := by rw [eq_167]; exact hFq_128.i (by decide) (by decide)
                try have t_168 : Int32.toInt (x3_131 + 1) = Int32.toInt x3_131 + 1 := ti_add rfl (by decide) (by omega) (by omega)
                exact hk_126 (q_167, x1_27, x2_107, (x3_131 + 1)) (show (TS q_167) ∧ (dFr [19] [] q_105 q_167) ∧ (x1_27 = x1_27) ∧ (x2_107 = x2_107) ∧ (0 ≤ Int32.toInt (x3_131 + 1)) ∧ (Int32.toInt (x3_131 + 1) ≤ 6) from ⟨hTq_167, (by rw [eq_167]; exact (((dFr.rf : dFr [19] [] q_105 q_105).t a_133 (by decide) (by decide)) : dFr [19] [] q_105 q_128).i (by decide) (by decide)), rfl, rfl, by omega, by omega⟩) (show (6 - Int32.toInt (x3_131 + 1)).toNat < (6 - Int32.toInt x3_131).toNat by omega)
              · unfold zX10_laysTables_83
                try have t_169 : Int32.toInt (6 * x1_27) = 6 * Int32.toInt x1_27 := ti_mul (by decide) rfl (by omega) (by omega)
                try have t_170 : Int32.toInt (x2_107 - 1) = Int32.toInt x2_107 - 1 := ti_sub rfl (by decide) (by omega) (by omega)
                try have t_171 : Int32.toInt (x2_107 - 1 - x3_131) = Int32.toInt (x2_107 - 1) - Int32.toInt x3_131 := ti_sub rfl rfl (by omega) (by omega)
                try have t_172 : Int32.toInt (6 * x1_27 + (x2_107 - 1 - x3_131)) = Int32.toInt (6 * x1_27) + Int32.toInt (x2_107 - 1 - x3_131) := ti_add rfl rfl (by omega) (by omega)
                refine dOk_G (dg_ok (show 0 ≤ Int32.toInt (6 * x1_27 + (x2_107 - 1 - x3_131)) by omega) (show Int32.toInt (6 * x1_27 + (x2_107 - 1 - x3_131)) < ((4320 : Nat) : Int) by omega)) ?_
                have n_173 : ((Int32.toNatClampNeg (6 * x1_27 + (x2_107 - 1 - x3_131)) : Nat) : Int) = Int32.toInt (6 * x1_27 + (x2_107 - 1 - x3_131)) := cl_eq (by omega)
                refine dOk_L (fun v_174 ev_174 => ?_)
                have f_175 : 0 ≤ Int32.toInt v_174 ∧ Int32.toInt v_174 ≤ 5 := by rw [ev_174]; exact a_132.1 16 _
                refine dOk_G (dg_ok (show 0 ≤ Int32.toInt x3_131 by omega) (show Int32.toInt x3_131 < ((6 : Nat) : Int) by omega)) ?_
                have n_176 : ((Int32.toNatClampNeg x3_131 : Nat) : Int) = Int32.toInt x3_131 := cl_eq (by omega)
                refine dOk_L (fun q_177 eq_177 => ?_)
                have hTq_177 : TS q_177 := by rw [eq_177]; exact ts_any a_132 rfl
                have hFq_177 : dFr [16, 17, 18, 19] [37, 38] q q_177 := by rw [eq_177]; exact hFq_128.i (by decide) (by decide)
                try have t_178 : Int32.toInt (x3_131 + 1) = Int32.toInt x3_131 + 1 := ti_add rfl (by decide) (by omega) (by omega)
                exact hk_126 (q_177, x1_27, x2_107, (x3_131 + 1)) (show (TS q_177) ∧ (dFr [19] [] q_105 q_177) ∧ (x1_27 = x1_27) ∧ (x2_107 = x2_107) ∧ (0 ≤ Int32.toInt (x3_131 + 1)) ∧ (Int32.toInt (x3_131 + 1) ≤ 6) from ⟨hTq_177, (by rw [eq_177]; exact (((dFr.rf : dFr [19] [] q_105 q_105).t a_133 (by decide) (by decide)) : dFr [19] [] q_105 q_128).i (by decide) (by decide)), rfl, rfl, by omega, by omega⟩) (show (6 - Int32.toInt (x3_131 + 1)).toNat < (6 - Int32.toInt x3_131).toNat by omega)
          · exact (show (TS q_105) ∧ (dFr [19] [] q_105 q_105) ∧ (x1_27 = x1_27) ∧ (x2_107 = x2_107) ∧ (0 ≤ (0 : Int)) ∧ ((0 : Int) ≤ 6) from ⟨a_108, dFr.rf, rfl, rfl, by omega, by omega⟩)
          · show (6 - (0 : Int)).toNat < 1000000000000
            omega
      · exact (show (TS q_99) ∧ (dFr [17, 19] [] q_99 q_99) ∧ (x1_27 = x1_27) ∧ (1 ≤ (1 : Int)) ∧ ((1 : Int) ≤ 7) from ⟨i_101, dFr.rf, rfl, by omega, by omega⟩)
      · show (7 - (1 : Int)).toNat < 1000000000000
        omega
  · exact (show (TS q_20) ∧ (dFr [16, 17, 19] [] q_20 q_20) ∧ (0 ≤ (0 : Int)) ∧ ((0 : Int) ≤ 720) from ⟨hTq_20, dFr.rf, by omega, by omega⟩)
  · show (720 - (0 : Int)).toNat < 1000000000000
    omega
end
section
set_option maxHeartbeats 4000000 in
set_option maxRecDepth 100000 in
theorem ok_laysPrices (q : dS) (hT : TS q) : dOk (zX10_laysPrices q) (fun (o : dS) => (TS o) ∧ (dFr [12, 16, 17, 18, 19, 20] [22, 23, 24, 25, 37, 38] q o) ∧ (Int32.toInt (o.1 0 37) = facI (Int32.toInt (q.1 2 29))) ∧ (Int32.toInt (o.1 0 38) = powI (Int32.toInt (q.1 2 29)))) := by
  unfold zX10_laysPrices
  refine dOk_V (ok_laysTables q hT) (fun q_1 h_2 => ?_)
  replace h_2 : (TS q_1) ∧ (dFr [16, 17, 18, 19] [37, 38] q q_1) ∧ (Int32.toInt (q_1.1 0 37) = facI (Int32.toInt (q.1 2 29))) ∧ (Int32.toInt (q_1.1 0 38) = powI (Int32.toInt (q.1 2 29))) := h_2
  obtain ⟨i_3, i_4, i_5, i_6⟩ := h_2
  have hFq_1 : dFr [12, 16, 17, 18, 19, 20] [22, 23, 24, 25, 37, 38] q q_1 := (dFr.rf (q := q)).t i_4 (by decide) (by decide)
  have f_7 : 0 ≤ Int32.toInt (q_1.1 0 37) ∧ Int32.toInt (q_1.1 0 37) ≤ 720 := i_3.1 0 37
  have f_8 : 0 ≤ Int32.toInt (q.1 2 29) ∧ Int32.toInt (q.1 2 29) ≤ 6 := hT.1 2 29
  have f_9 : 0 ≤ Int32.toInt (q_1.1 0 38) ∧ Int32.toInt (q_1.1 0 38) ≤ 64 := i_3.1 0 38
  unfold zX10_laysPrices_6
  refine dFix_ok (fun (a : dS × Int32) => (TS a.1) ∧ (dFr [12, 20] [22, 23, 24, 25] q_1 a.1) ∧ (1 ≤ Int32.toInt a.2) ∧ (Int32.toInt a.2 ≤ 7)) (fun (a : dS × Int32) => (7 - Int32.toInt a.2).toNat) ?_ _ ?_ _ (dF_gt ?_)
  · intro a ha k_11 hk_10
    obtain ⟨q_12, x1_13⟩ := a
    replace ha : (TS q_12) ∧ (dFr [12, 20] [22, 23, 24, 25] q_1 q_12) ∧ (1 ≤ Int32.toInt x1_13) ∧ (Int32.toInt x1_13 ≤ 7) := ha
    obtain ⟨a_14, a_15, a_16, a_17⟩ := ha
    show dOk (zX10_laysPrices_6b  (fun q x1 => k_11 (q, x1)) q_12 x1_13) _
    unfold zX10_laysPrices_6b
    have hFq_12 : dFr [12, 16, 17, 18, 19, 20] [22, 23, 24, 25, 37, 38] q q_12 := hFq_1.t a_15 (by decide) (by decide)
    refine dOk_B (ok_size q_12 a_14) (fun r_18 q_19 h_20 => ?_)
    replace h_20 : (q_19 = q_12) ∧ (Int32.toInt r_18 = Int32.toInt (q_12.1 2 29)) ∧ (0 ≤ Int32.toInt r_18 ∧ Int32.toInt r_18 ≤ 6) := h_20
    obtain ⟨i_21, i_22, i_23⟩ := h_20
    subst q_19
    have f_24 : 0 ≤ Int32.toInt (q_12.1 2 29) ∧ Int32.toInt (q_12.1 2 29) ≤ 6 := a_14.1 2 29
    have f_25 : 0 ≤ Int32.toInt (q_1.1 2 29) ∧ Int32.toInt (q_1.1 2 29) ≤ 6 := i_3.1 2 29
    have w_26 : Int32.toInt (q_1.1 2 29) = Int32.toInt (q.1 2 29) := by rw [i_4.1 2 (by decide) (by decide)]
    have w_27 : Int32.toInt (q_12.1 2 29) = Int32.toInt (q_1.1 2 29) := by rw [a_15.1 2 (by decide) (by decide)]
    refine dOk_lt (A := Int32.toInt r_18) (B := Int32.toInt x1_13) rfl rfl (fun c_28 => ?_) (fun c_29 => ?_)
    · have f_30 : 0 ≤ Int32.toInt (q_12.1 0 37) ∧ Int32.toInt (q_12.1 0 37) ≤ 720 := a_14.1 0 37
      have w_31 : Int32.toInt (q_12.1 0 37) = Int32.toInt (q_1.1 0 37) := by rw [a_15.2 37 (by decide)]
      have f_32 : 0 ≤ Int32.toInt (q_12.1 0 38) ∧ Int32.toInt (q_12.1 0 38) ≤ 64 := a_14.1 0 38
      have w_33 : Int32.toInt (q_12.1 0 38) = Int32.toInt (q_1.1 0 38) := by rw [a_15.2 38 (by decide)]
      exact dOk_some (show (TS q_12) ∧ (dFr [12, 16, 17, 18, 19, 20] [22, 23, 24, 25, 37, 38] q q_12) ∧ (Int32.toInt (q_12.1 0 37) = facI (Int32.toInt (q.1 2 29))) ∧ (Int32.toInt (q_12.1 0 38) = powI (Int32.toInt (q.1 2 29))) from ⟨a_14, hFq_12, by ((try unfold facI at *); (try unfold facI); omega), by ((try unfold powI at *); (try unfold powI); omega)⟩)
    · unfold zX10_laysPrices_16
      refine dFix_ok (fun (a : dS × Int32 × Int32) => (TS a.1) ∧ (dFr [12, 20] [22, 23, 24, 25] q_12 a.1) ∧ (a.2.1 = x1_13) ∧ (0 ≤ Int32.toInt a.2.2) ∧ (Int32.toInt a.2.2 ≤ 6)) (fun (a : dS × Int32 × Int32) => (6 - Int32.toInt a.2.2).toNat) ?_ _ ?_ _ (dF_gt ?_)
      · intro a ha k_35 hk_34
        obtain ⟨q_36, x1_37, x2_38⟩ := a
        replace ha : (TS q_36) ∧ (dFr [12, 20] [22, 23, 24, 25] q_12 q_36) ∧ (x1_37 = x1_13) ∧ (0 ≤ Int32.toInt x2_38) ∧ (Int32.toInt x2_38 ≤ 6) := ha
        obtain ⟨a_39, a_40, a_41, a_42, a_43⟩ := ha
        show dOk (zX10_laysPrices_16b _ (fun q x1 x2 => k_35 (q, x1, x2)) q_36 x1_37 x2_38) _
        unfold zX10_laysPrices_16b
        have hFq_36 : dFr [12, 16, 17, 18, 19, 20] [22, 23, 24, 25, 37, 38] q q_36 := hFq_12.t a_40 (by decide) (by decide)
        subst x1_37
        refine dOk_B (ok_size q_36 a_39) (fun r_44 q_45 h_46 => ?_)
        replace h_46 : (q_45 = q_36) ∧ (Int32.toInt r_44 = Int32.toInt (q_36.1 2 29)) ∧ (0 ≤ Int32.toInt r_44 ∧ Int32.toInt r_44 ≤ 6) := h_46
        obtain ⟨i_47, i_48, i_49⟩ := h_46
        subst q_45
        have f_50 : 0 ≤ Int32.toInt (q_36.1 2 29) ∧ Int32.toInt (q_36.1 2 29) ≤ 6 := a_39.1 2 29
        have w_51 : Int32.toInt (q_36.1 2 29) = Int32.toInt (q_12.1 2 29) := by rw [a_40.1 2 (by decide) (by decide)]
        refine dOk_le (A := Int32.toInt r_44) (B := Int32.toInt x2_38) rfl rfl (fun c_52 => ?_) (fun c_53 => ?_)
        · try have t_54 : Int32.toInt (x1_13 + 1) = Int32.toInt x1_13 + 1 := ti_add rfl (by decide) (by omega) (by omega)
          exact hk_10 (q_36, (x1_13 + 1)) (show (TS q_36) ∧ (dFr [12, 20] [22, 23, 24, 25] q_1 q_36) ∧ (1 ≤ Int32.toInt (x1_13 + 1)) ∧ (Int32.toInt (x1_13 + 1) ≤ 7) from ⟨a_39, ((((dFr.rf : dFr [12, 20] [22, 23, 24, 25] q_1 q_1).t a_15 (by decide) (by decide)) : dFr [12, 20] [22, 23, 24, 25] q_1 q_12).t a_40 (by decide) (by decide)), by omega, by omega⟩) (show (7 - Int32.toInt (x1_13 + 1)).toNat < (7 - Int32.toInt x1_13).toNat by omega)
        · unfold zX10_laysPrices_26
          refine dFix_ok (fun (a : dS × Int32 × Int32 × Int32) => (TS a.1) ∧ (dFr [12, 20] [22, 23, 24, 25] q_36 a.1) ∧ (a.2.1 = x1_13) ∧ (a.2.2.1 = x2_38) ∧ (0 ≤ Int32.toInt a.2.2.2) ∧ (Int32.toInt a.2.2.2 ≤ 7)) (fun (a : dS × Int32 × Int32 × Int32) => (7 - Int32.toInt a.2.2.2).toNat) ?_ _ ?_ _ (dF_gt ?_)
          · intro a ha k_56 hk_55
            obtain ⟨q_57, x1_58, x2_59, x3_60⟩ := a
            replace ha : (TS q_57) ∧ (dFr [12, 20] [22, 23, 24, 25] q_36 q_57) ∧ (x1_58 = x1_13) ∧ (x2_59 = x2_38) ∧ (0 ≤ Int32.toInt x3_60) ∧ (Int32.toInt x3_60 ≤ 7) := ha
            obtain ⟨a_61, a_62, a_63, a_64, a_65, a_66⟩ := ha
            show dOk (zX10_laysPrices_26b _ _ (fun q x1 x2 x3 => k_56 (q, x1, x2, x3)) q_57 x1_58 x2_59 x3_60) _
            unfold zX10_laysPrices_26b
            have hFq_57 : dFr [12, 16, 17, 18, 19, 20] [22, 23, 24, 25, 37, 38] q q_57 := hFq_36.t a_62 (by decide) (by decide)
            subst x1_58
            subst x2_59
            refine dOk_B (ok_size q_57 a_61) (fun r_67 q_68 h_69 => ?_)
            replace h_69 : (q_68 = q_57) ∧ (Int32.toInt r_67 = Int32.toInt (q_57.1 2 29)) ∧ (0 ≤ Int32.toInt r_67 ∧ Int32.toInt r_67 ≤ 6) := h_69
            obtain ⟨i_70, i_71, i_72⟩ := h_69
            subst q_68
            have f_73 : 0 ≤ Int32.toInt (q_57.1 2 29) ∧ Int32.toInt (q_57.1 2 29) ≤ 6 := a_61.1 2 29
            have w_74 : Int32.toInt (q_57.1 2 29) = Int32.toInt (q_36.1 2 29) := by rw [a_62.1 2 (by decide) (by decide)]
            refine dOk_lt (A := Int32.toInt r_67) (B := Int32.toInt x3_60) rfl rfl (fun c_75 => ?_) (fun c_76 => ?_)
            · try have t_77 : Int32.toInt (x2_38 + 1) = Int32.toInt x2_38 + 1 := ti_add rfl (by decide) (by omega) (by omega)
              exact hk_34 (q_57, x1_13, (x2_38 + 1)) (show (TS q_57) ∧ (dFr [12, 20] [22, 23, 24, 25] q_12 q_57) ∧ (x1_13 = x1_13) ∧ (0 ≤ Int32.toInt (x2_38 + 1)) ∧ (Int32.toInt (x2_38 + 1) ≤ 6) from ⟨a_61, ((((dFr.rf : dFr [12, 20] [22, 23, 24, 25] q_12 q_12).t a_40 (by decide) (by decide)) : dFr [12, 20] [22, 23, 24, 25] q_12 q_36).t a_62 (by decide) (by decide)), rfl, by omega, by omega⟩) (show (6 - Int32.toInt (x2_38 + 1)).toNat < (6 - Int32.toInt x2_38).toNat by omega)
            · unfold zX10_laysPrices_37
              refine dFix_ok (fun (a : dS × Int32 × Int32 × Int32 × Int32) => (TS a.1) ∧ (dFr [12, 20] [22, 23, 24, 25] q_57 a.1) ∧ (a.2.1 = x1_13) ∧ (a.2.2.1 = x2_38) ∧ (a.2.2.2.1 = x3_60) ∧ (0 ≤ Int32.toInt a.2.2.2.2) ∧ (Int32.toInt a.2.2.2.2 ≤ 2)) (fun (a : dS × Int32 × Int32 × Int32 × Int32) => (2 - Int32.toInt a.2.2.2.2).toNat) ?_ _ ?_ _ (dF_gt ?_)
              · intro a ha k_79 hk_78
                obtain ⟨q_80, x1_81, x2_82, x3_83, x4_84⟩ := a
                replace ha : (TS q_80) ∧ (dFr [12, 20] [22, 23, 24, 25] q_57 q_80) ∧ (x1_81 = x1_13) ∧ (x2_82 = x2_38) ∧ (x3_83 = x3_60) ∧ (0 ≤ Int32.toInt x4_84) ∧ (Int32.toInt x4_84 ≤ 2) := ha
                obtain ⟨a_85, a_86, a_87, a_88, a_89, a_90, a_91⟩ := ha
                show dOk (zX10_laysPrices_37b _ _ _ (fun q x1 x2 x3 x4 => k_79 (q, x1, x2, x3, x4)) q_80 x1_81 x2_82 x3_83 x4_84) _
                unfold zX10_laysPrices_37b
                have hFq_80 : dFr [12, 16, 17, 18, 19, 20] [22, 23, 24, 25, 37, 38] q q_80 := hFq_57.t a_86 (by decide) (by decide)
                subst x1_81
                subst x2_82
                subst x3_83
                refine dOk_le (A := 2) (B := Int32.toInt x4_84) (by decide) rfl (fun c_92 => ?_) (fun c_93 => ?_)
                · try have t_94 : Int32.toInt (x3_60 + 1) = Int32.toInt x3_60 + 1 := ti_add rfl (by decide) (by omega) (by omega)
                  exact hk_55 (q_80, x1_13, x2_38, (x3_60 + 1)) (show (TS q_80) ∧ (dFr [12, 20] [22, 23, 24, 25] q_36 q_80) ∧ (x1_13 = x1_13) ∧ (x2_38 = x2_38) ∧ (0 ≤ Int32.toInt (x3_60 + 1)) ∧ (Int32.toInt (x3_60 + 1) ≤ 7) from ⟨a_85, ((((dFr.rf : dFr [12, 20] [22, 23, 24, 25] q_36 q_36).t a_62 (by decide) (by decide)) : dFr [12, 20] [22, 23, 24, 25] q_36 q_57).t a_86 (by decide) (by decide)), rfl, rfl, by omega, by omega⟩) (show (7 - Int32.toInt (x3_60 + 1)).toNat < (7 - Int32.toInt x3_60).toNat by omega)
                · refine dOk_B (ok_rankOf q_80 x2_38 a_85) (fun r_95 q_96 h_97 => ?_)
                  replace h_97 : (q_96 = q_80) := h_97
                  have i_98 := h_97
                  subst q_96
                  refine dOk_eq (A := Int32.toInt x3_60) (B := 0) rfl (by decide) (fun c_99z c_99 => ?_) (fun c_100z c_100 => ?_)
                  · unfold zX10_laysPrices_65
                    refine dOk_V (ok_setsTurn q_80 x1_13 r_95 (-1) x4_84 a_85) (fun q_102 h_103 => ?_)
                    replace h_103 : (TS q_102) ∧ (dFr [12] [] q_80 q_102) ∧ (Int32.toInt (q_102.1 12 0) = Int32.toInt x1_13) := h_103
                    obtain ⟨i_104, i_105, i_106⟩ := h_103
                    have hFq_102 : dFr [12, 16, 17, 18, 19, 20] [22, 23, 24, 25, 37, 38] q q_102 := hFq_80.t i_105 (by decide) (by decide)
                    refine dOk_V (ok_askedAt x1_13 x2_38 x3_60 x4_84 (show 0 ≤ Int32.toInt x1_13 ∧ Int32.toInt x1_13 ≤ 6 by omega) (show 0 ≤ Int32.toInt x2_38 ∧ Int32.toInt x2_38 ≤ 5 by omega) (show 0 ≤ Int32.toInt x3_60 ∧ Int32.toInt x3_60 ≤ 6 by omega) (show 0 ≤ Int32.toInt x4_84 ∧ Int32.toInt x4_84 ≤ 1 by omega)) (fun r_107 h_108 => ?_)
                    replace h_108 : (Int32.toInt r_107 = ((Int32.toInt x1_13 * 6 + Int32.toInt x2_38) * 7 + Int32.toInt x3_60) * 2 + Int32.toInt x4_84) := h_108
                    have i_109 := h_108
                    refine dOk_B (ok_isNow q_102 2 i_104) (fun r_110 q_111 h_112 => ?_)
                    replace h_112 : (TS q_111) ∧ (dFr [] [22, 23, 24, 25] q_102 q_111) ∧ ((Int32.toInt r_110 = 0 ∨ Int32.toInt r_110 = 1)) := h_112
                    obtain ⟨i_113, i_114, i_115⟩ := h_112
                    have hFq_111 : dFr [12, 16, 17, 18, 19, 20] [22, 23, 24, 25, 37, 38] q q_111 := hFq_102.t i_114 (by decide) (by decide)
                    refine dOk_eq (A := Int32.toInt r_110) (B := 0) rfl (by decide) (fun c_116z c_116 => ?_) (fun c_117z c_117 => ?_)
                    · refine dOk_B (ok_paysNow q_111 i_113) (fun r_119 q_120 h_121 => ?_)
                      replace h_121 : (TS q_120) ∧ (dFr [] [22, 23, 24, 25] q_111 q_120) ∧ ((0 ≤ Int32.toInt (q_111.1 12 0) ∧ Int32.toInt (q_111.1 12 0) ≤ 99) → 0 ≤ Int32.toInt r_119 ∧ Int32.toInt r_119 ≤ 99) := h_121
                      obtain ⟨i_122, i_123, i_124⟩ := h_121
                      have hFq_120 : dFr [12, 16, 17, 18, 19, 20] [22, 23, 24, 25, 37, 38] q q_120 := hFq_111.t i_123 (by decide) (by decide)
                      have w_125 : Int32.toInt (q_111.1 12 0) = Int32.toInt (q_102.1 12 0) := by rw [i_114.1 12 (by decide) (by decide)]
                      unfold zX10_laysPrices_98
                      refine dOk_G (dg_ok (show 0 ≤ Int32.toInt r_107 by omega) (show Int32.toInt r_107 < ((588 : Nat) : Int) by omega)) ?_
                      have n_126 : ((Int32.toNatClampNeg r_107 : Nat) : Int) = Int32.toInt r_107 := cl_eq (by omega)
                      refine dOk_L (fun q_127 eq_127 => ?_)
                      have hTq_127 : TS q_127 := by rw [eq_127]; exact ts_set i_122 (by decide) (show -1 ≤ Int32.toInt r_119 by omega) (show Int32.toInt r_119 ≤ 99 by omega)
                      have hFq_127 : dFr [12, 16, 17, 18, 19, 20] [22, 23, 24, 25, 37, 38] q q_127 := by rw [eq_127]; exact hFq_120.i (by decide) (by decide)
                      try have t_128 : Int32.toInt (x4_84 + 1) = Int32.toInt x4_84 + 1 := ti_add rfl (by decide) (by omega) (by omega)
                      exact hk_78 (q_127, x1_13, x2_38, x3_60, (x4_84 + 1)) (show (TS q_127) ∧ (dFr [12, 20] [22, 23, 24, 25] q_57 q_127) ∧ (x1_13 = x1_13) ∧ (x2_38 = x2_38) ∧ (x3_60 = x3_60) ∧ (0 ≤ Int32.toInt (x4_84 + 1)) ∧ (Int32.toInt (x4_84 + 1) ≤ 2) from ⟨hTq_127, (by rw [eq_127]; exact (((((((((dFr.rf : dFr [12, 20] [22, 23, 24, 25] q_57 q_57).t a_86 (by decide) (by decide)) : dFr [12, 20] [22, 23, 24, 25] q_57 q_80).t i_105 (by decide) (by decide)) : dFr [12, 20] [22, 23, 24, 25] q_57 q_102).t i_114 (by decide) (by decide)) : dFr [12, 20] [22, 23, 24, 25] q_57 q_111).t i_123 (by decide) (by decide)) : dFr [12, 20] [22, 23, 24, 25] q_57 q_120).i (by decide) (by decide)), rfl, rfl, rfl, by omega, by omega⟩) (show (2 - Int32.toInt (x4_84 + 1)).toNat < (2 - Int32.toInt x4_84).toNat by omega)
                    · unfold zX10_laysPrices_98
                      refine dOk_G (dg_ok (show 0 ≤ Int32.toInt r_107 by omega) (show Int32.toInt r_107 < ((588 : Nat) : Int) by omega)) ?_
                      have n_129 : ((Int32.toNatClampNeg r_107 : Nat) : Int) = Int32.toInt r_107 := cl_eq (by omega)
                      refine dOk_L (fun q_130 eq_130 => ?_)
                      have hTq_130 : TS q_130 := by rw [eq_130]; exact ts_set i_113 (by decide) (show -1 ≤ (-1 : Int) by omega) (show (-1 : Int) ≤ 99 by omega)
                      have hFq_130 : dFr [12, 16, 17, 18, 19, 20] [22, 23, 24, 25, 37, 38] q q_130 := by rw [eq_130]; exact hFq_111.i (by decide) (by decide)
                      try have t_131 : Int32.toInt (x4_84 + 1) = Int32.toInt x4_84 + 1 := ti_add rfl (by decide) (by omega) (by omega)
                      exact hk_78 (q_130, x1_13, x2_38, x3_60, (x4_84 + 1)) (show (TS q_130) ∧ (dFr [12, 20] [22, 23, 24, 25] q_57 q_130) ∧ (x1_13 = x1_13) ∧ (x2_38 = x2_38) ∧ (x3_60 = x3_60) ∧ (0 ≤ Int32.toInt (x4_84 + 1)) ∧ (Int32.toInt (x4_84 + 1) ≤ 2) from ⟨hTq_130, (by rw [eq_130]; exact (((((((dFr.rf : dFr [12, 20] [22, 23, 24, 25] q_57 q_57).t a_86 (by decide) (by decide)) : dFr [12, 20] [22, 23, 24, 25] q_57 q_80).t i_105 (by decide) (by decide)) : dFr [12, 20] [22, 23, 24, 25] q_57 q_102).t i_114 (by decide) (by decide)) : dFr [12, 20] [22, 23, 24, 25] q_57 q_111).i (by decide) (by decide)), rfl, rfl, rfl, by omega, by omega⟩) (show (2 - Int32.toInt (x4_84 + 1)).toNat < (2 - Int32.toInt x4_84).toNat by omega)
                  · try have t_132 : Int32.toInt (x3_60 - 1) = Int32.toInt x3_60 - 1 := ti_sub rfl (by decide) (by omega) (by omega)
                    refine dOk_B (ok_rankOf q_80 (x3_60 - 1) a_85) (fun r_133 q_134 h_135 => ?_)
                    replace h_135 : (q_134 = q_80) := h_135
                    have i_136 := h_135
                    subst q_134
                    unfold zX10_laysPrices_65
                    refine dOk_V (ok_setsTurn q_80 x1_13 r_95 r_133 x4_84 a_85) (fun q_137 h_138 => ?_)
                    replace h_138 : (TS q_137) ∧ (dFr [12] [] q_80 q_137) ∧ (Int32.toInt (q_137.1 12 0) = Int32.toInt x1_13) := h_138
                    obtain ⟨i_139, i_140, i_141⟩ := h_138
                    have hFq_137 : dFr [12, 16, 17, 18, 19, 20] [22, 23, 24, 25, 37, 38] q q_137 := hFq_80.t i_140 (by decide) (by decide)
                    refine dOk_V (ok_askedAt x1_13 x2_38 x3_60 x4_84 (show 0 ≤ Int32.toInt x1_13 ∧ Int32.toInt x1_13 ≤ 6 by omega) (show 0 ≤ Int32.toInt x2_38 ∧ Int32.toInt x2_38 ≤ 5 by omega) (show 0 ≤ Int32.toInt x3_60 ∧ Int32.toInt x3_60 ≤ 6 by omega) (show 0 ≤ Int32.toInt x4_84 ∧ Int32.toInt x4_84 ≤ 1 by omega)) (fun r_142 h_143 => ?_)
                    replace h_143 : (Int32.toInt r_142 = ((Int32.toInt x1_13 * 6 + Int32.toInt x2_38) * 7 + Int32.toInt x3_60) * 2 + Int32.toInt x4_84) := h_143
                    have i_144 := h_143
                    refine dOk_B (ok_isNow q_137 2 i_139) (fun r_145 q_146 h_147 => ?_)
                    replace h_147 : (TS q_146) ∧ (dFr [] [22, 23, 24, 25] q_137 q_146) ∧ ((Int32.toInt r_145 = 0 ∨ Int32.toInt r_145 = 1)) := h_147
                    obtain ⟨i_148, i_149, i_150⟩ := h_147
                    have hFq_146 : dFr [12, 16, 17, 18, 19, 20] [22, 23, 24, 25, 37, 38] q q_146 := hFq_137.t i_149 (by decide) (by decide)
                    refine dOk_eq (A := Int32.toInt r_145) (B := 0) rfl (by decide) (fun c_151z c_151 => ?_) (fun c_152z c_152 => ?_)
                    · refine dOk_B (ok_paysNow q_146 i_148) (fun r_154 q_155 h_156 => ?_)
                      replace h_156 : (TS q_155) ∧ (dFr [] [22, 23, 24, 25] q_146 q_155) ∧ ((0 ≤ Int32.toInt (q_146.1 12 0) ∧ Int32.toInt (q_146.1 12 0) ≤ 99) → 0 ≤ Int32.toInt r_154 ∧ Int32.toInt r_154 ≤ 99) := h_156
                      obtain ⟨i_157, i_158, i_159⟩ := h_156
                      have hFq_155 : dFr [12, 16, 17, 18, 19, 20] [22, 23, 24, 25, 37, 38] q q_155 := hFq_146.t i_158 (by decide) (by decide)
                      have w_160 : Int32.toInt (q_146.1 12 0) = Int32.toInt (q_137.1 12 0) := by rw [i_149.1 12 (by decide) (by decide)]
                      unfold zX10_laysPrices_98
                      refine dOk_G (dg_ok (show 0 ≤ Int32.toInt r_142 by omega) (show Int32.toInt r_142 < ((588 : Nat) : Int) by omega)) ?_
                      have n_161 : ((Int32.toNatClampNeg r_142 : Nat) : Int) = Int32.toInt r_142 := cl_eq (by omega)
                      refine dOk_L (fun q_162 eq_162 => ?_)
                      have hTq_162 : TS q_162 := by rw [eq_162]; exact ts_set i_157 (by decide) (show -1 ≤ Int32.toInt r_154 by omega) (show Int32.toInt r_154 ≤ 99 by omega)
                      have hFq_162 : dFr [12, 16, 17, 18, 19, 20] [22, 23, 24, 25, 37, 38] q q_162 := by rw [eq_162]; exact hFq_155.i (by decide) (by decide)
                      try have t_163 : Int32.toInt (x4_84 + 1) = Int32.toInt x4_84 + 1 := ti_add rfl (by decide) (by omega) (by omega)
                      exact hk_78 (q_162, x1_13, x2_38, x3_60, (x4_84 + 1)) (show (TS q_162) ∧ (dFr [12, 20] [22, 23, 24, 25] q_57 q_162) ∧ (x1_13 = x1_13) ∧ (x2_38 = x2_38) ∧ (x3_60 = x3_60) ∧ (0 ≤ Int32.toInt (x4_84 + 1)) ∧ (Int32.toInt (x4_84 + 1) ≤ 2) from ⟨hTq_162, (by rw [eq_162]; exact (((((((((dFr.rf : dFr [12, 20] [22, 23, 24, 25] q_57 q_57).t a_86 (by decide) (by decide)) : dFr [12, 20] [22, 23, 24, 25] q_57 q_80).t i_140 (by decide) (by decide)) : dFr [12, 20] [22, 23, 24, 25] q_57 q_137).t i_149 (by decide) (by decide)) : dFr [12, 20] [22, 23, 24, 25] q_57 q_146).t i_158 (by decide) (by decide)) : dFr [12, 20] [22, 23, 24, 25] q_57 q_155).i (by decide) (by decide)), rfl, rfl, rfl, by omega, by omega⟩) (show (2 - Int32.toInt (x4_84 + 1)).toNat < (2 - Int32.toInt x4_84).toNat by omega)
                    · unfold zX10_laysPrices_98
                      refine dOk_G (dg_ok (show 0 ≤ Int32.toInt r_142 by omega) (show Int32.toInt r_142 < ((588 : Nat) : Int) by omega)) ?_
                      have n_164 : ((Int32.toNatClampNeg r_142 : Nat) : Int) = Int32.toInt r_142 := cl_eq (by omega)
                      refine dOk_L (fun q_165 eq_165 => ?_)
                      have hTq_165 : TS q_165 := by rw [eq_165]; exact ts_set i_148 (by decide) (show -1 ≤ (-1 : Int) by omega) (show (-1 : Int) ≤ 99 by omega)
                      have hFq_165 : dFr [12, 16, 17, 18, 19, 20] [22, 23, 24, 25, 37, 38] q q_165 := by rw [eq_165]; exact hFq_146.i (by decide) (by decide)
                      try have t_166 : Int32.toInt (x4_84 + 1) = Int32.toInt x4_84 + 1 := ti_add rfl (by decide) (by omega) (by omega)
                      exact hk_78 (q_165, x1_13, x2_38, x3_60, (x4_84 + 1)) (show (TS q_165) ∧ (dFr [12, 20] [22, 23, 24, 25] q_57 q_165) ∧ (x1_13 = x1_13) ∧ (x2_38 = x2_38) ∧ (x3_60 = x3_60) ∧ (0 ≤ Int32.toInt (x4_84 + 1)) ∧ (Int32.toInt (x4_84 + 1) ≤ 2) from ⟨hTq_165, (by rw [eq_165]; exact (((((((dFr.rf : dFr [12, 20] [22, 23, 24, 25] q_57 q_57).t a_86 (by decide) (by decide)) : dFr [12, 20] [22, 23, 24, 25] q_57 q_80).t i_140 (by decide) (by decide)) : dFr [12, 20] [22, 23, 24, 25] q_57 q_137).t i_149 (by decide) (by decide)) : dFr [12, 20] [22, 23, 24, 25] q_57 q_146).i (by decide) (by decide)), rfl, rfl, rfl, by omega, by omega⟩) (show (2 - Int32.toInt (x4_84 + 1)).toNat < (2 - Int32.toInt x4_84).toNat by omega)
              · exact (show (TS q_57) ∧ (dFr [12, 20] [22, 23, 24, 25] q_57 q_57) ∧ (x1_13 = x1_13) ∧ (x2_38 = x2_38) ∧ (x3_60 = x3_60) ∧ (0 ≤ (0 : Int)) ∧ ((0 : Int) ≤ 2) from ⟨a_61, dFr.rf, rfl, rfl, rfl, by omega, by omega⟩)
              · show (2 - (0 : Int)).toNat < 1000000000000
                omega
          · exact (show (TS q_36) ∧ (dFr [12, 20] [22, 23, 24, 25] q_36 q_36) ∧ (x1_13 = x1_13) ∧ (x2_38 = x2_38) ∧ (0 ≤ (0 : Int)) ∧ ((0 : Int) ≤ 7) from ⟨a_39, dFr.rf, rfl, rfl, by omega, by omega⟩)
          · show (7 - (0 : Int)).toNat < 1000000000000
            omega
      · exact (show (TS q_12) ∧ (dFr [12, 20] [22, 23, 24, 25] q_12 q_12) ∧ (x1_13 = x1_13) ∧ (0 ≤ (0 : Int)) ∧ ((0 : Int) ≤ 6) from ⟨a_14, dFr.rf, rfl, by omega, by omega⟩)
      · show (6 - (0 : Int)).toNat < 1000000000000
        omega
  · exact (show (TS q_1) ∧ (dFr [12, 20] [22, 23, 24, 25] q_1 q_1) ∧ (1 ≤ (1 : Int)) ∧ ((1 : Int) ≤ 7) from ⟨i_3, dFr.rf, by omega, by omega⟩)
  · show (7 - (1 : Int)).toNat < 1000000000000
    omega
end
section
/-! the reader of texts: what it takes is in the grammar -/
def pC (n : Nat) (c : Nat → Int32) (i : Nat) : Int := if i < n then (c i).toInt else 0
def pV (v : Nat → Int32) (i : Nat) : Int := (v i).toInt
def loW (o : Bool) : Int := match o with
  | true => 15
  | false => 8
def hiW (o : Bool) : Int := match o with
  | true => 21
  | false => 16
def fn (q : dS) : Prop := q.1 0 21 = -1
def PQ (o : Bool) (n : Nat) (c v : Nat → Int32) (i : Nat) (q : dS) : Prop := TS q ∧ q.1 9 = c ∧ q.1 10 = v ∧ (q.1 0 18).toInt = (n : Int) ∧ n ≤ 400 ∧ c n = 0 ∧ (q.1 0 19).toInt = (i : Int) ∧ i ≤ n ∧ (q.1 0 10).toInt = bI o ∧ (q.1 0 8).toInt = loW o ∧ (q.1 0 9).toInt = hiW o
def PR (o : Bool) (n : Nat) (c v : Nat → Int32) (q : dS) (i : Nat) (X : Nat → Prop) (Q : dS) : Prop := ∃ j : Nat, i ≤ j ∧ PQ o n c v j Q ∧ dFr [] [19, 20, 21] q Q ∧ (fn Q → fn q ∧ X j)
theorem PR.bind {o : Bool} {n : Nat} {c v : Nat → Int32} {q Q Q2 : dS} {i j : Nat} {X Y : Nat → Prop} (hj : i ≤ j) (hF : dFr [] [19, 20, 21] q Q) (hX : fn Q → fn q) (h2 : PR o n c v Q j Y Q2) (hk : ∀ m : Nat, fn Q → Y m → X m) : PR o n c v q i X Q2 := by
  obtain ⟨m, h3, h4, h5, h6⟩ := h2
  exact ⟨m, by omega, h4, hF.t h5 (by decide) (by decide), fun z => ⟨hX (h6 z).1, hk m (h6 z).1 (h6 z).2⟩⟩
theorem PR.no {o : Bool} {n : Nat} {c v : Nat → Int32} {q Q : dS} {i j : Nat} {X : Nat → Prop} (hj : i ≤ j) (h : PQ o n c v j Q) (hF : dFr [] [19, 20, 21] q Q) (hn : ¬ fn Q) : PR o n c v q i X Q := ⟨j, hj, h, hF, fun z => absurd z hn⟩
theorem pq_set {o : Bool} {n : Nat} {c v : Nat → Int32} {i : Nat} {q : dS} {k : Nat} {x : Int32} (hk : k = 20 ∨ k = 21) (h : PQ o n c v i q) : PQ o n c v i (dui q 0 k x) := by
  obtain ⟨hT, h1, h2, h3, h4, h5, h6, h7, h8, h9, h10⟩ := h
  refine ⟨?_, ?_, ?_, ?_, h4, h5, ?_, h7, ?_, ?_, ?_⟩
  · rcases hk with e | e <;> subst e <;> exact ts_f hT (ti_rg _).1 (ti_rg _).2
  · rw [dui_o (by decide)]; exact h1
  · rw [dui_o (by decide)]; exact h2
  · rw [dui_n (by omega)]; exact h3
  · rw [dui_n (by omega)]; exact h6
  · rw [dui_n (by omega)]; exact h8
  · rw [dui_n (by omega)]; exact h9
  · rw [dui_n (by omega)]; exact h10
theorem pq_tok {o : Bool} {n : Nat} {c v : Nat → Int32} {i : Nat} {q : dS} (h : PQ o n c v i q) (hi : i < n) : PQ o n c v (i + 1) (dui q 0 19 ((q.1 0 19) + 1)) := by
  obtain ⟨hT, h1, h2, h3, h4, h5, h6, h7, h8, h9, h10⟩ := h
  have t : Int32.toInt (q.1 0 19 + 1) = (i : Int) + 1 := ti_add h6 (by decide) (by omega) (by omega)
  refine ⟨ts_f hT (ti_rg _).1 (ti_rg _).2, ?_, ?_, ?_, h4, h5, ?_, by omega, ?_, ?_, ?_⟩
  · rw [dui_o (by decide)]; exact h1
  · rw [dui_o (by decide)]; exact h2
  · rw [dui_n (by decide)]; exact h3
  · rw [dui_e, t]; omega
  · rw [dui_n (by decide)]; exact h8
  · rw [dui_n (by decide)]; exact h9
  · rw [dui_n (by decide)]; exact h10
theorem fr_p {q : dS} {k : Nat} {x : Int32} (hk : k ∈ [19, 20, 21]) : dFr [] [19, 20, 21] q (dui q 0 k x) := dFr.rf.f hk
theorem fr_pt {q q1 q2 : dS} (h : dFr [] [19, 20, 21] q q1) (h2 : dFr [] [19, 20, 21] q1 q2) : dFr [] [19, 20, 21] q q2 := h.t h2 (by decide) (by decide)
theorem fn_tok {q : dS} {x : Int32} : fn (dui q 0 19 x) ↔ fn q := by unfold fn; rw [dui_n (by decide)]
theorem fn_lea {q : dS} {x : Int32} : fn (dui q 0 20 x) ↔ fn q := by unfold fn; rw [dui_n (by decide)]
theorem pr_fine (q : dS) : dOk (zX10_fine q) (fun r => r.2 = q ∧ ((r.1 = 1 ∧ fn q) ∨ (r.1 = 0 ∧ ¬ fn q))) := by
  unfold zX10_fine zX10_fine_13
  by_cases c : q.1 0 21 = -1
  · rw [if_pos c]; exact dOk_G (by decide) (dOk_some ⟨rfl, Or.inl ⟨rfl, c⟩⟩)
  · rw [if_neg c]; exact dOk_G (by decide) (dOk_some ⟨rfl, Or.inr ⟨rfl, c⟩⟩)
theorem pr_faults {o : Bool} {n : Nat} {c v : Nat → Int32} {i : Nat} {q : dS} (h : PQ o n c v i q) : dOk (zX10_faults q) (fun Q => PQ o n c v i Q ∧ dFr [] [19, 20, 21] q Q ∧ ¬ fn Q) := by
  unfold zX10_faults zX10_faults_20
  refine dOk_B (pr_fine q) (fun r q3 hr => ?_)
  obtain ⟨e3, hr⟩ := hr
  have e3 : q3 = q := e3
  subst e3
  rcases hr with ⟨e, hf⟩ | ⟨e, hf⟩
  · have e : r = 1 := e
    subst e
    rw [if_neg (by decide)]
    have h19 := h.2.2.2.2.2.2.1
    have hn := h.2.2.2.2.2.2.2.1
    have h400 := h.2.2.2.2.1
    refine dOk_G (dg_ok (by omega) (by omega)) (dOk_L (fun v5 e5 => dOk_L (fun q6 e6 => dOk_some ?_)))
    have f5 : 0 ≤ Int32.toInt v5 ∧ Int32.toInt v5 ≤ 400 := by rw [e5]; exact h.1.1 11 _
    subst e6
    refine ⟨pq_set (Or.inr rfl) h, fr_p (by decide), ?_⟩
    unfold fn
    rw [dui_e]
    intro z
    rw [z] at f5
    exact absurd f5.1 (by decide)
  · have e : r = 0 := e
    subst e
    rw [if_pos rfl]
    exact dOk_some ⟨h, dFr.rf, hf⟩
/-- the code in hand -/
theorem pr_code {o : Bool} {n : Nat} {c v : Nat → Int32} {i : Nat} {q : dS} (h : PQ o n c v i q) : (dg (q.1 0 19) 401 = true) ∧ Int32.toInt (q.1 9 (Int32.toNatClampNeg (q.1 0 19))) = pC n c i ∧ Int32.toInt (q.1 10 (Int32.toNatClampNeg (q.1 0 19))) = pV v i := by
  have h19 := h.2.2.2.2.2.2.1
  have hn := h.2.2.2.2.2.2.2.1
  have h400 := h.2.2.2.2.1
  have e : Int32.toNatClampNeg (q.1 0 19) = i := by
    have := cl_eq (i := q.1 0 19) (by omega)
    omega
  refine ⟨dg_ok (by omega) (by omega), ?_, ?_⟩
  · rw [e, h.2.1]
    unfold pC
    by_cases z : i < n
    · rw [if_pos z]
    · rw [if_neg z]
      have : i = n := by omega
      rw [this, h.2.2.2.2.2.1]
      decide
  · rw [e, h.2.2.1]
    rfl
theorem pC_in {n : Nat} {c : Nat → Int32} {i : Nat} (h : ¬ pC n c i = 0) : i < n := by
  unfold pC at h
  by_cases z : i < n
  · exact z
  · rw [if_neg z] at h; exact absurd rfl h
theorem pr_takes {o : Bool} {n : Nat} {c v : Nat → Int32} {i : Nat} {q : dS} (p1 : Int32) (hp : ¬ p1.toInt = 0) (h : PQ o n c v i q) : dOk (zX10_takes0 q p1) (fun r => (r.1 = 1 ∧ fn q ∧ fn r.2 ∧ pC n c i = p1.toInt ∧ PQ o n c v (i + 1) r.2 ∧ dFr [] [19, 20, 21] q r.2) ∨ (r.1 = 0 ∧ r.2 = q ∧ (fn q → ¬ pC n c i = p1.toInt))) := by
  unfold zX10_takes0 zX10_takes0_24 zX10_takes0_25 zX10_takes0_40
  refine dOk_B (pr_fine q) (fun r q3 hr => ?_)
  obtain ⟨e3, hr⟩ := hr
  have e3 : q3 = q := e3
  subst e3
  rw [if_pos rfl]
  rcases hr with ⟨e, hf⟩ | ⟨e, hf⟩
  · have e : r = 1 := e
    subst e
    rw [if_neg (by decide)]
    obtain ⟨g1, g2, _⟩ := pr_code h
    refine dOk_G g1 (dOk_L (fun v5 e5 => ?_))
    rw [← e5] at g2
    refine dOk_eq rfl rfl (fun _ z => ?_) (fun _ z => ?_)
    · rw [if_neg (by decide)]
      refine dOk_L (fun q1 e1 => dOk_G (by decide) (dOk_some (Or.inl ⟨rfl, hf, ?_, by omega, ?_, ?_⟩)))
      · show fn q1
        rw [e1]; exact fn_tok.mpr hf
      · show PQ o n c v (i + 1) q1
        rw [e1]; exact pq_tok h (pC_in (c := c) (by omega))
      · show dFr [] [19, 20, 21] q3 q1
        rw [e1]; exact fr_p (by decide)
    · exact dOk_G (by decide) (dOk_some (Or.inr ⟨rfl, rfl, fun _ => by omega⟩))
  · have e : r = 0 := e
    subst e
    rw [if_pos rfl]
    exact dOk_G (by decide) (dOk_some (Or.inr ⟨rfl, rfl, fun z => absurd z hf⟩))
theorem pr_must {o : Bool} {n : Nat} {c v : Nat → Int32} {i : Nat} {q : dS} (p1 : Int32) (hp : ¬ p1.toInt = 0) (h : PQ o n c v i q) : dOk (zX10_must q p1) (fun Q => PR o n c v q i (fun j => j = i + 1 ∧ pC n c i = p1.toInt) Q) := by
  unfold zX10_must zX10_must_12
  refine dOk_B (pr_takes p1 hp h) (fun r q3 hr => ?_)
  rcases hr with ⟨e, h1, h2, h3, h4, h5⟩ | ⟨e, e3, h2⟩
  · have e : r = 1 := e
    subst e
    rw [if_neg (by decide)]
    exact dOk_some ⟨i + 1, by omega, h4, h5, fun _ => ⟨h1, rfl, h3⟩⟩
  · have e : r = 0 := e
    have e3 : q3 = q := e3
    subst e e3
    rw [if_pos rfl]
    refine dOk_V (pr_faults h) (fun q6 h6 => dOk_some ?_)
    exact PR.no (Nat.le_refl i) h6.1 h6.2.1 h6.2.2
theorem pr_leaf {o : Bool} {n : Nat} {c v : Nat → Int32} {i : Nat} {q : dS} (hi : i < n) (h : PQ o n c v i q) : dOk (zX10_leaf q) (fun Q => PR o n c v q i (fun j => j = i + 1) Q) := by
  have h13 : ∀ q1 : dS, PQ o n c v i q1 → dFr [] [19, 20, 21] q q1 → (fn q1 → fn q) → dOk (zX10_leaf_13 q1) (fun Q => PR o n c v q i (fun j => j = i + 1) Q) := by
    intro q1 h1 hF1 hf1
    unfold zX10_leaf_13 zX10_leaf_40
    refine dOk_L (fun q2 e2 => ?_)
    have h2 : PQ o n c v i q2 := by rw [e2]; exact pq_set (Or.inl rfl) h1
    have hF2 : dFr [] [19, 20, 21] q q2 := by rw [e2]; exact fr_pt hF1 (fr_p (by decide))
    have hf2 : fn q2 → fn q := by rw [e2]; exact fun z => hf1 (fn_lea.mp z)
    refine dOk_B (pr_fine q2) (fun r q4 hr => ?_)
    obtain ⟨e3, hr⟩ := hr
    have e3 : q4 = q2 := e3
    subst e3
    rcases hr with ⟨e, hf⟩ | ⟨e, hf⟩
    · have e : r = 1 := e
      subst e
      rw [if_neg (by decide)]
      refine dOk_L (fun q5 e5 => dOk_some ?_)
      subst e5
      exact ⟨i + 1, by omega, pq_tok h2 hi, fr_pt hF2 (fr_p (by decide)), fun z => ⟨hf2 hf, rfl⟩⟩
    · have e : r = 0 := e
      subst e
      rw [if_pos rfl]
      exact dOk_some (PR.no (Nat.le_refl i) h2 hF2 hf)
  unfold zX10_leaf
  refine dOk_eq rfl rfl (fun _ _ => ?_) (fun _ _ => h13 q h dFr.rf (fun z => z))
  exact dOk_V (pr_faults h) (fun q3 h3 => h13 q3 h3.1 h3.2.1 (fun z => absurd z h3.2.2))
theorem pr_number {o : Bool} {n : Nat} {c v : Nat → Int32} {i : Nat} {q : dS} (p1 p2 : Int32) (h : PQ o n c v i q) : dOk (zX10_mustNumber q p1 p2) (fun Q => PR o n c v q i (fun j => j = i + 1 ∧ pC n c i = 50 ∧ p1.toInt ≤ pV v i ∧ pV v i ≤ p2.toInt) Q) := by
  have h42 : ∀ q1 : dS, PQ o n c v i q1 → dFr [] [19, 20, 21] q q1 → (fn q1 → fn q ∧ pC n c i = 50 ∧ p1.toInt ≤ pV v i ∧ pV v i ≤ p2.toInt) → dOk (zX10_mustNumber_42 q1) (fun Q => PR o n c v q i (fun j => j = i + 1 ∧ pC n c i = 50 ∧ p1.toInt ≤ pV v i ∧ pV v i ≤ p2.toInt) Q) := by
    intro q1 h1 hF1 hf1
    unfold zX10_mustNumber_42 zX10_mustNumber_59
    refine dOk_B (pr_fine q1) (fun r q4 hr => ?_)
    obtain ⟨e3, hr⟩ := hr
    have e3 : q4 = q1 := e3
    subst e3
    rcases hr with ⟨e, hf⟩ | ⟨e, hf⟩
    · have e : r = 1 := e
      subst e
      rw [if_neg (by decide)]
      refine dOk_L (fun q5 e5 => dOk_some ?_)
      subst e5
      have hh := hf1 hf
      exact ⟨i + 1, by omega, pq_tok h1 (pC_in (c := c) (by omega)), fr_pt hF1 (fr_p (by decide)), fun z => ⟨hh.1, rfl, hh.2⟩⟩
    · have e : r = 0 := e
      subst e
      rw [if_pos rfl]
      exact dOk_some (PR.no (Nat.le_refl i) h1 hF1 hf)
  have h38 : dOk (zX10_mustNumber_38 q) (fun Q => PR o n c v q i (fun j => j = i + 1 ∧ pC n c i = 50 ∧ p1.toInt ≤ pV v i ∧ pV v i ≤ p2.toInt) Q) := by
    unfold zX10_mustNumber_38
    exact dOk_V (pr_faults h) (fun q3 h3 => h42 q3 h3.1 h3.2.1 (fun z => absurd z h3.2.2))
  unfold zX10_mustNumber
  refine dOk_B (pr_fine q) (fun r q3 hr => ?_)
  obtain ⟨e3, hr⟩ := hr
  have e3 : q3 = q := e3
  subst e3
  rcases hr with ⟨e, hf⟩ | ⟨e, hf⟩
  · have e : r = 1 := e
    subst e
    rw [if_neg (by decide)]
    obtain ⟨g1, g2, g3⟩ := pr_code h
    refine dOk_G g1 (dOk_L (fun v5 e5 => ?_))
    rw [← e5] at g2
    refine dOk_eq (A := v5.toInt) (B := 50) rfl (by decide) (fun _ z => ?_) (fun _ _ => h38)
    refine dOk_G g1 (dOk_L (fun v7 e7 => ?_))
    rw [← e7] at g3
    refine dOk_V (ok_lies v7 p1 p2) (fun r8 hr8 => ?_)
    have hr8 : (Int32.toInt r8 = 1 ∧ Int32.toInt p1 ≤ Int32.toInt v7 ∧ Int32.toInt v7 ≤ Int32.toInt p2) ∨ (Int32.toInt r8 = 0 ∧ (Int32.toInt v7 < Int32.toInt p1 ∨ Int32.toInt p2 < Int32.toInt v7)) := hr8
    exact dOk_eq (A := r8.toInt) (B := 0) rfl (by decide) (fun _ _ => h38) (fun _ z8 => h42 q3 h dFr.rf (fun _ => ⟨hf, by omega, by omega, by omega⟩))
  · have e : r = 0 := e
    subst e
    rw [if_pos rfl]
    exact h42 q3 h dFr.rf (fun z => absurd z hf)
end
section
theorem gSeq_cons {op : Nat → Prop} {X : Nat → Nat → Prop} {i m j : Nat} (h : X i m) (h2 : (¬ op m ∧ j = m) ∨ (op m ∧ gSeq op X (m + 1) j)) : gSeq op X i j := by
  rcases h2 with ⟨h2, rfl⟩ | ⟨h2, k, h3⟩
  · exact ⟨0, h, h2⟩
  · exact ⟨k + 1, m, h, h2, h3⟩
def PrS (o : Bool) (n : Nat) (c v : Nat → Int32) (d : Nat) (X : Nat → Nat → Prop) (z : dS → Int32 → Option dS) : Prop := ∀ (q : dS) (p1 : Int32) (i : Nat), PQ o n c v i q → p1.toInt = 8 - (d : Int) → dOk (z q p1) (fun Q => PR o n c v q i (X i) Q)
theorem gPart_leaf {o : Bool} {C V : Nat → Int} {d i j : Nat} (h : gLeaf o C V i j) : gPart o C V d i j := by
  cases d with
  | zero => exact h
  | succ d => exact Or.inl h
theorem pr_part {kS : dS → Int32 → Option dS} {o : Bool} {n : Nat} {c v : Nat → Int32} (d : Nat) (hd : d ≤ 8) (hk : ∀ d', d = d' + 1 → PrS o n c v d' (gSum o (pC n c) (pV v) d') kS) : PrS o n c v d (gPart o (pC n c) (pV v) d) (zX10_readPart kS) := by
  intro q p1 i h hp
  unfold zX10_readPart
  refine dOk_B (pr_fine q) (fun r q3 hr => ?_)
  obtain ⟨e3, hr⟩ := hr
  have e3 : q3 = q := e3
  subst e3
  rcases hr with ⟨e, hf⟩ | ⟨e, hf⟩
  rotate_left
  · have e : r = 0 := e
    subst e
    rw [if_pos rfl]
    exact dOk_some (PR.no (Nat.le_refl i) h dFr.rf hf)
  have e : r = 1 := e
  subst e
  rw [if_neg (by decide)]
  obtain ⟨g1, g2, g3⟩ := pr_code h
  refine dOk_G g1 (dOk_L (fun v5 e5 => ?_))
  rw [← e5] at g2
  have h37n : ∀ (q1 : dS), PQ o n c v i q1 → dFr [] [19, 20, 21] q3 q1 → ¬ fn q1 → dOk (zX10_readPart_37 kS q1 p1) (fun Q => PR o n c v q3 i (gPart o (pC n c) (pV v) d i) Q) := by
    intro q1 h1 hF1 hn1
    unfold zX10_readPart_37
    refine dOk_B (pr_fine q1) (fun r q4 hr => ?_)
    obtain ⟨e3, hr⟩ := hr
    have e3 : q4 = q1 := e3
    subst e3
    rcases hr with ⟨e, hf⟩ | ⟨e, hf⟩
    · exact absurd hf hn1
    · have e : r = 0 := e
      subst e
      rw [if_pos rfl]
      exact dOk_some (PR.no (Nat.le_refl i) h1 hF1 hf)
  refine dOk_V (sg 91 (by decide) (by decide)) (fun r6 hr6 => ?_)
  have hr6 : r6.toInt = 191 := hr6
  refine dOk_eq rfl rfl (fun _ z191 => ?_) (fun _ z191 => ?_)
  · have hi : i < n := pC_in (c := c) (by omega)
    refine dOk_eq (A := p1.toInt) (B := 8) rfl (by decide) (fun _ z8 => ?_) (fun _ z8 => ?_)
    · exact dOk_V (pr_faults h) (fun q12 h12 => h37n q12 h12.1 h12.2.1 h12.2.2)
    · obtain ⟨d', rfl⟩ : ∃ d', d = d' + 1 := ⟨d - 1, by omega⟩
      unfold zX10_readPart_37 zX10_readPart_147
      refine dOk_B (pr_fine q3) (fun r q4 hr => ?_)
      obtain ⟨e3, hr⟩ := hr
      have e3 : q4 = q3 := e3
      subst e3
      rcases hr with ⟨e, hf4⟩ | ⟨e, hf4⟩
      rotate_left
      · exact absurd hf hf4
      have e : r = 1 := e
      subst e
      rw [if_neg (by decide)]
      refine dOk_L (fun q5 e6 => ?_)
      have h5 : PQ o n c v (i + 1) q5 := by rw [e6]; exact pq_tok h hi
      have hF5 : dFr [] [19, 20, 21] q4 q5 := by rw [e6]; exact fr_p (by decide)
      have tp : Int32.toInt (p1 + 1) = p1.toInt + 1 := ti_add rfl (by decide) (by omega) (by omega)
      refine dOk_V (hk d' rfl q5 (p1 + 1) (i + 1) h5 (by omega)) (fun q7 h7 => ?_)
      obtain ⟨j, hj, h7, hF7, hX7⟩ := h7
      refine dOk_V (sg 93 (by decide) (by decide)) (fun r8 hr8 => ?_)
      have hr8 : r8.toInt = 193 := hr8
      refine dOk_V (pr_must r8 (by omega) h7) (fun q12 h12 => dOk_some ?_)
      obtain ⟨j2, hj2, h12, hF12, hX12⟩ := h12
      refine ⟨j2, by omega, h12, fr_pt hF5 (fr_pt hF7 hF12), fun z => ⟨hf, ?_⟩⟩
      obtain ⟨z1, rfl, z3⟩ := hX12 z
      exact Or.inr ⟨by omega, j, (hX7 z1).2, by omega, rfl⟩
  · have h111 : ∀ x2 : Int32, x2.toInt = pC n c i → (x2.toInt = 50 ∨ (loW o ≤ x2.toInt ∧ x2.toInt ≤ hiW o)) → dOk (zX10_readPart_111 kS q3 x2) (fun Q => PR o n c v q3 i (gPart o (pC n c) (pV v) d i) Q) := by
      intro x2 hx2 hx
      have hlo : 8 ≤ loW o := by cases o <;> decide
      have hi : i < n := pC_in (c := c) (by omega)
      unfold zX10_readPart_111 zX10_readPart_134 zX10_readPart_147
      refine dOk_V (pr_leaf hi h) (fun q4 h4 => ?_)
      obtain ⟨j, hj, h4, hF4, hX4⟩ := h4
      have h10 := h4.2.2.2.2.2.2.2.2.1
      cases o with
      | false =>
        rw [if_pos (Int32.toInt_inj.mp h10)]
        refine dOk_some ⟨j, hj, h4, hF4, fun z => ⟨hf, gPart_leaf ?_⟩⟩
        show gLeafL (pC n c) i j
        unfold gLeafL
        have z2 := (hX4 z).2
        have : loW false = 8 := rfl
        have : hiW false = 16 := rfl
        omega
      | true =>
        rw [if_neg (fun z => by rw [z] at h10; exact absurd h10 (by decide))]
        have w1 : loW true = 15 := rfl
        have w2 : hiW true = 21 := rfl
        have hnum : (x2.toInt = 21 ∨ x2.toInt = 15) → dOk (dV (zX10_mustNumber q4 0 5) (fun q3 => some q3)) (fun Q => PR true n c v q3 i (gPart true (pC n c) (pV v) d i) Q) := by
          intro hx'
          refine dOk_V (pr_number 0 5 h4) (fun q6 h6 => dOk_some ?_)
          obtain ⟨j2, hj2, h6, hF6, hX6⟩ := h6
          refine ⟨j2, by omega, h6, fr_pt hF4 hF6, fun z => ⟨hf, gPart_leaf ?_⟩⟩
          obtain ⟨z1, z2, z3, z4, z5⟩ := hX6 z
          have z6 := (hX4 z1).2
          have d0 : (0 : Int32).toInt = 0 := by decide
          have d5 : (5 : Int32).toInt = 5 := by decide
          subst z6
          show gLeafO (pC n c) (pV v) i j2
          unfold gLeafO
          omega
        refine dOk_eq (A := x2.toInt) (B := 21) rfl (by decide) (fun _ z => hnum (Or.inl z)) (fun _ z21 => ?_)
        refine dOk_eq (A := x2.toInt) (B := 15) rfl (by decide) (fun _ z => hnum (Or.inr z)) (fun _ z15 => ?_)
        refine dOk_some ⟨j, hj, h4, hF4, fun z => ⟨hf, gPart_leaf ?_⟩⟩
        show gLeafO (pC n c) (pV v) i j
        unfold gLeafO
        have z2 := (hX4 z).2
        omega
    have h95 : dOk (zX10_readPart_95 kS q3 v5) (fun Q => PR o n c v q3 i (gPart o (pC n c) (pV v) d i) Q) := by
      have h143 : dOk (zX10_readPart_143 kS q3) (fun Q => PR o n c v q3 i (gPart o (pC n c) (pV v) d i) Q) := by
        unfold zX10_readPart_143 zX10_readPart_147
        exact dOk_V (pr_faults h) (fun q6 h6 => dOk_some (PR.no (Nat.le_refl i) h6.1 h6.2.1 h6.2.2))
      unfold zX10_readPart_95
      have h8 := h.2.2.2.2.2.2.2.2.2.1
      have h9 := h.2.2.2.2.2.2.2.2.2.2
      refine dOk_lt rfl h8 (fun _ => h143) (fun z1 => ?_)
      exact dOk_lt h9 rfl (fun _ => h143) (fun z2 => h111 v5 g2 (Or.inr ⟨z1, z2⟩))
    refine dOk_eq (A := v5.toInt) (B := 50) rfl (by decide) (fun _ z50 => ?_) (fun _ _ => h95)
    refine dOk_G g1 (dOk_L (fun v9 e9 => ?_))
    exact dOk_le rfl rfl (fun _ => h111 v5 g2 (Or.inl z50)) (fun _ => h95)
theorem pr_term {kS : dS → Int32 → Option dS} {o : Bool} {n : Nat} {c v : Nat → Int32} {d : Nat} (hp : PrS o n c v d (gPart o (pC n c) (pV v) d) (zX10_readPart kS)) : PrS o n c v d (gSeq (gMul (pC n c)) (gPart o (pC n c) (pV v) d)) (zX10_readTerm kS) := by
  intro q p1 i h hd
  unfold zX10_readTerm
  refine dOk_V (hp q p1 i h hd) (fun q3 h3 => ?_)
  obtain ⟨m0, hm0, h3, hF3, hX3⟩ := h3
  unfold zX10_readTerm_5
  refine dFix_ok (fun (a : dS × Int32) => ∃ m : Nat, i ≤ m ∧ PQ o n c v m a.1 ∧ dFr [] [19, 20, 21] q a.1 ∧ a.2 = p1 ∧ (fn a.1 → fn q ∧ ∀ j : Nat, ((¬ gMul (pC n c) m ∧ j = m) ∨ (gMul (pC n c) m ∧ gSeq (gMul (pC n c)) (gPart o (pC n c) (pV v) d) (m + 1) j)) → gSeq (gMul (pC n c)) (gPart o (pC n c) (pV v) d) i j)) (fun (a : dS × Int32) => (401 - Int32.toInt (a.1.1 0 19)).toNat) ?_ _ ⟨m0, hm0, h3, hF3, rfl, fun z => ⟨(hX3 z).1, fun j hj => gSeq_cons (hX3 z).2 hj⟩⟩ _ (dF_gt ?_)
  · intro a ha k hk
    obtain ⟨qa, x1⟩ := a
    obtain ⟨m, him, h, hF, ex, hX⟩ := ha
    replace h : PQ o n c v m qa := h
    replace hF : dFr [] [19, 20, 21] q qa := hF
    replace ex : x1 = p1 := ex
    replace hX : fn qa → fn q ∧ ∀ j : Nat, ((¬ gMul (pC n c) m ∧ j = m) ∨ (gMul (pC n c) m ∧ gSeq (gMul (pC n c)) (gPart o (pC n c) (pV v) d) (m + 1) j)) → gSeq (gMul (pC n c)) (gPart o (pC n c) (pV v) d) i j := hX
    subst ex
    have h19 := h.2.2.2.2.2.2.1
    show dOk (zX10_readTerm_5b kS (fun q x1 => k (q, x1)) qa x1) _
    have h41 : ∀ q5 : dS, fn qa → gMul (pC n c) m → PQ o n c v (m + 1) q5 → dFr [] [19, 20, 21] qa q5 → fn q5 → dOk (zX10_readTerm_41 kS (fun q x1 => k (q, x1)) q5 x1) (fun Q => PR o n c v q i (gSeq (gMul (pC n c)) (gPart o (pC n c) (pV v) d) i) Q) := by
      intro q5 hfa hop h5 hF5 hf5
      unfold zX10_readTerm_41
      refine dOk_V (hp q5 x1 (m + 1) h5 hd) (fun q6 h6 => ?_)
      obtain ⟨m', hm', h6, hF6, hX6⟩ := h6
      have h19' := h6.2.2.2.2.2.2.1
      have hn' := h6.2.2.2.2.2.2.2.1
      have h400 := h6.2.2.2.2.1
      refine hk (q6, x1) ⟨m', by omega, h6, fr_pt hF (fr_pt hF5 hF6), rfl, fun z => ⟨(hX hfa).1, fun j hj => (hX hfa).2 j (Or.inr ⟨hop, gSeq_cons (hX6 z).2 hj⟩)⟩⟩ ?_
      show (401 - Int32.toInt (q6.1 0 19)).toNat < (401 - Int32.toInt (qa.1 0 19)).toNat
      omega
    unfold zX10_readTerm_5b
    refine dOk_V (sg 42 (by decide) (by decide)) (fun r1 hr1 => ?_)
    have hr1 : r1.toInt = 142 := hr1
    refine dOk_B (pr_takes r1 (by omega) h) (fun r3 q5 hr => ?_)
    rcases hr with ⟨e, z1, z2, z3, z4, z5⟩ | ⟨e, e5, y1⟩
    · have e : r3 = 1 := e
      subst e
      rw [if_neg (by decide)]
      exact h41 q5 z1 (Or.inl (by omega)) z4 z5 z2
    have e : r3 = 0 := e
    have e5 : q5 = qa := e5
    subst e e5
    rw [if_pos rfl]
    refine dOk_V (sg 47 (by decide) (by decide)) (fun r6 hr6 => ?_)
    have hr6 : r6.toInt = 147 := hr6
    refine dOk_B (pr_takes r6 (by omega) h) (fun r8 q10 hr => ?_)
    rcases hr with ⟨e, z1, z2, z3, z4, z5⟩ | ⟨e, e5, y2⟩
    · have e : r8 = 1 := e
      subst e
      rw [if_neg (by decide)]
      exact h41 q10 z1 (Or.inr (Or.inl (by omega))) z4 z5 z2
    have e : r8 = 0 := e
    have e5 : q10 = q5 := e5
    subst e e5
    rw [if_pos rfl]
    refine dOk_V (sg 37 (by decide) (by decide)) (fun r11 hr11 => ?_)
    have hr11 : r11.toInt = 137 := hr11
    refine dOk_B (pr_takes r11 (by omega) h) (fun r13 q15 hr => ?_)
    rcases hr with ⟨e, z1, z2, z3, z4, z5⟩ | ⟨e, e5, y3⟩
    · have e : r13 = 1 := e
      subst e
      rw [if_neg (by decide)]
      exact h41 q15 z1 (Or.inr (Or.inr (by omega))) z4 z5 z2
    have e : r13 = 0 := e
    have e5 : q15 = q10 := e5
    subst e e5
    rw [if_pos rfl]
    refine dOk_some ⟨m, him, h, hF, fun z => ⟨(hX z).1, (hX z).2 m (Or.inl ⟨?_, rfl⟩)⟩⟩
    have := y1 z
    have := y2 z
    have := y3 z
    unfold gMul
    omega
  · have := h3.2.2.2.2.2.2.1
    show (401 - Int32.toInt (q3.1 0 19)).toNat < 1000000000000
    omega
theorem pr_sum_o {kS : dS → Int32 → Option dS} {o : Bool} {n : Nat} {c v : Nat → Int32} {d : Nat} (hp : PrS o n c v d (gSeq (gMul (pC n c)) (gPart o (pC n c) (pV v) d)) (zX10_readTerm kS)) : PrS o n c v d (gSum o (pC n c) (pV v) d) (zX10_readSum_o kS) := by
  intro q p1 i h hd
  unfold zX10_readSum_o
  refine dOk_V (hp q p1 i h hd) (fun q3 h3 => ?_)
  obtain ⟨m0, hm0, h3, hF3, hX3⟩ := h3
  unfold zX10_readSum_5
  refine dFix_ok (fun (a : dS × Int32) => ∃ m : Nat, i ≤ m ∧ PQ o n c v m a.1 ∧ dFr [] [19, 20, 21] q a.1 ∧ a.2 = p1 ∧ (fn a.1 → fn q ∧ ∀ j : Nat, ((¬ gAdd (pC n c) m ∧ j = m) ∨ (gAdd (pC n c) m ∧ gSum o (pC n c) (pV v) d (m + 1) j)) → gSum o (pC n c) (pV v) d i j)) (fun (a : dS × Int32) => (401 - Int32.toInt (a.1.1 0 19)).toNat) ?_ _ ⟨m0, hm0, h3, hF3, rfl, fun z => ⟨(hX3 z).1, fun j hj => gSeq_cons (hX3 z).2 hj⟩⟩ _ (dF_gt ?_)
  · intro a ha k hk
    obtain ⟨qa, x1⟩ := a
    obtain ⟨m, him, h, hF, ex, hX⟩ := ha
    replace h : PQ o n c v m qa := h
    replace hF : dFr [] [19, 20, 21] q qa := hF
    replace ex : x1 = p1 := ex
    replace hX : fn qa → fn q ∧ ∀ j : Nat, ((¬ gAdd (pC n c) m ∧ j = m) ∨ (gAdd (pC n c) m ∧ gSum o (pC n c) (pV v) d (m + 1) j)) → gSum o (pC n c) (pV v) d i j := hX
    subst ex
    have h19 := h.2.2.2.2.2.2.1
    show dOk (zX10_readSum_5b kS (fun q x1 => k (q, x1)) qa x1) _
    have h29 : ∀ q5 : dS, fn qa → gAdd (pC n c) m → PQ o n c v (m + 1) q5 → dFr [] [19, 20, 21] qa q5 → fn q5 → dOk (zX10_readSum_29 kS (fun q x1 => k (q, x1)) q5 x1) (fun Q => PR o n c v q i (gSum o (pC n c) (pV v) d i) Q) := by
      intro q5 hfa hop h5 hF5 hf5
      unfold zX10_readSum_29
      refine dOk_V (hp q5 x1 (m + 1) h5 hd) (fun q6 h6 => ?_)
      obtain ⟨m', hm', h6, hF6, hX6⟩ := h6
      have h19' := h6.2.2.2.2.2.2.1
      have hn' := h6.2.2.2.2.2.2.2.1
      have h400 := h6.2.2.2.2.1
      refine hk (q6, x1) ⟨m', by omega, h6, fr_pt hF (fr_pt hF5 hF6), rfl, fun z => ⟨(hX hfa).1, fun j hj => (hX hfa).2 j (Or.inr ⟨hop, gSeq_cons (hX6 z).2 hj⟩)⟩⟩ ?_
      show (401 - Int32.toInt (q6.1 0 19)).toNat < (401 - Int32.toInt (qa.1 0 19)).toNat
      omega
    unfold zX10_readSum_5b
    refine dOk_V (sg 43 (by decide) (by decide)) (fun r1 hr1 => ?_)
    have hr1 : r1.toInt = 143 := hr1
    refine dOk_B (pr_takes r1 (by omega) h) (fun r3 q5 hr => ?_)
    rcases hr with ⟨e, z1, z2, z3, z4, z5⟩ | ⟨e, e5, y1⟩
    · have e : r3 = 1 := e
      subst e
      rw [if_neg (by decide)]
      exact h29 q5 z1 (Or.inl (by omega)) z4 z5 z2
    have e : r3 = 0 := e
    have e5 : q5 = qa := e5
    subst e e5
    rw [if_pos rfl]
    refine dOk_V (sg 45 (by decide) (by decide)) (fun r6 hr6 => ?_)
    have hr6 : r6.toInt = 145 := hr6
    refine dOk_B (pr_takes r6 (by omega) h) (fun r8 q10 hr => ?_)
    rcases hr with ⟨e, z1, z2, z3, z4, z5⟩ | ⟨e, e5, y2⟩
    · have e : r8 = 1 := e
      subst e
      rw [if_neg (by decide)]
      exact h29 q10 z1 (Or.inr (by omega)) z4 z5 z2
    have e : r8 = 0 := e
    have e5 : q10 = q5 := e5
    subst e e5
    rw [if_pos rfl]
    refine dOk_some ⟨m, him, h, hF, fun z => ⟨(hX z).1, (hX z).2 m (Or.inl ⟨?_, rfl⟩)⟩⟩
    have := y1 z
    have := y2 z
    unfold gAdd
    omega
  · have := h3.2.2.2.2.2.2.1
    show (401 - Int32.toInt (q3.1 0 19)).toNat < 1000000000000
    omega
theorem pr_sum {o : Bool} {n : Nat} {c v : Nat → Int32} : ∀ (k d : Nat), d < k → d ≤ 8 → PrS o n c v d (gSum o (pC n c) (pV v) d) (zX10_readSum k) := by
  intro k
  induction k with
  | zero => intro d hd; omega
  | succ k ih =>
    intro d hd hd8 q p1 i h hp
    have h1 : PrS o n c v d (gSum o (pC n c) (pV v) d) (zX10_readSum_o (zX10_readSum k)) := pr_sum_o (pr_term (pr_part d hd8 (fun d' e' => ih d' (by omega) (by omega))))
    exact h1 q p1 i h hp
end
section
theorem pr_plain {kT : dS → Int32 → Option dS} {o : Bool} {n : Nat} {c v : Nat → Int32} (d : Nat) (hd8 : d ≤ 8) (hk : ∀ d', d = d' + 1 → PrS o n c v d' (gTest o (pC n c) (pV v) d') kT) : PrS o n c v d (gPlain o (pC n c) (pV v) d) (zX10_readPlain kT) := by
  intro q p1 i h hp
  unfold zX10_readPlain zX10_readPlain_2
  refine dFix_ok (fun (a : dS × Int32 × Int32) => ∃ m : Nat, i ≤ m ∧ PQ o n c v m a.1 ∧ dFr [] [19, 20, 21] q a.1 ∧ a.2.1 = p1 ∧ (a.2.2 = 0 ∨ a.2.2 = 1) ∧ (fn a.1 → fn q ∧ (∀ b : Nat, i ≤ b → b < m → pC n c b = 7) ∧ (a.2.2 = 0 → ¬ pC n c m = 7))) (fun (a : dS × Int32 × Int32) => (2 * (401 - Int32.toInt (a.1.1 0 19)) + Int32.toInt a.2.2).toNat) ?_ _ ⟨i, Nat.le_refl i, h, dFr.rf, rfl, Or.inr rfl, fun z => ⟨z, fun b h1 h2 => by omega, fun z2 => absurd (show (1 : Int32) = 0 from z2) (by decide)⟩⟩ _ (dF_gt ?_)
  · intro a ha k hk2
    obtain ⟨qa, x1, x2⟩ := a
    obtain ⟨m, him, h, hF, ex, hx2, hX⟩ := ha
    replace h : PQ o n c v m qa := h
    replace hF : dFr [] [19, 20, 21] q qa := hF
    replace ex : x1 = p1 := ex
    replace hx2 : x2 = 0 ∨ x2 = 1 := hx2
    replace hX : fn qa → fn q ∧ (∀ b : Nat, i ≤ b → b < m → pC n c b = 7) ∧ (x2 = 0 → ¬ pC n c m = 7) := hX
    subst ex
    have h19 := h.2.2.2.2.2.2.1
    have hmn := h.2.2.2.2.2.2.2.1
    have h400 := h.2.2.2.2.1
    show dOk (zX10_readPlain_2b kT (fun q x1 x2 => k (q, x1, x2)) qa x1 x2) _
    unfold zX10_readPlain_2b
    rcases hx2 with e | e
    rotate_left
    · subst e
      rw [if_neg (by decide)]
      refine dOk_B (pr_takes 7 (by decide) h) (fun r q3 hr => ?_)
      rcases hr with ⟨e, z1, z2, z3, z4, z5⟩ | ⟨e, e5, y1⟩
      · have e : r = 1 := e
        have z3 : pC n c m = 7 := z3
        subst e
        have h19' : Int32.toInt (q3.1 0 19) = ((m + 1 : Nat) : Int) := z4.2.2.2.2.2.2.1
        refine hk2 (q3, x1, 1) ⟨m + 1, by omega, z4, fr_pt hF z5, rfl, Or.inr rfl, fun z => ⟨(hX z1).1, fun b h1 h2 => ?_, fun z9 => absurd (show (1 : Int32) = 0 from z9) (by decide)⟩⟩ ?_
        · rcases Nat.lt_or_ge b m with w | w
          · exact (hX z1).2.1 b h1 w
          · have : b = m := by omega
            rw [this]; exact z3
        · show (2 * (401 - Int32.toInt (q3.1 0 19)) + Int32.toInt 1).toNat < (2 * (401 - Int32.toInt (qa.1 0 19)) + Int32.toInt 1).toNat
          rw [show Int32.toInt 1 = (1 : Int) by decide]
          omega
      · have e : r = 0 := e
        have e5 : q3 = qa := e5
        subst e e5
        refine hk2 (q3, x1, 0) ⟨m, him, h, hF, rfl, Or.inl rfl, fun z => ⟨(hX z).1, (hX z).2.1, fun _ => y1 z⟩⟩ ?_
        have h19 : Int32.toInt (q3.1 0 19) = (m : Int) := h.2.2.2.2.2.2.1
        show (2 * (401 - Int32.toInt (q3.1 0 19)) + Int32.toInt 0).toNat < (2 * (401 - Int32.toInt (q3.1 0 19)) + Int32.toInt 1).toNat
        rw [show Int32.toInt 1 = (1 : Int) by decide, show Int32.toInt 0 = (0 : Int) by decide]
        omega
    subst e
    rw [if_pos rfl]
    refine dOk_B (pr_fine qa) (fun r q3 hr => ?_)
    obtain ⟨e3, hr⟩ := hr
    have e3 : q3 = qa := e3
    subst e3
    rcases hr with ⟨e, hf⟩ | ⟨e, hf⟩
    rotate_left
    · have e : r = 0 := e
      subst e
      rw [if_pos rfl]
      exact dOk_some (PR.no him h hF hf)
    have e : r = 1 := e
    subst e
    rw [if_neg (by decide)]
    have hnots : gNots (pC n c) i m := ⟨(hX hf).2.1, him, (hX hf).2.2 rfl⟩
    have hfq := (hX hf).1
    obtain ⟨g1, g2, g3⟩ := pr_code h
    refine dOk_G g1 (dOk_L (fun v5 e5 => ?_))
    rw [← e5] at g2
    refine dOk_V (sg 40 (by decide) (by decide)) (fun r6 hr6 => ?_)
    have hr6 : r6.toInt = 140 := hr6
    refine dOk_eq rfl rfl (fun _ z140 => ?_) (fun _ z140 => ?_)
    · have hi : m < n := pC_in (c := c) (by omega)
      refine dOk_eq (A := x1.toInt) (B := 8) rfl (by decide) (fun _ z8 => ?_) (fun _ z8 => ?_)
      · refine dOk_V (pr_faults h) (fun q12 h12 => ?_)
        unfold zX10_readPlain_53
        refine dOk_B (pr_fine q12) (fun r q4 hr => ?_)
        obtain ⟨e3, hr⟩ := hr
        have e3 : q4 = q12 := e3
        subst e3
        rcases hr with ⟨e, hf9⟩ | ⟨e, hf9⟩
        · exact absurd hf9 h12.2.2
        · have e : r = 0 := e
          subst e
          rw [if_pos rfl]
          exact dOk_some (PR.no him h12.1 (fr_pt hF h12.2.1) hf9)
      · obtain ⟨d', rfl⟩ : ∃ d', d = d' + 1 := ⟨d - 1, by omega⟩
        unfold zX10_readPlain_53 zX10_readPlain_133
        refine dOk_B (pr_fine q3) (fun r q4 hr => ?_)
        obtain ⟨e3, hr⟩ := hr
        have e3 : q4 = q3 := e3
        subst e3
        rcases hr with ⟨e, hf4⟩ | ⟨e, hf4⟩
        rotate_left
        · exact absurd hf hf4
        have e : r = 1 := e
        subst e
        rw [if_neg (by decide)]
        refine dOk_L (fun q5 e6 => ?_)
        have h5 : PQ o n c v (m + 1) q5 := by rw [e6]; exact pq_tok h hi
        have hF5 : dFr [] [19, 20, 21] q4 q5 := by rw [e6]; exact fr_p (by decide)
        have tp : Int32.toInt (x1 + 1) = x1.toInt + 1 := ti_add rfl (by decide) (by omega) (by omega)
        refine dOk_V (hk d' rfl q5 (x1 + 1) (m + 1) h5 (by omega)) (fun q7 h7 => ?_)
        obtain ⟨j, hj, h7, hF7, hX7⟩ := h7
        refine dOk_V (sg 41 (by decide) (by decide)) (fun r8 hr8 => ?_)
        have hr8 : r8.toInt = 141 := hr8
        refine dOk_V (pr_must r8 (by omega) h7) (fun q12 h12 => dOk_some ?_)
        obtain ⟨j2, hj2, h12, hF12, hX12⟩ := h12
        refine ⟨j2, by omega, h12, fr_pt hF (fr_pt hF5 (fr_pt hF7 hF12)), fun z => ⟨hfq, ?_⟩⟩
        obtain ⟨z1, rfl, z3⟩ := hX12 z
        exact ⟨m, hnots, Or.inr ⟨by omega, j, (hX7 z1).2, by omega, rfl⟩⟩
    · refine dOk_V (pr_sum 10 d (by omega) hd8 q3 x1 m h hp) (fun q10 h10 => ?_)
      obtain ⟨n1, hn1, h10, hF10, hX10⟩ := h10
      have h128 : ∀ (q' : dS) (k' : Nat), n1 ≤ k' → PQ o n c v k' q' → dFr [] [19, 20, 21] q10 q' → (fn q' → fn q10 ∧ k' = n1 + 1 ∧ (pC n c n1 = 160 ∨ pC n c n1 = 162 ∨ pC n c n1 = 161)) → dOk (zX10_readPlain_128 kT q' x1) (fun Q => PR o n c v q i (gPlain o (pC n c) (pV v) d i) Q) := by
        intro q' k' hk' h' hF' hc'
        unfold zX10_readPlain_128 zX10_readPlain_133
        refine dOk_V (pr_sum 10 d (by omega) hd8 q' x1 k' h' hp) (fun q11 h11 => dOk_some ?_)
        obtain ⟨j, hj, h11, hF11, hX11⟩ := h11
        refine ⟨j, by omega, h11, fr_pt hF (fr_pt hF10 (fr_pt hF' hF11)), fun z => ⟨hfq, ?_⟩⟩
        have z1 := hX11 z
        obtain ⟨w1, rfl, w3⟩ := hc' z1.1
        have hcmp : gCmp o (pC n c) (pV v) d m j := ⟨by omega, n1, (hX10 w1).2, w3, z1.2⟩
        cases d with
        | zero => exact ⟨m, hnots, hcmp⟩
        | succ d => exact ⟨m, hnots, Or.inl hcmp⟩
      refine dOk_V (sg 60 (by decide) (by decide)) (fun r11 hr11 => ?_)
      have hr11 : r11.toInt = 160 := hr11
      refine dOk_B (pr_takes r11 (by omega) h10) (fun r13 q15 hr => ?_)
      rcases hr with ⟨e, z1, z2, z3, z4, z5⟩ | ⟨e, e5, y1⟩
      · have e : r13 = 1 := e
        subst e
        rw [if_neg (by decide)]
        exact h128 q15 (n1 + 1) (by omega) z4 z5 (fun _ => ⟨z1, rfl, by omega⟩)
      have e : r13 = 0 := e
      have e5 : q15 = q10 := e5
      subst e e5
      rw [if_pos rfl]
      refine dOk_V (sg 62 (by decide) (by decide)) (fun r16 hr16 => ?_)
      have hr16 : r16.toInt = 162 := hr16
      refine dOk_B (pr_takes r16 (by omega) h10) (fun r18 q20 hr => ?_)
      rcases hr with ⟨e, z1, z2, z3, z4, z5⟩ | ⟨e, e5, y2⟩
      · have e : r18 = 1 := e
        subst e
        rw [if_neg (by decide)]
        exact h128 q20 (n1 + 1) (by omega) z4 z5 (fun _ => ⟨z1, rfl, by omega⟩)
      have e : r18 = 0 := e
      have e5 : q20 = q15 := e5
      subst e e5
      rw [if_pos rfl]
      refine dOk_V (sg 61 (by decide) (by decide)) (fun r21 hr21 => ?_)
      have hr21 : r21.toInt = 161 := hr21
      refine dOk_V (pr_must r21 (by omega) h10) (fun q25 h25 => ?_)
      obtain ⟨j, hj, h25, hF25, hX25⟩ := h25
      exact h128 q25 j hj h25 hF25 (fun z => ⟨(hX25 z).1, (hX25 z).2.1, by have := (hX25 z).2.2; omega⟩)
  · have := h.2.2.2.2.2.2.1
    show (2 * (401 - Int32.toInt (q.1 0 19)) + Int32.toInt 1).toNat < 1000000000000
    rw [show Int32.toInt 1 = (1 : Int) by decide]
    omega
theorem pr_both {kT : dS → Int32 → Option dS} {o : Bool} {n : Nat} {c v : Nat → Int32} {d : Nat} (hp : PrS o n c v d (gPlain o (pC n c) (pV v) d) (zX10_readPlain kT)) : PrS o n c v d (gSeq (fun a => pC n c a = 6) (gPlain o (pC n c) (pV v) d)) (zX10_readBoth kT) := by
  intro q p1 i h hd
  unfold zX10_readBoth
  refine dOk_V (hp q p1 i h hd) (fun q3 h3 => ?_)
  obtain ⟨m0, hm0, h3, hF3, hX3⟩ := h3
  unfold zX10_readBoth_5
  refine dFix_ok (fun (a : dS × Int32) => ∃ m : Nat, i ≤ m ∧ PQ o n c v m a.1 ∧ dFr [] [19, 20, 21] q a.1 ∧ a.2 = p1 ∧ (fn a.1 → fn q ∧ ∀ j : Nat, ((¬ pC n c m = 6 ∧ j = m) ∨ (pC n c m = 6 ∧ gSeq (fun a => pC n c a = 6) (gPlain o (pC n c) (pV v) d) (m + 1) j)) → gSeq (fun a => pC n c a = 6) (gPlain o (pC n c) (pV v) d) i j)) (fun (a : dS × Int32) => (401 - Int32.toInt (a.1.1 0 19)).toNat) ?_ _ ⟨m0, hm0, h3, hF3, rfl, fun z => ⟨(hX3 z).1, fun j hj => gSeq_cons (hX3 z).2 hj⟩⟩ _ (dF_gt ?_)
  · intro a ha k hk
    obtain ⟨qa, x1⟩ := a
    obtain ⟨m, him, h, hF, ex, hX⟩ := ha
    replace h : PQ o n c v m qa := h
    replace hF : dFr [] [19, 20, 21] q qa := hF
    replace ex : x1 = p1 := ex
    replace hX : fn qa → fn q ∧ ∀ j : Nat, ((¬ pC n c m = 6 ∧ j = m) ∨ (pC n c m = 6 ∧ gSeq (fun a => pC n c a = 6) (gPlain o (pC n c) (pV v) d) (m + 1) j)) → gSeq (fun a => pC n c a = 6) (gPlain o (pC n c) (pV v) d) i j := hX
    subst ex
    have h19 := h.2.2.2.2.2.2.1
    show dOk (zX10_readBoth_5b kT (fun q x1 => k (q, x1)) qa x1) _
    unfold zX10_readBoth_5b
    refine dOk_B (pr_takes 6 (by decide) h) (fun r q3 hr => ?_)
    rcases hr with ⟨e, z1, z2, z3, z4, z5⟩ | ⟨e, e5, y1⟩
    · have e : r = 1 := e
      have z3 : pC n c m = 6 := z3
      subst e
      rw [if_neg (by decide)]
      refine dOk_V (hp q3 x1 (m + 1) z4 hd) (fun q6 h6 => ?_)
      obtain ⟨m', hm', h6, hF6, hX6⟩ := h6
      have h19' := h6.2.2.2.2.2.2.1
      have hn' := h6.2.2.2.2.2.2.2.1
      have h400 := h6.2.2.2.2.1
      refine hk (q6, x1) ⟨m', by omega, h6, fr_pt hF (fr_pt z5 hF6), rfl, fun z => ⟨(hX z1).1, fun j hj => (hX z1).2 j (Or.inr ⟨z3, gSeq_cons (hX6 z).2 hj⟩)⟩⟩ ?_
      show (401 - Int32.toInt (q6.1 0 19)).toNat < (401 - Int32.toInt (qa.1 0 19)).toNat
      omega
    · have e : r = 0 := e
      have e5 : q3 = qa := e5
      subst e e5
      rw [if_pos rfl]
      exact dOk_some ⟨m, him, h, hF, fun z => ⟨(hX z).1, (hX z).2 m (Or.inl ⟨y1 z, rfl⟩)⟩⟩
  · have := h3.2.2.2.2.2.2.1
    show (401 - Int32.toInt (q3.1 0 19)).toNat < 1000000000000
    omega
theorem pr_test_o {kT : dS → Int32 → Option dS} {o : Bool} {n : Nat} {c v : Nat → Int32} {d : Nat} (hp : PrS o n c v d (gSeq (fun a => pC n c a = 6) (gPlain o (pC n c) (pV v) d)) (zX10_readBoth kT)) : PrS o n c v d (gTest o (pC n c) (pV v) d) (zX10_readTest_o kT) := by
  intro q p1 i h hd
  unfold zX10_readTest_o
  refine dOk_V (hp q p1 i h hd) (fun q3 h3 => ?_)
  obtain ⟨m0, hm0, h3, hF3, hX3⟩ := h3
  unfold zX10_readTest_5
  refine dFix_ok (fun (a : dS × Int32) => ∃ m : Nat, i ≤ m ∧ PQ o n c v m a.1 ∧ dFr [] [19, 20, 21] q a.1 ∧ a.2 = p1 ∧ (fn a.1 → fn q ∧ ∀ j : Nat, ((¬ pC n c m = 5 ∧ j = m) ∨ (pC n c m = 5 ∧ gTest o (pC n c) (pV v) d (m + 1) j)) → gTest o (pC n c) (pV v) d i j)) (fun (a : dS × Int32) => (401 - Int32.toInt (a.1.1 0 19)).toNat) ?_ _ ⟨m0, hm0, h3, hF3, rfl, fun z => ⟨(hX3 z).1, fun j hj => gSeq_cons (hX3 z).2 hj⟩⟩ _ (dF_gt ?_)
  · intro a ha k hk
    obtain ⟨qa, x1⟩ := a
    obtain ⟨m, him, h, hF, ex, hX⟩ := ha
    replace h : PQ o n c v m qa := h
    replace hF : dFr [] [19, 20, 21] q qa := hF
    replace ex : x1 = p1 := ex
    replace hX : fn qa → fn q ∧ ∀ j : Nat, ((¬ pC n c m = 5 ∧ j = m) ∨ (pC n c m = 5 ∧ gTest o (pC n c) (pV v) d (m + 1) j)) → gTest o (pC n c) (pV v) d i j := hX
    subst ex
    have h19 := h.2.2.2.2.2.2.1
    show dOk (zX10_readTest_5b kT (fun q x1 => k (q, x1)) qa x1) _
    unfold zX10_readTest_5b
    refine dOk_B (pr_takes 5 (by decide) h) (fun r q3 hr => ?_)
    rcases hr with ⟨e, z1, z2, z3, z4, z5⟩ | ⟨e, e5, y1⟩
    · have e : r = 1 := e
      have z3 : pC n c m = 5 := z3
      subst e
      rw [if_neg (by decide)]
      refine dOk_V (hp q3 x1 (m + 1) z4 hd) (fun q6 h6 => ?_)
      obtain ⟨m', hm', h6, hF6, hX6⟩ := h6
      have h19' := h6.2.2.2.2.2.2.1
      have hn' := h6.2.2.2.2.2.2.2.1
      have h400 := h6.2.2.2.2.1
      refine hk (q6, x1) ⟨m', by omega, h6, fr_pt hF (fr_pt z5 hF6), rfl, fun z => ⟨(hX z1).1, fun j hj => (hX z1).2 j (Or.inr ⟨z3, gSeq_cons (hX6 z).2 hj⟩)⟩⟩ ?_
      show (401 - Int32.toInt (q6.1 0 19)).toNat < (401 - Int32.toInt (qa.1 0 19)).toNat
      omega
    · have e : r = 0 := e
      have e5 : q3 = qa := e5
      subst e e5
      rw [if_pos rfl]
      exact dOk_some ⟨m, him, h, hF, fun z => ⟨(hX z).1, (hX z).2 m (Or.inl ⟨y1 z, rfl⟩)⟩⟩
  · have := h3.2.2.2.2.2.2.1
    show (401 - Int32.toInt (q3.1 0 19)).toNat < 1000000000000
    omega
theorem pr_test {o : Bool} {n : Nat} {c v : Nat → Int32} : ∀ (k d : Nat), d < k → d ≤ 8 → PrS o n c v d (gTest o (pC n c) (pV v) d) (zX10_readTest k) := by
  intro k
  induction k with
  | zero => intro d hd; omega
  | succ k ih =>
    intro d hd hd8 q p1 i h hp
    have h1 : PrS o n c v d (gTest o (pC n c) (pV v) d) (zX10_readTest_o (zX10_readTest k)) := pr_test_o (pr_both (pr_plain d hd8 (fun d' e' => ih d' (by omega) (by omega))))
    exact h1 q p1 i h hp
end
section
theorem NB_fac {n v : Int} (h : NB n n v) : v < facI n := by
  obtain ⟨h1, h2, h3, h4, h5⟩ := h
  have h6 := nbf_fac n.toNat (by omega)
  unfold facI
  omega
end
