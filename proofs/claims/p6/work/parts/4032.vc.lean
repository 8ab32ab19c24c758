set_option maxHeartbeats 4000000 in
set_option maxRecDepth 100000 in
theorem ok_laysTables (q : dS) (hT : TS q) : dOk (zX10_laysTables q) (fun (o : dS) => (TS o) ∧ (dFr [16, 17, 18, 19] [37, 38] q o) ∧ (Int32.toInt (o.1 0 37) = facI (Int32.toInt (q.1 2 29))) ∧ (Int32.toInt (o.1 0 38) = powI (Int32.toInt (q.1 2 29)))) := by
  unfold zX10_laysTables
  refine dOk_B (ok_size q hT) (fun r_1 q_2 h_3 => ?_)
  replace h_3 : (q_2 = q) ∧ (Int32.toInt r_1 = Int32.toInt (q.1 2 29)) ∧ (0 ≤ Int32.toInt r_1 ∧ Int32.toInt r_1 ≤ 6) := h_3
  obtain ⟨i_4, i_5, i_6⟩ := h_3
  subst q_2
  have f_7 : 0 ≤ Int32.toInt (q.1 2 29) ∧ Int32.toInt (q.1 2 29) ≤ 6 := hT.1 2 29
  refine dOk_V (ok_allOrders r_1 (show Int32.toInt r_1 ≤ 6 by omega)) (fun r_8 h_9 => ?_)
  replace h_9 : (((Int32.toInt r_1 ≤ 1 ∧ Int32.toInt r_8 = 1) ∨ (Int32.toInt r_1 = 2 ∧ Int32.toInt r_8 = 2) ∨ (Int32.toInt r_1 = 3 ∧ Int32.toInt r_8 = 6) ∨ (Int32.toInt r_1 = 4 ∧ Int32.toInt r_8 = 24) ∨ (Int32.toInt r_1 = 5 ∧ Int32.toInt r_8 = 120) ∨ (Int32.toInt r_1 = 6 ∧ Int32.toInt r_8 = 720))) := h_9
  have i_10 := h_9
  refine dOk_L (fun q_11 eq_11 => ?_)
  have hTq_11 : TS q_11 := by rw [eq_11]; exact ts_f hT (show 0 ≤ Int32.toInt r_8 by omega) (show Int32.toInt r_8 ≤ 720 by omega)
  have hFq_11 : dFr [16, 17, 18, 19] [37, 38] q q_11 := by rw [eq_11]; exact (dFr.rf (q := q)).f (by decide)
  refine dOk_B (ok_size q_11 hTq_11) (fun r_12 q_13 h_14 => ?_)
  replace h_14 : (q_13 = q_11) ∧ (Int32.toInt r_12 = Int32.toInt (q_11.1 2 29)) ∧ (0 ≤ Int32.toInt r_12 ∧ Int32.toInt r_12 ≤ 6) := h_14
  obtain ⟨i_15, i_16, i_17⟩ := h_14
  subst q_13
  have f_18 : 0 ≤ Int32.toInt (q_11.1 2 29) ∧ Int32.toInt (q_11.1 2 29) ≤ 6 := hTq_11.1 2 29
  have w_19 : Int32.toInt (q_11.1 2 29) = Int32.toInt (q.1 2 29) := by rw [eq_11, dui_o (by decide)]
  refine dOk_L (fun q_20 eq_20 => ?_)
  try have t_21 := ti_shlP (s := r_12) (by omega) (by omega)
  try have t_22 := ti_shl5 (x := 1) (s := r_12) (by decide) (by decide) (by omega) (by omega)
  try have t_23 := ti_shl6 (x := 1) (s := r_12) (by decide) (by decide) (by omega) (by omega)
  have hTq_20 : TS q_20 := by rw [eq_20]; exact ts_f hTq_11 (show 0 ≤ Int32.toInt (1 <<< ((r_12 : Int32) &&& 31)) by omega) (show Int32.toInt (1 <<< ((r_12 : Int32) &&& 31)) ≤ 64 by omega)
  have hFq_20 : dFr [16, 17, 18, 19] [37, 38] q q_20 := by rw [eq_20]; exact hFq_11.f (by decide)
  unfold zX10_laysTables_23
  refine dFix_ok (fun (a : dS × Int32) => (TS a.1) ∧ (dFr [16, 17, 19] [] q_20 a.1) ∧ (0 ≤ Int32.toInt a.2) ∧ (Int32.toInt a.2 ≤ 720)) (fun (a : dS × Int32) => (720 - Int32.toInt a.2).toNat) ?_ _ ?_ _ (dF_gt ?_)
  · intro a ha k_25 hk_24
    obtain ⟨q_26, x1_27⟩ := a
    replace ha : (TS q_26) ∧ (dFr [16, 17, 19] [] q_20 q_26) ∧ (0 ≤ Int32.toInt x1_27) ∧ (Int32.toInt x1_27 ≤ 720) := ha
    obtain ⟨a_28, a_29, a_30, a_31⟩ := ha
    show dOk (zX10_laysTables_23b  (fun q x1 => k_25 (q, x1)) q_26 x1_27) _
    unfold zX10_laysTables_23b
    have hFq_26 : dFr [16, 17, 18, 19] [37, 38] q q_26 := hFq_20.t a_29 (by decide) (by decide)
    have f_32 : 0 ≤ Int32.toInt (q_26.1 0 37) ∧ Int32.toInt (q_26.1 0 37) ≤ 720 := a_28.1 0 37
    have f_33 : 0 ≤ Int32.toInt (q_20.1 0 37) ∧ Int32.toInt (q_20.1 0 37) ≤ 720 := hTq_20.1 0 37
    have f_34 : 0 ≤ Int32.toInt (q_11.1 0 37) ∧ Int32.toInt (q_11.1 0 37) ≤ 720 := hTq_11.1 0 37
    have w_35 : Int32.toInt (q_11.1 0 37) = Int32.toInt r_8 := by rw [eq_11, dui_e]
    have w_36 : Int32.toInt (q_20.1 0 37) = Int32.toInt (q_11.1 0 37) := by rw [eq_20, dui_n (by decide)]
    have w_37 : Int32.toInt (q_26.1 0 37) = Int32.toInt (q_20.1 0 37) := by rw [a_29.2 37 (by decide)]
    refine dOk_le (A := Int32.toInt (q_26.1 0 37)) (B := Int32.toInt x1_27) rfl rfl (fun c_38 => ?_) (fun c_39 => ?_)
    · unfold zX10_laysTables_121
      refine dFix_ok (fun (a : dS × Int32) => (TS a.1) ∧ (dFr [18] [] q_26 a.1) ∧ (0 ≤ Int32.toInt a.2) ∧ (Int32.toInt a.2 ≤ 64)) (fun (a : dS × Int32) => (64 - Int32.toInt a.2).toNat) ?_ _ ?_ _ (dF_gt ?_)
      · intro a ha k_41 hk_40
        obtain ⟨q_42, x1_43⟩ := a
        replace ha : (TS q_42) ∧ (dFr [18] [] q_26 q_42) ∧ (0 ≤ Int32.toInt x1_43) ∧ (Int32.toInt x1_43 ≤ 64) := ha
        obtain ⟨a_44, a_45, a_46, a_47⟩ := ha
        show dOk (zX10_laysTables_121b  (fun q x1 => k_41 (q, x1)) q_42 x1_43) _
        unfold zX10_laysTables_121b
        have hFq_42 : dFr [16, 17, 18, 19] [37, 38] q q_42 := hFq_26.t a_45 (by decide) (by decide)
        have f_48 : 0 ≤ Int32.toInt (q_42.1 0 38) ∧ Int32.toInt (q_42.1 0 38) ≤ 64 := a_44.1 0 38
        have f_49 : 0 ≤ Int32.toInt (q_26.1 0 38) ∧ Int32.toInt (q_26.1 0 38) ≤ 64 := a_28.1 0 38
        have f_50 : 0 ≤ Int32.toInt (q_20.1 0 38) ∧ Int32.toInt (q_20.1 0 38) ≤ 64 := hTq_20.1 0 38
        have w_51 : Int32.toInt (q_20.1 0 38) = Int32.toInt (1 <<< ((r_12 : Int32) &&& 31)) := by rw [eq_20, dui_e]
        have w_52 : Int32.toInt (q_26.1 0 38) = Int32.toInt (q_20.1 0 38) := by rw [a_29.2 38 (by decide)]
        have w_53 : Int32.toInt (q_42.1 0 38) = Int32.toInt (q_26.1 0 38) := by rw [a_45.2 38 (by decide)]
        refine dOk_le (A := Int32.toInt (q_42.1 0 38)) (B := Int32.toInt x1_43) rfl rfl (fun c_54 => ?_) (fun c_55 => ?_)
        · have f_56 : 0 ≤ Int32.toInt (q_42.1 0 37) ∧ Int32.toInt (q_42.1 0 37) ≤ 720 := a_44.1 0 37
          have w_57 : Int32.toInt (q_42.1 0 37) = Int32.toInt (q_26.1 0 37) := by rw [a_45.2 37 (by decide)]
          exact dOk_some (show (TS q_42) ∧ (dFr [16, 17, 18, 19] [37, 38] q q_42) ∧ (Int32.toInt (q_42.1 0 37) = facI (Int32.toInt (q.1 2 29))) ∧ (Int32.toInt (q_42.1 0 38) = powI (Int32.toInt (q.1 2 29))) from ⟨a_44, hFq_42, by ((try unfold facI at *); (try unfold facI); omega), by ((try unfold powI at *); (try unfold powI); omega)⟩)
        · unfold zX10_laysTables_131
          refine dFix_ok (fun (a : dS × Int32 × Int32) => (TS a.1) ∧ (dFr [18] [] q_42 a.1) ∧ (a.2.1 = x1_43) ∧ (1 ≤ Int32.toInt a.2.2) ∧ (Int32.toInt a.2.2 ≤ 7)) (fun (a : dS × Int32 × Int32) => (7 - Int32.toInt a.2.2).toNat) ?_ _ ?_ _ (dF_gt ?_)
          · intro a ha k_59 hk_58
            obtain ⟨q_60, x1_61, x2_62⟩ := a
            replace ha : (TS q_60) ∧ (dFr [18] [] q_42 q_60) ∧ (x1_61 = x1_43) ∧ (1 ≤ Int32.toInt x2_62) ∧ (Int32.toInt x2_62 ≤ 7) := ha
            obtain ⟨a_63, a_64, a_65, a_66, a_67⟩ := ha
            show dOk (zX10_laysTables_131b _ (fun q x1 x2 => k_59 (q, x1, x2)) q_60 x1_61 x2_62) _
            unfold zX10_laysTables_131b
            have hFq_60 : dFr [16, 17, 18, 19] [37, 38] q q_60 := hFq_42.t a_64 (by decide) (by decide)
            subst x1_61
            refine dOk_B (ok_size q_60 a_63) (fun r_68 q_69 h_70 => ?_)
            replace h_70 : (q_69 = q_60) ∧ (Int32.toInt r_68 = Int32.toInt (q_60.1 2 29)) ∧ (0 ≤ Int32.toInt r_68 ∧ Int32.toInt r_68 ≤ 6) := h_70
            obtain ⟨i_71, i_72, i_73⟩ := h_70
            subst q_69
            have f_74 : 0 ≤ Int32.toInt (q_60.1 2 29) ∧ Int32.toInt (q_60.1 2 29) ≤ 6 := a_63.1 2 29
            have f_75 : 0 ≤ Int32.toInt (q_42.1 2 29) ∧ Int32.toInt (q_42.1 2 29) ≤ 6 := a_44.1 2 29
            have f_76 : 0 ≤ Int32.toInt (q_26.1 2 29) ∧ Int32.toInt (q_26.1 2 29) ≤ 6 := a_28.1 2 29
            have f_77 : 0 ≤ Int32.toInt (q_20.1 2 29) ∧ Int32.toInt (q_20.1 2 29) ≤ 6 := hTq_20.1 2 29
            have w_78 : Int32.toInt (q_20.1 2 29) = Int32.toInt (q_11.1 2 29) := by rw [eq_20, dui_o (by decide)]
            have w_79 : Int32.toInt (q_26.1 2 29) = Int32.toInt (q_20.1 2 29) := by rw [a_29.1 2 (by decide) (by decide)]
            have w_80 : Int32.toInt (q_42.1 2 29) = Int32.toInt (q_26.1 2 29) := by rw [a_45.1 2 (by decide) (by decide)]
            have w_81 : Int32.toInt (q_60.1 2 29) = Int32.toInt (q_42.1 2 29) := by rw [a_64.1 2 (by decide) (by decide)]
            refine dOk_lt (A := Int32.toInt r_68) (B := Int32.toInt x2_62) rfl rfl (fun c_82 => ?_) (fun c_83 => ?_)
            · try have t_84 : Int32.toInt (x1_43 + 1) = Int32.toInt x1_43 + 1 := ti_add rfl (by decide) (by omega) (by omega)
              exact hk_40 (q_60, (x1_43 + 1)) (show (TS q_60) ∧ (dFr [18] [] q_26 q_60) ∧ (0 ≤ Int32.toInt (x1_43 + 1)) ∧ (Int32.toInt (x1_43 + 1) ≤ 64) from ⟨a_63, ((((dFr.rf : dFr [18] [] q_26 q_26).t a_45 (by decide) (by decide)) : dFr [18] [] q_26 q_42).t a_64 (by decide) (by decide)), by omega, by omega⟩) (show (64 - Int32.toInt (x1_43 + 1)).toNat < (64 - Int32.toInt x1_43).toNat by omega)
            · refine dOk_B (ok_headsBehind q_60 x1_43 x2_62 a_63 (show 1 ≤ Int32.toInt x2_62 by omega)) (fun r_85 q_86 h_87 => ?_)
              replace h_87 : (q_86 = q_60) ∧ (0 ≤ Int32.toInt r_85 ∧ Int32.toInt r_85 ≤ 63) := h_87
              obtain ⟨i_88, i_89⟩ := h_87
              subst q_86
              try have t_90 : Int32.toInt (7 * x1_43) = 7 * Int32.toInt x1_43 := ti_mul (by decide) rfl (by omega) (by omega)
              try have t_91 : Int32.toInt (7 * x1_43 + x2_62) = Int32.toInt (7 * x1_43) + Int32.toInt x2_62 := ti_add rfl rfl (by omega) (by omega)
              refine dOk_G (dg_ok (show 0 ≤ Int32.toInt (7 * x1_43 + x2_62) by omega) (show Int32.toInt (7 * x1_43 + x2_62) < ((448 : Nat) : Int) by omega)) ?_
              have n_92 : ((Int32.toNatClampNeg (7 * x1_43 + x2_62) : Nat) : Int) = Int32.toInt (7 * x1_43 + x2_62) := cl_eq (by omega)
              refine dOk_L (fun q_93 eq_93 => ?_)
              have hTq_93 : TS q_93 := by rw [eq_93]; exact ts_set a_63 (by decide) (show 0 ≤ Int32.toInt r_85 by omega) (show Int32.toInt r_85 ≤ 63 by omega)
              have hFq_93 : dFr [16, 17, 18, 19] [37, 38] q q_93 := by rw [eq_93]; exact hFq_60.i (by decide) (by decide)
              try have t_94 : Int32.toInt (x2_62 + 1) = Int32.toInt x2_62 + 1 := ti_add rfl (by decide) (by omega) (by omega)
              exact hk_58 (q_93, x1_43, (x2_62 + 1)) (show (TS q_93) ∧ (dFr [18] [] q_42 q_93) ∧ (x1_43 = x1_43) ∧ (1 ≤ Int32.toInt (x2_62 + 1)) ∧ (Int32.toInt (x2_62 + 1) ≤ 7) from ⟨hTq_93, (by rw [eq_93]; exact (((dFr.rf : dFr [18] [] q_42 q_42).t a_64 (by decide) (by decide)) : dFr [18] [] q_42 q_60).i (by decide) (by decide)), rfl, by omega, by omega⟩) (show (7 - Int32.toInt (x2_62 + 1)).toNat < (7 - Int32.toInt x2_62).toNat by omega)
          · exact (show (TS q_42) ∧ (dFr [18] [] q_42 q_42) ∧ (x1_43 = x1_43) ∧ (1 ≤ (1 : Int)) ∧ ((1 : Int) ≤ 7) from ⟨a_44, dFr.rf, rfl, by omega, by omega⟩)
          · show (7 - (1 : Int)).toNat < 1000000000000
            omega
      · exact (show (TS q_26) ∧ (dFr [18] [] q_26 q_26) ∧ (0 ≤ (0 : Int)) ∧ ((0 : Int) ≤ 64) from ⟨a_28, dFr.rf, by omega, by omega⟩)
      · show (64 - (0 : Int)).toNat < 1000000000000
        omega
    · have f_95 : 0 ≤ Int32.toInt (q_26.1 2 29) ∧ Int32.toInt (q_26.1 2 29) ≤ 6 := a_28.1 2 29
      have f_96 : 0 ≤ Int32.toInt (q_20.1 2 29) ∧ Int32.toInt (q_20.1 2 29) ≤ 6 := hTq_20.1 2 29
      have w_97 : Int32.toInt (q_20.1 2 29) = Int32.toInt (q_11.1 2 29) := by rw [eq_20, dui_o (by decide)]
      have w_98 : Int32.toInt (q_26.1 2 29) = Int32.toInt (q_20.1 2 29) := by rw [a_29.1 2 (by decide) (by decide)]
      refine dOk_V (ok_laysOrder q_26 x1_27 a_28 (show 0 ≤ Int32.toInt x1_27 by ((try unfold facI); omega)) (show Int32.toInt x1_27 < facI (Int32.toInt (q_26.1 2 29)) by ((try unfold facI); omega))) (fun q_99 h_100 => ?_)
      replace h_100 : (TS q_99) ∧ (dFr [16] [] q_26 q_99) := h_100
      obtain ⟨i_101, i_102⟩ := h_100
      have hFq_99 : dFr [16, 17, 18, 19] [37, 38] q q_99 := hFq_26.t i_102 (by decide) (by decide)
      unfold zX10_laysTables_38
      refine dFix_ok (fun (a : dS × Int32 × Int32) => (TS a.1) ∧ (dFr [17, 19] [] q_99 a.1) ∧ (a.2.1 = x1_27) ∧ (1 ≤ Int32.toInt a.2.2) ∧ (Int32.toInt a.2.2 ≤ 7)) (fun (a : dS × Int32 × Int32) => (7 - Int32.toInt a.2.2).toNat) ?_ _ ?_ _ (dF_gt ?_)
      · intro a ha k_104 hk_103
        obtain ⟨q_105, x1_106, x2_107⟩ := a
        replace ha : (TS q_105) ∧ (dFr [17, 19] [] q_99 q_105) ∧ (x1_106 = x1_27) ∧ (1 ≤ Int32.toInt x2_107) ∧ (Int32.toInt x2_107 ≤ 7) := ha
        obtain ⟨a_108, a_109, a_110, a_111, a_112⟩ := ha
        show dOk (zX10_laysTables_38b _ (fun q x1 x2 => k_104 (q, x1, x2)) q_105 x1_106 x2_107) _
        unfold zX10_laysTables_38b
        have hFq_105 : dFr [16, 17, 18, 19] [37, 38] q q_105 := hFq_99.t a_109 (by decide) (by decide)
        subst x1_106
        refine dOk_B (ok_size q_105 a_108) (fun r_113 q_114 h_115 => ?_)
        replace h_115 : (q_114 = q_105) ∧ (Int32.toInt r_113 = Int32.toInt (q_105.1 2 29)) ∧ (0 ≤ Int32.toInt r_113 ∧ Int32.toInt r_113 ≤ 6) := h_115
        obtain ⟨i_116, i_117, i_118⟩ := h_115
        subst q_114
        have f_119 : 0 ≤ Int32.toInt (q_105.1 2 29) ∧ Int32.toInt (q_105.1 2 29) ≤ 6 := a_108.1 2 29
        have f_120 : 0 ≤ Int32.toInt (q_99.1 2 29) ∧ Int32.toInt (q_99.1 2 29) ≤ 6 := i_101.1 2 29
        have w_121 : Int32.toInt (q_99.1 2 29) = Int32.toInt (q_26.1 2 29) := by rw [i_102.1 2 (by decide) (by decide)]
        have w_122 : Int32.toInt (q_105.1 2 29) = Int32.toInt (q_99.1 2 29) := by rw [a_109.1 2 (by decide) (by decide)]
        refine dOk_lt (A := Int32.toInt r_113) (B := Int32.toInt x2_107) rfl rfl (fun c_123 => ?_) (fun c_124 => ?_)
        · try have t_125 : Int32.toInt (x1_27 + 1) = Int32.toInt x1_27 + 1 := ti_add rfl (by decide) (by omega) (by omega)
          exact hk_24 (q_105, (x1_27 + 1)) (show (TS q_105) ∧ (dFr [16, 17, 19] [] q_20 q_105) ∧ (0 ≤ Int32.toInt (x1_27 + 1)) ∧ (Int32.toInt (x1_27 + 1) ≤ 720) from ⟨a_108, ((((((dFr.rf : dFr [16, 17, 19] [] q_20 q_20).t a_29 (by decide) (by decide)) : dFr [16, 17, 19] [] q_20 q_26).t i_102 (by decide) (by decide)) : dFr [16, 17, 19] [] q_20 q_99).t a_109 (by decide) (by decide)), by omega, by omega⟩) (show (720 - Int32.toInt (x1_27 + 1)).toNat < (720 - Int32.toInt x1_27).toNat by omega)
        · unfold zX10_laysTables_48
          refine dFix_ok (fun (a : dS × Int32 × Int32 × Int32) => (TS a.1) ∧ (dFr [19] [] q_105 a.1) ∧ (a.2.1 = x1_27) ∧ (a.2.2.1 = x2_107) ∧ (0 ≤ Int32.toInt a.2.2.2) ∧ (Int32.toInt a.2.2.2 ≤ 6)) (fun (a : dS × Int32 × Int32 × Int32) => (6 - Int32.toInt a.2.2.2).toNat) ?_ _ ?_ _ (dF_gt ?_)
          · intro a ha k_127 hk_126
            obtain ⟨q_128, x1_129, x2_130, x3_131⟩ := a
            replace ha : (TS q_128) ∧ (dFr [19] [] q_105 q_128) ∧ (x1_129 = x1_27) ∧ (x2_130 = x2_107) ∧ (0 ≤ Int32.toInt x3_131) ∧ (Int32.toInt x3_131 ≤ 6) := ha
            obtain ⟨a_132, a_133, a_134, a_135, a_136, a_137⟩ := ha
            show dOk (zX10_laysTables_48b _ _ (fun q x1 x2 x3 => k_127 (q, x1, x2, x3)) q_128 x1_129 x2_130 x3_131) _
            unfold zX10_laysTables_48b
            have hFq_128 : dFr [16, 17, 18, 19] [37, 38] q q_128 := hFq_105.t a_133 (by decide) (by decide)
            subst x1_129
            subst x2_130
            refine dOk_B (ok_size q_128 a_132) (fun r_138 q_139 h_140 => ?_)
            replace h_140 : (q_139 = q_128) ∧ (Int32.toInt r_138 = Int32.toInt (q_128.1 2 29)) ∧ (0 ≤ Int32.toInt r_138 ∧ Int32.toInt r_138 ≤ 6) := h_140
            obtain ⟨i_141, i_142, i_143⟩ := h_140
            subst q_139
            have f_144 : 0 ≤ Int32.toInt (q_128.1 2 29) ∧ Int32.toInt (q_128.1 2 29) ≤ 6 := a_132.1 2 29
            have w_145 : Int32.toInt (q_128.1 2 29) = Int32.toInt (q_105.1 2 29) := by rw [a_133.1 2 (by decide) (by decide)]
            refine dOk_le (A := Int32.toInt r_138) (B := Int32.toInt x3_131) rfl rfl (fun c_146 => ?_) (fun c_147 => ?_)
            · refine dOk_B (ok_numberOf q_128 a_132) (fun r_148 q_149 h_150 => ?_)
              replace h_150 : (q_149 = q_128) ∧ (NB (Int32.toInt (q_128.1 2 29)) (Int32.toInt (q_128.1 2 29)) (Int32.toInt r_148)) ∧ (0 ≤ Int32.toInt r_148 ∧ Int32.toInt r_148 ≤ 719) := h_150
              obtain ⟨i_151, i_152, i_153⟩ := h_150
              subst q_149
              try have t_154 : Int32.toInt (7 * x1_27) = 7 * Int32.toInt x1_27 := ti_mul (by decide) rfl (by omega) (by omega)
              try have t_155 : Int32.toInt (7 * x1_27 + x2_107) = Int32.toInt (7 * x1_27) + Int32.toInt x2_107 := ti_add rfl rfl (by omega) (by omega)
              refine dOk_G (dg_ok (show 0 ≤ Int32.toInt (7 * x1_27 + x2_107) by omega) (show Int32.toInt (7 * x1_27 + x2_107) < ((5040 : Nat) : Int) by omega)) ?_
              have n_156 : ((Int32.toNatClampNeg (7 * x1_27 + x2_107) : Nat) : Int) = Int32.toInt (7 * x1_27 + x2_107) := cl_eq (by omega)
              refine dOk_L (fun q_157 eq_157 => ?_)
              have hTq_157 : TS q_157 := by rw [eq_157]; exact ts_set a_132 (by decide) (show 0 ≤ Int32.toInt r_148 by omega) (show Int32.toInt r_148 ≤ 719 by omega)
              have hFq_157 : dFr [16, 17, 18, 19] [37, 38] q q_157 := by rw [eq_157]; exact hFq_128.i (by decide) (by decide)
              try have t_158 : Int32.toInt (x2_107 + 1) = Int32.toInt x2_107 + 1 := ti_add rfl (by decide) (by omega) (by omega)
              exact hk_103 (q_157, x1_27, (x2_107 + 1)) (show (TS q_157) ∧ (dFr [17, 19] [] q_99 q_157) ∧ (x1_27 = x1_27) ∧ (1 ≤ Int32.toInt (x2_107 + 1)) ∧ (Int32.toInt (x2_107 + 1) ≤ 7) from ⟨hTq_157, (by rw [eq_157]; exact (((((dFr.rf : dFr [17, 19] [] q_99 q_99).t a_109 (by decide) (by decide)) : dFr [17, 19] [] q_99 q_105).t a_133 (by decide) (by decide)) : dFr [17, 19] [] q_99 q_128).i (by decide) (by decide)), rfl, by omega, by omega⟩) (show (7 - Int32.toInt (x2_107 + 1)).toNat < (7 - Int32.toInt x2_107).toNat by omega)
            · refine dOk_le (A := Int32.toInt x2_107) (B := Int32.toInt x3_131) rfl rfl (fun c_159 => ?_) (fun c_160 => ?_)
              · unfold zX10_laysTables_83
                try have t_161 : Int32.toInt (6 * x1_27) = 6 * Int32.toInt x1_27 := ti_mul (by decide) rfl (by omega) (by omega)
                try have t_162 : Int32.toInt (6 * x1_27 + x3_131) = Int32.toInt (6 * x1_27) + Int32.toInt x3_131 := ti_add rfl rfl (by omega) (by omega)
                refine dOk_G (dg_ok (show 0 ≤ Int32.toInt (6 * x1_27 + x3_131) by omega) (show Int32.toInt (6 * x1_27 + x3_131) < ((4320 : Nat) : Int) by omega)) ?_
                have n_163 : ((Int32.toNatClampNeg (6 * x1_27 + x3_131) : Nat) : Int) = Int32.toInt (6 * x1_27 + x3_131) := cl_eq (by omega)
                refine dOk_L (fun v_164 ev_164 => ?_)
                have f_165 : 0 ≤ Int32.toInt v_164 ∧ Int32.toInt v_164 ≤ 5 := by rw [ev_164]; exact a_132.1 16 _
                refine dOk_G (dg_ok (show 0 ≤ Int32.toInt x3_131 by omega) (show Int32.toInt x3_131 < ((6 : Nat) : Int) by omega)) ?_
                have n_166 : ((Int32.toNatClampNeg x3_131 : Nat) : Int) = Int32.toInt x3_131 := cl_eq (by omega)
                refine dOk_L (fun q_167 eq_167 => ?_)
                have hTq_167 : TS q_167 := by rw [eq_167]; exact ts_any a_132 rfl
                have hFq_167 : dFr [16, 17, 18, 19] [37, 38] q q_167 := by rw [eq_167]; exact hFq_128.i (by decide) (by decide)
                try have t_168 : Int32.toInt (x3_131 + 1) = Int32.toInt x3_131 + 1 := ti_add rfl (by decide) (by omega) (by omega)
                exact hk_126 (q_167, x1_27, x2_107, (x3_131 + 1)) (show (TS q_167) ∧ (dFr [19] [] q_105 q_167) ∧ (x1_27 = x1_27) ∧ (x2_107 = x2_107) ∧ (0 ≤ Int32.toInt (x3_131 + 1)) ∧ (Int32.toInt (x3_131 + 1) ≤ 6) from ⟨hTq_167, (by rw [eq_167]; exact (((dFr.rf : dFr [19] [] q_105 q_105).t a_133 (by decide) (by decide)) : dFr [19] [] q_105 q_128).i (by decide) (by decide)), rfl, rfl, by omega, by omega⟩) (show (6 - Int32.toInt (x3_131 + 1)).toNat < (6 - Int32.toInt x3_131).toNat by omega)
              · unfold zX10_laysTables_83
                try have t_169 : Int32.toInt (6 * x1_27) = 6 * Int32.toInt x1_27 := ti_mul (by decide) rfl (by omega) (by omega)
                try have t_170 : Int32.toInt (x2_107 - 1) = Int32.toInt x2_107 - 1 := ti_sub rfl (by decide) (by omega) (by omega)
                try have t_171 : Int32.toInt (x2_107 - 1 - x3_131) = Int32.toInt (x2_107 - 1) - Int32.toInt x3_131 := ti_sub rfl rfl (by omega) (by omega)
                try have t_172 : Int32.toInt (6 * x1_27 + (x2_107 - 1 - x3_131)) = Int32.toInt (6 * x1_27) + Int32.toInt (x2_107 - 1 - x3_131) := ti_add rfl rfl (by omega) (by omega)
                refine dOk_G (dg_ok (show 0 ≤ Int32.toInt (6 * x1_27 + (x2_107 - 1 - x3_131)) by omega) (show Int32.toInt (6 * x1_27 + (x2_107 - 1 - x3_131)) < ((4320 : Nat) : Int) by omega)) ?_
                have n_173 : ((Int32.toNatClampNeg (6 * x1_27 + (x2_107 - 1 - x3_131)) : Nat) : Int) = Int32.toInt (6 * x1_27 + (x2_107 - 1 - x3_131)) := cl_eq (by omega)
                refine dOk_L (fun v_174 ev_174 => ?_)
                have f_175 : 0 ≤ Int32.toInt v_174 ∧ Int32.toInt v_174 ≤ 5 := by rw [ev_174]; exact a_132.1 16 _
                refine dOk_G (dg_ok (show 0 ≤ Int32.toInt x3_131 by omega) (show Int32.toInt x3_131 < ((6 : Nat) : Int) by omega)) ?_
                have n_176 : ((Int32.toNatClampNeg x3_131 : Nat) : Int) = Int32.toInt x3_131 := cl_eq (by omega)
                refine dOk_L (fun q_177 eq_177 => ?_)
                have hTq_177 : TS q_177 := by rw [eq_177]; exact ts_any a_132 rfl
                have hFq_177 : dFr [16, 17, 18, 19] [37, 38] q q_177 := by rw [eq_177]; exact hFq_128.i (by decide) (by decide)
                try have t_178 : Int32.toInt (x3_131 + 1) = Int32.toInt x3_131 + 1 := ti_add rfl (by decide) (by omega) (by omega)
                exact hk_126 (q_177, x1_27, x2_107, (x3_131 + 1)) (show (TS q_177) ∧ (dFr [19] [] q_105 q_177) ∧ (x1_27 = x1_27) ∧ (x2_107 = x2_107) ∧ (0 ≤ Int32.toInt (x3_131 + 1)) ∧ (Int32.toInt (x3_131 + 1) ≤ 6) from ⟨hTq_177, (by rw [eq_177]; exact (((dFr.rf : dFr [19] [] q_105 q_105).t a_133 (by decide) (by decide)) : dFr [19] [] q_105 q_128).i (by decide) (by decide)), rfl, rfl, by omega, by omega⟩) (show (6 - Int32.toInt (x3_131 + 1)).toNat < (6 - Int32.toInt x3_131).toNat by omega)
          · exact (show (TS q_105) ∧ (dFr [19] [] q_105 q_105) ∧ (x1_27 = x1_27) ∧ (x2_107 = x2_107) ∧ (0 ≤ (0 : Int)) ∧ ((0 : Int) ≤ 6) from ⟨a_108, dFr.rf, rfl, rfl, by omega, by omega⟩)
          · show (6 - (0 : Int)).toNat < 1000000000000
            omega
      · exact (show (TS q_99) ∧ (dFr [17, 19] [] q_99 q_99) ∧ (x1_27 = x1_27) ∧ (1 ≤ (1 : Int)) ∧ ((1 : Int) ≤ 7) from ⟨i_101, dFr.rf, rfl, by omega, by omega⟩)
      · show (7 - (1 : Int)).toNat < 1000000000000
        omega
  · exact (show (TS q_20) ∧ (dFr [16, 17, 19] [] q_20 q_20) ∧ (0 ≤ (0 : Int)) ∧ ((0 : Int) ≤ 720) from ⟨hTq_20, dFr.rf, by omega, by omega⟩)
  · show (720 - (0 : Int)).toNat < 1000000000000
    omega
