set_option maxHeartbeats 4000000 in
set_option maxRecDepth 100000 in
theorem ok_X6_copyFrom_s1_s56 (q : dK) (hT : TC q) : dOk (zX6_copyFrom_s1_s56 q) (fun (o : dK) => (TC o) ∧ (cFr [3, 4, 5, 6, 7] [(1, 1), (1, 2), (1, 3), (1, 6), (1, 8), (1, 9), (2, 2), (2, 3), (2, 4)] q o)) := by
  unfold zX6_copyFrom_s1_s56
  refine dOk_B (ok_X8_pack_s57 q hT) (fun r_1 q_2 h_3 => ?_)
  replace h_3 : (q_2 = q) ∧ (0 ≤ Int64.toInt r_1) := h_3
  obtain ⟨i_4, i_5⟩ := h_3
  subst q_2
  refine dOk_V (ok_X8_unpack_s2 q (r_1) hT (show 0 ≤ Int64.toInt (r_1) by omega)) (fun q_6 h_7 => ?_)
  replace h_7 : (TC q_6) ∧ (cFr [3, 4] [(2, 2), (2, 3), (2, 4)] q q_6) := h_7
  obtain ⟨i_8, i_9⟩ := h_7
  have hFq_6 : cFr [3, 4, 5, 6, 7] [(1, 1), (1, 2), (1, 3), (1, 6), (1, 8), (1, 9), (2, 2), (2, 3), (2, 4)] q q_6 := (cFr.rf (q := q)).t i_9 (by decide) (by decide)
  refine dOk_L (fun q_10 eq_10 => ?_)
  have f_11 : 0 ≤ Int32.toInt (q_6.1 56 1) ∧ Int32.toInt (q_6.1 56 1) ≤ 10 := rg_56_1 i_8
  have f_12 : 0 ≤ Int32.toInt (q.1 56 1) ∧ Int32.toInt (q.1 56 1) ≤ 10 := rg_56_1 hT
  have w_13 : Int32.toInt (q_6.1 56 1) = Int32.toInt (q.1 56 1) := by rw [i_9.1 56 1 (by decide) (by decide)]
  have hTq_10 : TC q_10 := by rw [eq_10]; exact st_1_1 i_8 (show (0 : Int) ≤ Int32.toInt (q_6.1 56 1) by omega) (show Int32.toInt (q_6.1 56 1) ≤ (10 : Int) by omega)
  have hFq_10 : cFr [3, 4, 5, 6, 7] [(1, 1), (1, 2), (1, 3), (1, 6), (1, 8), (1, 9), (2, 2), (2, 3), (2, 4)] q q_10 := by rw [eq_10]; exact hFq_6.f (by decide)
  refine dOk_L (fun q_14 eq_14 => ?_)
  have w_15 : Int32.toInt (q_6.1 56 2) = Int32.toInt (q.1 56 2) := by rw [i_9.1 56 2 (by decide) (by decide)]
  have w_16 : Int32.toInt (q_10.1 56 2) = Int32.toInt (q_6.1 56 2) := by rw [eq_10, cui_o (by decide)]
  have hTq_14 : TC q_14 := by rw [eq_14]; exact sa_1_2 hTq_10
  have hFq_14 : cFr [3, 4, 5, 6, 7] [(1, 1), (1, 2), (1, 3), (1, 6), (1, 8), (1, 9), (2, 2), (2, 3), (2, 4)] q q_14 := by rw [eq_14]; exact hFq_10.f (by decide)
  refine dOk_L (fun q_17 eq_17 => ?_)
  have w_18 : Int32.toInt (q_6.1 56 3) = Int32.toInt (q.1 56 3) := by rw [i_9.1 56 3 (by decide) (by decide)]
  have w_19 : Int32.toInt (q_10.1 56 3) = Int32.toInt (q_6.1 56 3) := by rw [eq_10, cui_o (by decide)]
  have w_20 : Int32.toInt (q_14.1 56 3) = Int32.toInt (q_10.1 56 3) := by rw [eq_14, cui_o (by decide)]
  have hTq_17 : TC q_17 := by rw [eq_17]; exact sa_1_3 hTq_14
  have hFq_17 : cFr [3, 4, 5, 6, 7] [(1, 1), (1, 2), (1, 3), (1, 6), (1, 8), (1, 9), (2, 2), (2, 3), (2, 4)] q q_17 := by rw [eq_17]; exact hFq_14.f (by decide)
  refine dOk_L (fun q_21 eq_21 => ?_)
  have f_22 : 0 ≤ Int32.toInt (q_17.1 56 6) ∧ Int32.toInt (q_17.1 56 6) ≤ 6 := rg_56_6 hTq_17
  have f_23 : 0 ≤ Int32.toInt (q_14.1 56 6) ∧ Int32.toInt (q_14.1 56 6) ≤ 6 := rg_56_6 hTq_14
  have f_24 : 0 ≤ Int32.toInt (q_10.1 56 6) ∧ Int32.toInt (q_10.1 56 6) ≤ 6 := rg_56_6 hTq_10
  have f_25 : 0 ≤ Int32.toInt (q_6.1 56 6) ∧ Int32.toInt (q_6.1 56 6) ≤ 6 := rg_56_6 i_8
  have f_26 : 0 ≤ Int32.toInt (q.1 56 6) ∧ Int32.toInt (q.1 56 6) ≤ 6 := rg_56_6 hT
  have w_27 : Int32.toInt (q_6.1 56 6) = Int32.toInt (q.1 56 6) := by rw [i_9.1 56 6 (by decide) (by decide)]
  have w_28 : Int32.toInt (q_10.1 56 6) = Int32.toInt (q_6.1 56 6) := by rw [eq_10, cui_o (by decide)]
  have w_29 : Int32.toInt (q_14.1 56 6) = Int32.toInt (q_10.1 56 6) := by rw [eq_14, cui_o (by decide)]
  have w_30 : Int32.toInt (q_17.1 56 6) = Int32.toInt (q_14.1 56 6) := by rw [eq_17, cui_o (by decide)]
  have hTq_21 : TC q_21 := by rw [eq_21]; exact st_1_6 hTq_17 (show (0 : Int) ≤ Int32.toInt (q_17.1 56 6) by omega) (show Int32.toInt (q_17.1 56 6) ≤ (6 : Int) by omega)
  have hFq_21 : cFr [3, 4, 5, 6, 7] [(1, 1), (1, 2), (1, 3), (1, 6), (1, 8), (1, 9), (2, 2), (2, 3), (2, 4)] q q_21 := by rw [eq_21]; exact hFq_17.f (by decide)
  unfold zX6_copyFrom_s1_s56_48
  refine dFix_ok (fun (a : dK × Int32) => (TC a.1) ∧ (cFr [5, 6] [] q_21 a.1) ∧ (0 ≤ Int32.toInt a.2) ∧ (Int32.toInt a.2 ≤ 6)) (fun (a : dK × Int32) => (6 - Int32.toInt a.2).toNat) ?_ _ ?_ _ (dF_gt ?_)
  · intro a ha k_32 hk_31
    obtain ⟨q_33, x2_34⟩ := a
    replace ha : (TC q_33) ∧ (cFr [5, 6] [] q_21 q_33) ∧ (0 ≤ Int32.toInt x2_34) ∧ (Int32.toInt x2_34 ≤ 6) := ha
    obtain ⟨a_35, a_36, a_37, a_38⟩ := ha
    show dOk (zX6_copyFrom_s1_s56_48b  (fun q x2 => k_32 (q, x2)) q_33 x2_34) _
    unfold zX6_copyFrom_s1_s56_48b
    have hFq_33 : cFr [3, 4, 5, 6, 7] [(1, 1), (1, 2), (1, 3), (1, 6), (1, 8), (1, 9), (2, 2), (2, 3), (2, 4)] q q_33 := hFq_21.t a_36 (by decide) (by decide)
    refine dOk_le (A := 6) (B := Int32.toInt x2_34) (by decide) rfl (fun c_39 => ?_) (fun c_40 => ?_)
    · refine dOk_L (fun q_41 eq_41 => ?_)
      have f_42 : 0 ≤ Int32.toInt (q_33.1 56 8) ∧ Int32.toInt (q_33.1 56 8) ≤ 6 := rg_56_8 a_35
      have f_43 : 0 ≤ Int32.toInt (q_21.1 56 8) ∧ Int32.toInt (q_21.1 56 8) ≤ 6 := rg_56_8 hTq_21
      have f_44 : 0 ≤ Int32.toInt (q_17.1 56 8) ∧ Int32.toInt (q_17.1 56 8) ≤ 6 := rg_56_8 hTq_17
      have f_45 : 0 ≤ Int32.toInt (q_14.1 56 8) ∧ Int32.toInt (q_14.1 56 8) ≤ 6 := rg_56_8 hTq_14
      have f_46 : 0 ≤ Int32.toInt (q_10.1 56 8) ∧ Int32.toInt (q_10.1 56 8) ≤ 6 := rg_56_8 hTq_10
      have f_47 : 0 ≤ Int32.toInt (q_6.1 56 8) ∧ Int32.toInt (q_6.1 56 8) ≤ 6 := rg_56_8 i_8
      have f_48 : 0 ≤ Int32.toInt (q.1 56 8) ∧ Int32.toInt (q.1 56 8) ≤ 6 := rg_56_8 hT
      have w_49 : Int32.toInt (q_6.1 56 8) = Int32.toInt (q.1 56 8) := by rw [i_9.1 56 8 (by decide) (by decide)]
      have w_50 : Int32.toInt (q_10.1 56 8) = Int32.toInt (q_6.1 56 8) := by rw [eq_10, cui_o (by decide)]
      have w_51 : Int32.toInt (q_14.1 56 8) = Int32.toInt (q_10.1 56 8) := by rw [eq_14, cui_o (by decide)]
      have w_52 : Int32.toInt (q_17.1 56 8) = Int32.toInt (q_14.1 56 8) := by rw [eq_17, cui_o (by decide)]
      have w_53 : Int32.toInt (q_21.1 56 8) = Int32.toInt (q_17.1 56 8) := by rw [eq_21, cui_o (by decide)]
      have w_54 : Int32.toInt (q_33.1 56 8) = Int32.toInt (q_21.1 56 8) := by rw [a_36.1 56 8 (by decide) (by decide)]
      have hTq_41 : TC q_41 := by rw [eq_41]; exact st_1_8 a_35 (show (0 : Int) ≤ Int32.toInt (q_33.1 56 8) by omega) (show Int32.toInt (q_33.1 56 8) ≤ (6 : Int) by omega)
      have hFq_41 : cFr [3, 4, 5, 6, 7] [(1, 1), (1, 2), (1, 3), (1, 6), (1, 8), (1, 9), (2, 2), (2, 3), (2, 4)] q q_41 := by rw [eq_41]; exact hFq_33.f (by decide)
      unfold zX6_copyFrom_s1_s56_94
      refine dFix_ok (fun (a : dK × Int32) => (TC a.1) ∧ (cFr [7] [] q_41 a.1) ∧ (0 ≤ Int32.toInt a.2) ∧ (Int32.toInt a.2 ≤ 6)) (fun (a : dK × Int32) => (6 - Int32.toInt a.2).toNat) ?_ _ ?_ _ (dF_gt ?_)
      · intro a ha k_56 hk_55
        obtain ⟨q_57, x2_58⟩ := a
        replace ha : (TC q_57) ∧ (cFr [7] [] q_41 q_57) ∧ (0 ≤ Int32.toInt x2_58) ∧ (Int32.toInt x2_58 ≤ 6) := ha
        obtain ⟨a_59, a_60, a_61, a_62⟩ := ha
        show dOk (zX6_copyFrom_s1_s56_94b  (fun q x2 => k_56 (q, x2)) q_57 x2_58) _
        unfold zX6_copyFrom_s1_s56_94b
        have hFq_57 : cFr [3, 4, 5, 6, 7] [(1, 1), (1, 2), (1, 3), (1, 6), (1, 8), (1, 9), (2, 2), (2, 3), (2, 4)] q q_57 := hFq_41.t a_60 (by decide) (by decide)
        refine dOk_le (A := 6) (B := Int32.toInt x2_58) (by decide) rfl (fun c_63 => ?_) (fun c_64 => ?_)
        · refine dOk_L (fun q_65 eq_65 => ?_)
          have w_66 : Int32.toInt (q_6.1 56 9) = Int32.toInt (q.1 56 9) := by rw [i_9.1 56 9 (by decide) (by decide)]
          have w_67 : Int32.toInt (q_10.1 56 9) = Int32.toInt (q_6.1 56 9) := by rw [eq_10, cui_o (by decide)]
          have w_68 : Int32.toInt (q_14.1 56 9) = Int32.toInt (q_10.1 56 9) := by rw [eq_14, cui_o (by decide)]
          have w_69 : Int32.toInt (q_17.1 56 9) = Int32.toInt (q_14.1 56 9) := by rw [eq_17, cui_o (by decide)]
          have w_70 : Int32.toInt (q_21.1 56 9) = Int32.toInt (q_17.1 56 9) := by rw [eq_21, cui_o (by decide)]
          have w_71 : Int32.toInt (q_33.1 56 9) = Int32.toInt (q_21.1 56 9) := by rw [a_36.1 56 9 (by decide) (by decide)]
          have w_72 : Int32.toInt (q_41.1 56 9) = Int32.toInt (q_33.1 56 9) := by rw [eq_41, cui_o (by decide)]
          have w_73 : Int32.toInt (q_57.1 56 9) = Int32.toInt (q_41.1 56 9) := by rw [a_60.1 56 9 (by decide) (by decide)]
          have hTq_65 : TC q_65 := by rw [eq_65]; exact sa_1_9 a_59
          have hFq_65 : cFr [3, 4, 5, 6, 7] [(1, 1), (1, 2), (1, 3), (1, 6), (1, 8), (1, 9), (2, 2), (2, 3), (2, 4)] q q_65 := by rw [eq_65]; exact hFq_57.f (by decide)
          exact dOk_some (show (TC q_65) ∧ (cFr [3, 4, 5, 6, 7] [(1, 1), (1, 2), (1, 3), (1, 6), (1, 8), (1, 9), (2, 2), (2, 3), (2, 4)] q q_65) from ⟨hTq_65, hFq_65⟩)
        · refine dOk_G (dg_ok (show 0 ≤ Int32.toInt x2_58 by omega) (show Int32.toInt x2_58 < ((6 : Nat) : Int) by omega)) ?_
          have n_74 : ((Int32.toNatClampNeg x2_58 : Nat) : Int) = Int32.toInt x2_58 := cl_eq (by omega)
          refine dOk_L (fun v_75 ev_75 => ?_)
          have f_76 : 0 ≤ Int32.toInt v_75 ∧ Int32.toInt v_75 ≤ 2147483647 := by rw [ev_75]; exact rg_62 a_59 _
          have f_77 : Int32.toInt v_75 ≤ (q_57.2.2.length : Int) := by rw [ev_75]; exact (a_59.2.1.2 _).2.2.1
          refine dOk_G (dg_ok (show 0 ≤ Int32.toInt x2_58 by omega) (show Int32.toInt x2_58 < ((6 : Nat) : Int) by omega)) ?_
          refine dOk_eq (A := Int32.toInt v_75) (B := 0) rfl (by decide) (fun c_78z c_78 => ?_) (fun c_79z c_79 => ?_)
          · refine dOk_L (fun q_81 eq_81 => ?_)
            have n_82 : q_6.2.2.length = q.2.2.length := (congrArg List.length i_9.2)
            have n_83 : q_10.2.2.length = q_6.2.2.length := (by rw [eq_10]; rfl)
            have n_84 : q_14.2.2.length = q_10.2.2.length := (by rw [eq_14]; rfl)
            have n_85 : q_17.2.2.length = q_14.2.2.length := (by rw [eq_17]; rfl)
            have n_86 : q_21.2.2.length = q_17.2.2.length := (by rw [eq_21]; rfl)
            have n_87 : q_33.2.2.length = q_21.2.2.length := (congrArg List.length a_36.2)
            have n_88 : q_41.2.2.length = q_33.2.2.length := (by rw [eq_41]; rfl)
            have n_89 : q_57.2.2.length = q_41.2.2.length := (congrArg List.length a_60.2)
            have hTq_81 : TC q_81 := by rw [eq_81]; exact tc_law a_59 (by omega) (show 0 ≤ (0 : Int) by omega) (show (0 : Int) ≤ (q_57.2.2.length : Int) by omega)
            have hFq_81 : cFr [3, 4, 5, 6, 7] [(1, 1), (1, 2), (1, 3), (1, 6), (1, 8), (1, 9), (2, 2), (2, 3), (2, 4)] q q_81 := by rw [eq_81]; exact hFq_57.i (by decide)
            try have t_90 : Int32.toInt (x2_58 + 1) = Int32.toInt x2_58 + 1 := ti_add rfl (by decide) (by omega) (by omega)
            exact hk_55 (q_81, (x2_58 + 1)) (show (TC q_81) ∧ (cFr [7] [] q_41 q_81) ∧ (0 ≤ Int32.toInt (x2_58 + 1)) ∧ (Int32.toInt (x2_58 + 1) ≤ 6) from ⟨hTq_81, (by rw [eq_81]; exact (((cFr.rf : cFr [7] [] q_41 q_41).t a_60 (by decide) (by decide)) : cFr [7] [] q_41 q_57).i (by decide)), by omega, by omega⟩) (show (6 - Int32.toInt (x2_58 + 1)).toNat < (6 - Int32.toInt x2_58).toNat by omega)
          · have n_91 : q_6.2.2.length = q.2.2.length := (congrArg List.length i_9.2)
            have n_92 : q_10.2.2.length = q_6.2.2.length := (by rw [eq_10]; rfl)
            have n_93 : q_14.2.2.length = q_10.2.2.length := (by rw [eq_14]; rfl)
            have n_94 : q_17.2.2.length = q_14.2.2.length := (by rw [eq_17]; rfl)
            have n_95 : q_21.2.2.length = q_17.2.2.length := (by rw [eq_21]; rfl)
            have n_96 : q_33.2.2.length = q_21.2.2.length := (congrArg List.length a_36.2)
            have n_97 : q_41.2.2.length = q_33.2.2.length := (by rw [eq_41]; rfl)
            have n_98 : q_57.2.2.length = q_41.2.2.length := (congrArg List.length a_60.2)
            have g_99 : dlg q_57 v_75 = true := tc_dlg a_59 (show ¬ Int32.toInt v_75 = 0 by omega) (show 0 ≤ Int32.toInt v_75 by omega) (show Int32.toInt v_75 ≤ (q_57.2.2.length : Int) by omega)
            refine dOk_G g_99 ?_
            refine dOk_L (fun q_100 eq_100 => ?_)
            have hTq_100 : TC q_100 := by rw [eq_100]; exact tc_law a_59 (by omega) (show 0 ≤ Int32.toInt v_75 by omega) (show Int32.toInt v_75 ≤ (q_57.2.2.length : Int) by omega)
            have hFq_100 : cFr [3, 4, 5, 6, 7] [(1, 1), (1, 2), (1, 3), (1, 6), (1, 8), (1, 9), (2, 2), (2, 3), (2, 4)] q q_100 := by rw [eq_100]; exact hFq_57.i (by decide)
            try have t_101 : Int32.toInt (x2_58 + 1) = Int32.toInt x2_58 + 1 := ti_add rfl (by decide) (by omega) (by omega)
            exact hk_55 (q_100, (x2_58 + 1)) (show (TC q_100) ∧ (cFr [7] [] q_41 q_100) ∧ (0 ≤ Int32.toInt (x2_58 + 1)) ∧ (Int32.toInt (x2_58 + 1) ≤ 6) from ⟨hTq_100, (by rw [eq_100]; exact (((cFr.rf : cFr [7] [] q_41 q_41).t a_60 (by decide) (by decide)) : cFr [7] [] q_41 q_57).i (by decide)), by omega, by omega⟩) (show (6 - Int32.toInt (x2_58 + 1)).toNat < (6 - Int32.toInt x2_58).toNat by omega)
      · exact (show (TC q_41) ∧ (cFr [7] [] q_41 q_41) ∧ (0 ≤ (0 : Int)) ∧ ((0 : Int) ≤ 6) from ⟨hTq_41, cFr.rf, by omega, by omega⟩)
      · show (6 - (0 : Int)).toNat < 1000000000000
        omega
    · refine dOk_G (dg_ok (show 0 ≤ Int32.toInt x2_34 by omega) (show Int32.toInt x2_34 < ((6 : Nat) : Int) by omega)) ?_
      have n_102 : ((Int32.toNatClampNeg x2_34 : Nat) : Int) = Int32.toInt x2_34 := cl_eq (by omega)
      refine dOk_L (fun v_103 ev_103 => ?_)
      refine dOk_G (dg_ok (show 0 ≤ Int32.toInt x2_34 by omega) (show Int32.toInt x2_34 < ((6 : Nat) : Int) by omega)) ?_
      refine dOk_L (fun q_104 eq_104 => ?_)
      have hTq_104 : TC q_104 := by rw [eq_104]; exact sa_5 a_35
      have hFq_104 : cFr [3, 4, 5, 6, 7] [(1, 1), (1, 2), (1, 3), (1, 6), (1, 8), (1, 9), (2, 2), (2, 3), (2, 4)] q q_104 := by rw [eq_104]; exact hFq_33.i (by decide)
      refine dOk_G (dg_ok (show 0 ≤ Int32.toInt x2_34 by omega) (show Int32.toInt x2_34 < ((6 : Nat) : Int) by omega)) ?_
      refine dOk_L (fun v_105 ev_105 => ?_)
      refine dOk_G (dg_ok (show 0 ≤ Int32.toInt x2_34 by omega) (show Int32.toInt x2_34 < ((6 : Nat) : Int) by omega)) ?_
      refine dOk_L (fun q_106 eq_106 => ?_)
      have hTq_106 : TC q_106 := by rw [eq_106]; exact sa_6 hTq_104
      have hFq_106 : cFr [3, 4, 5, 6, 7] [(1, 1), (1, 2), (1, 3), (1, 6), (1, 8), (1, 9), (2, 2), (2, 3), (2, 4)] q q_106 := by rw [eq_106]; exact hFq_104.i (by decide)
      try have t_107 : Int32.toInt (x2_34 + 1) = Int32.toInt x2_34 + 1 := ti_add rfl (by decide) (by omega) (by omega)
      exact hk_31 (q_106, (x2_34 + 1)) (show (TC q_106) ∧ (cFr [5, 6] [] q_21 q_106) ∧ (0 ≤ Int32.toInt (x2_34 + 1)) ∧ (Int32.toInt (x2_34 + 1) ≤ 6) from ⟨hTq_106, (by rw [eq_106]; exact ((by rw [eq_104]; exact (((cFr.rf : cFr [5, 6] [] q_21 q_21).t a_36 (by decide) (by decide)) : cFr [5, 6] [] q_21 q_33).i (by decide)) : cFr [5, 6] [] q_21 q_104).i (by decide)), by omega, by omega⟩) (show (6 - Int32.toInt (x2_34 + 1)).toNat < (6 - Int32.toInt x2_34).toNat by omega)
  · exact (show (TC q_21) ∧ (cFr [5, 6] [] q_21 q_21) ∧ (0 ≤ (0 : Int)) ∧ ((0 : Int) ≤ 6) from ⟨hTq_21, cFr.rf, by omega, by omega⟩)
  · show (6 - (0 : Int)).toNat < 1000000000000
    omega

set_option maxHeartbeats 4000000 in
set_option maxRecDepth 100000 in
theorem ok_X9_image_s0 (q : dK) (p1 : Int32) (hT : TC q) : dOk (zX9_image_s0 q p1) (fun (o : Int32 × dK) => (TC o.2) ∧ (cFr [9, 48, 51, 52, 53, 54, 55, 58, 59, 60, 61, 62] [(0, 18), (49, 1), (49, 2), (49, 3), (49, 6), (49, 8), (49, 9), (50, 2), (50, 3), (50, 4), (56, 1), (56, 2), (56, 3), (56, 6), (56, 8), (56, 9), (57, 2), (57, 3), (57, 4)] q o.2)) := by
  unfold zX9_image_s0
  refine dOk_V (ok_X9_isImage p1) (fun r_1 h_2 => ?_)
  replace h_2 : ((Int32.toInt r_1 = 1 ∧ 0 ≤ Int32.toInt p1 ∧ Int32.toInt p1 ≤ 1) ∨ (Int32.toInt r_1 = 0)) := h_2
  have i_3 := h_2
  refine dOk_eq (A := Int32.toInt r_1) (B := 0) rfl (by decide) (fun c_4z c_4 => ?_) (fun c_5z c_5 => ?_)
  · refine dOk_B (ok_X9_refuse_s0 q (-1) hT) (fun r_7 q_8 h_9 => ?_)
    replace h_9 : (TC q_8) ∧ (cFr [48] [(0, 18)] q q_8) ∧ (Int32.toInt r_7 = (-1 : Int)) := h_9
    obtain ⟨i_10, i_11, i_12⟩ := h_9
    have hFq_8 : cFr [9, 48, 51, 52, 53, 54, 55, 58, 59, 60, 61, 62] [(0, 18), (49, 1), (49, 2), (49, 3), (49, 6), (49, 8), (49, 9), (50, 2), (50, 3), (50, 4), (56, 1), (56, 2), (56, 3), (56, 6), (56, 8), (56, 9), (57, 2), (57, 3), (57, 4)] q q_8 := (cFr.rf (q := q)).t i_11 (by decide) (by decide)
    exact dOk_some (show (TC q_8) ∧ (cFr [9, 48, 51, 52, 53, 54, 55, 58, 59, 60, 61, 62] [(0, 18), (49, 1), (49, 2), (49, 3), (49, 6), (49, 8), (49, 9), (50, 2), (50, 3), (50, 4), (56, 1), (56, 2), (56, 3), (56, 6), (56, 8), (56, 9), (57, 2), (57, 3), (57, 4)] q q_8) from ⟨i_10, hFq_8⟩)
  · refine dOk_G (dg_ok (show 0 ≤ Int32.toInt p1 by omega) (show Int32.toInt p1 < ((2 : Nat) : Int) by omega)) ?_
    have n_13 : ((Int32.toNatClampNeg p1 : Nat) : Int) = Int32.toInt p1 := cl_eq (by omega)
    refine dOk_eq (A := Int32.toInt p1) (B := 0) rfl (by decide) (fun c_14z c_14 => ?_) (fun c_15z c_15 => ?_)
    · refine dOk_V (ok_X6_copyFrom_s49_s1 q hT) (fun q_17 h_18 => ?_)
      replace h_18 : (TC q_17) ∧ (cFr [51, 52, 53, 54, 55] [(49, 1), (49, 2), (49, 3), (49, 6), (49, 8), (49, 9), (50, 2), (50, 3), (50, 4)] q q_17) := h_18
      obtain ⟨i_19, i_20⟩ := h_18
      have hFq_17 : cFr [9, 48, 51, 52, 53, 54, 55, 58, 59, 60, 61, 62] [(0, 18), (49, 1), (49, 2), (49, 3), (49, 6), (49, 8), (49, 9), (50, 2), (50, 3), (50, 4), (56, 1), (56, 2), (56, 3), (56, 6), (56, 8), (56, 9), (57, 2), (57, 3), (57, 4)] q q_17 := (cFr.rf (q := q)).t i_20 (by decide) (by decide)
      refine dOk_G (dg_ok (show 0 ≤ Int32.toInt p1 by omega) (show Int32.toInt p1 < ((2 : Nat) : Int) by omega)) ?_
      refine dOk_L (fun q_21 eq_21 => ?_)
      have hTq_21 : TC q_21 := by rw [eq_21]; exact sa_9 i_19
      have hFq_21 : cFr [9, 48, 51, 52, 53, 54, 55, 58, 59, 60, 61, 62] [(0, 18), (49, 1), (49, 2), (49, 3), (49, 6), (49, 8), (49, 9), (50, 2), (50, 3), (50, 4), (56, 1), (56, 2), (56, 3), (56, 6), (56, 8), (56, 9), (57, 2), (57, 3), (57, 4)] q q_21 := by rw [eq_21]; exact hFq_17.i (by decide)
      refine dOk_B (ok_X9_accept_s0 q_21 0 hTq_21) (fun r_22 q_23 h_24 => ?_)
      replace h_24 : (TC q_23) ∧ (cFr [] [(0, 18)] q_21 q_23) ∧ (Int32.toInt r_22 = (0 : Int)) := h_24
      obtain ⟨i_25, i_26, i_27⟩ := h_24
      have hFq_23 : cFr [9, 48, 51, 52, 53, 54, 55, 58, 59, 60, 61, 62] [(0, 18), (49, 1), (49, 2), (49, 3), (49, 6), (49, 8), (49, 9), (50, 2), (50, 3), (50, 4), (56, 1), (56, 2), (56, 3), (56, 6), (56, 8), (56, 9), (57, 2), (57, 3), (57, 4)] q q_23 := hFq_21.t i_26 (by decide) (by decide)
      exact dOk_some (show (TC q_23) ∧ (cFr [9, 48, 51, 52, 53, 54, 55, 58, 59, 60, 61, 62] [(0, 18), (49, 1), (49, 2), (49, 3), (49, 6), (49, 8), (49, 9), (50, 2), (50, 3), (50, 4), (56, 1), (56, 2), (56, 3), (56, 6), (56, 8), (56, 9), (57, 2), (57, 3), (57, 4)] q q_23) from ⟨i_25, hFq_23⟩)
    · refine dOk_G (decide_eq_true (Int32.toInt_inj.mp (show Int32.toInt p1 = (1 : Int) by rw [show (1 : Int) = (1 : Int) by decide]; omega))) ?_
      refine dOk_V (ok_X6_copyFrom_s56_s1 q hT) (fun q_28 h_29 => ?_)
      replace h_29 : (TC q_28) ∧ (cFr [58, 59, 60, 61, 62] [(56, 1), (56, 2), (56, 3), (56, 6), (56, 8), (56, 9), (57, 2), (57, 3), (57, 4)] q q_28) := h_29
      obtain ⟨i_30, i_31⟩ := h_29
      have hFq_28 : cFr [9, 48, 51, 52, 53, 54, 55, 58, 59, 60, 61, 62] [(0, 18), (49, 1), (49, 2), (49, 3), (49, 6), (49, 8), (49, 9), (50, 2), (50, 3), (50, 4), (56, 1), (56, 2), (56, 3), (56, 6), (56, 8), (56, 9), (57, 2), (57, 3), (57, 4)] q q_28 := (cFr.rf (q := q)).t i_31 (by decide) (by decide)
      refine dOk_G (dg_ok (show 0 ≤ Int32.toInt p1 by omega) (show Int32.toInt p1 < ((2 : Nat) : Int) by omega)) ?_
      refine dOk_L (fun q_32 eq_32 => ?_)
      have hTq_32 : TC q_32 := by rw [eq_32]; exact sa_9 i_30
      have hFq_32 : cFr [9, 48, 51, 52, 53, 54, 55, 58, 59, 60, 61, 62] [(0, 18), (49, 1), (49, 2), (49, 3), (49, 6), (49, 8), (49, 9), (50, 2), (50, 3), (50, 4), (56, 1), (56, 2), (56, 3), (56, 6), (56, 8), (56, 9), (57, 2), (57, 3), (57, 4)] q q_32 := by rw [eq_32]; exact hFq_28.i (by decide)
      refine dOk_B (ok_X9_accept_s0 q_32 0 hTq_32) (fun r_33 q_34 h_35 => ?_)
      replace h_35 : (TC q_34) ∧ (cFr [] [(0, 18)] q_32 q_34) ∧ (Int32.toInt r_33 = (0 : Int)) := h_35
      obtain ⟨i_36, i_37, i_38⟩ := h_35
      have hFq_34 : cFr [9, 48, 51, 52, 53, 54, 55, 58, 59, 60, 61, 62] [(0, 18), (49, 1), (49, 2), (49, 3), (49, 6), (49, 8), (49, 9), (50, 2), (50, 3), (50, 4), (56, 1), (56, 2), (56, 3), (56, 6), (56, 8), (56, 9), (57, 2), (57, 3), (57, 4)] q q_34 := hFq_32.t i_37 (by decide) (by decide)
      exact dOk_some (show (TC q_34) ∧ (cFr [9, 48, 51, 52, 53, 54, 55, 58, 59, 60, 61, 62] [(0, 18), (49, 1), (49, 2), (49, 3), (49, 6), (49, 8), (49, 9), (50, 2), (50, 3), (50, 4), (56, 1), (56, 2), (56, 3), (56, 6), (56, 8), (56, 9), (57, 2), (57, 3), (57, 4)] q q_34) from ⟨i_36, hFq_34⟩)

set_option maxHeartbeats 4000000 in
set_option maxRecDepth 100000 in
theorem ok_X9_back_s0 (q : dK) (p1 : Int32) (hT : TC q) : dOk (zX9_back_s0 q p1) (fun (o : Int32 × dK) => (TC o.2) ∧ (cFr [3, 4, 5, 6, 7, 48] [(0, 18), (1, 1), (1, 2), (1, 3), (1, 6), (1, 8), (1, 9), (2, 2), (2, 3), (2, 4), (10, 2)] q o.2)) := by
  unfold zX9_back_s0
  refine dOk_V (ok_X9_isImage p1) (fun r_1 h_2 => ?_)
  replace h_2 : ((Int32.toInt r_1 = 1 ∧ 0 ≤ Int32.toInt p1 ∧ Int32.toInt p1 ≤ 1) ∨ (Int32.toInt r_1 = 0)) := h_2
  have i_3 := h_2
  refine dOk_eq (A := Int32.toInt r_1) (B := 0) rfl (by decide) (fun c_4z c_4 => ?_) (fun c_5z c_5 => ?_)
  · refine dOk_B (ok_X9_refuse_s0 q (-1) hT) (fun r_7 q_8 h_9 => ?_)
    replace h_9 : (TC q_8) ∧ (cFr [48] [(0, 18)] q q_8) ∧ (Int32.toInt r_7 = (-1 : Int)) := h_9
    obtain ⟨i_10, i_11, i_12⟩ := h_9
    have hFq_8 : cFr [3, 4, 5, 6, 7, 48] [(0, 18), (1, 1), (1, 2), (1, 3), (1, 6), (1, 8), (1, 9), (2, 2), (2, 3), (2, 4), (10, 2)] q q_8 := (cFr.rf (q := q)).t i_11 (by decide) (by decide)
    exact dOk_some (show (TC q_8) ∧ (cFr [3, 4, 5, 6, 7, 48] [(0, 18), (1, 1), (1, 2), (1, 3), (1, 6), (1, 8), (1, 9), (2, 2), (2, 3), (2, 4), (10, 2)] q q_8) from ⟨i_10, hFq_8⟩)
  · refine dOk_G (dg_ok (show 0 ≤ Int32.toInt p1 by omega) (show Int32.toInt p1 < ((2 : Nat) : Int) by omega)) ?_
    have n_13 : ((Int32.toNatClampNeg p1 : Nat) : Int) = Int32.toInt p1 := cl_eq (by omega)
    refine dOk_L (fun v_14 ev_14 => ?_)
    refine dOk_eq (A := Int32.toInt v_14) (B := 0) rfl (by decide) (fun c_15z c_15 => ?_) (fun c_16z c_16 => ?_)
    · refine dOk_B (ok_X9_refuse_s0 q (-2) hT) (fun r_18 q_19 h_20 => ?_)
      replace h_20 : (TC q_19) ∧ (cFr [48] [(0, 18)] q q_19) ∧ (Int32.toInt r_18 = (-2 : Int)) := h_20
      obtain ⟨i_21, i_22, i_23⟩ := h_20
      have hFq_19 : cFr [3, 4, 5, 6, 7, 48] [(0, 18), (1, 1), (1, 2), (1, 3), (1, 6), (1, 8), (1, 9), (2, 2), (2, 3), (2, 4), (10, 2)] q q_19 := (cFr.rf (q := q)).t i_22 (by decide) (by decide)
      exact dOk_some (show (TC q_19) ∧ (cFr [3, 4, 5, 6, 7, 48] [(0, 18), (1, 1), (1, 2), (1, 3), (1, 6), (1, 8), (1, 9), (2, 2), (2, 3), (2, 4), (10, 2)] q q_19) from ⟨i_21, hFq_19⟩)
    · refine dOk_G (dg_ok (show 0 ≤ Int32.toInt p1 by omega) (show Int32.toInt p1 < ((2 : Nat) : Int) by omega)) ?_
      refine dOk_eq (A := Int32.toInt p1) (B := 0) rfl (by decide) (fun c_24z c_24 => ?_) (fun c_25z c_25 => ?_)
      · refine dOk_V (ok_X6_copyFrom_s1_s49 q hT) (fun q_27 h_28 => ?_)
        replace h_28 : (TC q_27) ∧ (cFr [3, 4, 5, 6, 7] [(1, 1), (1, 2), (1, 3), (1, 6), (1, 8), (1, 9), (2, 2), (2, 3), (2, 4)] q q_27) := h_28
        obtain ⟨i_29, i_30⟩ := h_28
        have hFq_27 : cFr [3, 4, 5, 6, 7, 48] [(0, 18), (1, 1), (1, 2), (1, 3), (1, 6), (1, 8), (1, 9), (2, 2), (2, 3), (2, 4), (10, 2)] q q_27 := (cFr.rf (q := q)).t i_30 (by decide) (by decide)
        refine dOk_V (ok_X0_clear_s10 q_27 i_29) (fun q_31 h_32 => ?_)
        replace h_32 : (TC q_31) ∧ (cFr [] [(10, 2)] q_27 q_31) := h_32
        obtain ⟨i_33, i_34⟩ := h_32
        have hFq_31 : cFr [3, 4, 5, 6, 7, 48] [(0, 18), (1, 1), (1, 2), (1, 3), (1, 6), (1, 8), (1, 9), (2, 2), (2, 3), (2, 4), (10, 2)] q q_31 := hFq_27.t i_34 (by decide) (by decide)
        refine dOk_B (ok_X9_accept_s0 q_31 0 i_33) (fun r_35 q_36 h_37 => ?_)
        replace h_37 : (TC q_36) ∧ (cFr [] [(0, 18)] q_31 q_36) ∧ (Int32.toInt r_35 = (0 : Int)) := h_37
        obtain ⟨i_38, i_39, i_40⟩ := h_37
        have hFq_36 : cFr [3, 4, 5, 6, 7, 48] [(0, 18), (1, 1), (1, 2), (1, 3), (1, 6), (1, 8), (1, 9), (2, 2), (2, 3), (2, 4), (10, 2)] q q_36 := hFq_31.t i_39 (by decide) (by decide)
        exact dOk_some (show (TC q_36) ∧ (cFr [3, 4, 5, 6, 7, 48] [(0, 18), (1, 1), (1, 2), (1, 3), (1, 6), (1, 8), (1, 9), (2, 2), (2, 3), (2, 4), (10, 2)] q q_36) from ⟨i_38, hFq_36⟩)
      · refine dOk_G (decide_eq_true (Int32.toInt_inj.mp (show Int32.toInt p1 = (1 : Int) by rw [show (1 : Int) = (1 : Int) by decide]; omega))) ?_
        refine dOk_V (ok_X6_copyFrom_s1_s56 q hT) (fun q_41 h_42 => ?_)
        replace h_42 : (TC q_41) ∧ (cFr [3, 4, 5, 6, 7] [(1, 1), (1, 2), (1, 3), (1, 6), (1, 8), (1, 9), (2, 2), (2, 3), (2, 4)] q q_41) := h_42
        obtain ⟨i_43, i_44⟩ := h_42
        have hFq_41 : cFr [3, 4, 5, 6, 7, 48] [(0, 18), (1, 1), (1, 2), (1, 3), (1, 6), (1, 8), (1, 9), (2, 2), (2, 3), (2, 4), (10, 2)] q q_41 := (cFr.rf (q := q)).t i_44 (by decide) (by decide)
        refine dOk_V (ok_X0_clear_s10 q_41 i_43) (fun q_45 h_46 => ?_)
        replace h_46 : (TC q_45) ∧ (cFr [] [(10, 2)] q_41 q_45) := h_46
        obtain ⟨i_47, i_48⟩ := h_46
        have hFq_45 : cFr [3, 4, 5, 6, 7, 48] [(0, 18), (1, 1), (1, 2), (1, 3), (1, 6), (1, 8), (1, 9), (2, 2), (2, 3), (2, 4), (10, 2)] q q_45 := hFq_41.t i_48 (by decide) (by decide)
        refine dOk_B (ok_X9_accept_s0 q_45 0 i_47) (fun r_49 q_50 h_51 => ?_)
        replace h_51 : (TC q_50) ∧ (cFr [] [(0, 18)] q_45 q_50) ∧ (Int32.toInt r_49 = (0 : Int)) := h_51
        obtain ⟨i_52, i_53, i_54⟩ := h_51
        have hFq_50 : cFr [3, 4, 5, 6, 7, 48] [(0, 18), (1, 1), (1, 2), (1, 3), (1, 6), (1, 8), (1, 9), (2, 2), (2, 3), (2, 4), (10, 2)] q q_50 := hFq_45.t i_53 (by decide) (by decide)
        exact dOk_some (show (TC q_50) ∧ (cFr [3, 4, 5, 6, 7, 48] [(0, 18), (1, 1), (1, 2), (1, 3), (1, 6), (1, 8), (1, 9), (2, 2), (2, 3), (2, 4), (10, 2)] q q_50) from ⟨i_52, hFq_50⟩)

set_option maxHeartbeats 4000000 in
set_option maxRecDepth 100000 in
theorem ok_X9_undo_s0 (q : dK) (hT : TC q) : dOk (zX9_undo_s0 q) (fun (o : Int32 × dK) => (TC o.2) ∧ (cFr [3, 4, 48] [(0, 18), (2, 2), (2, 3), (2, 4), (10, 2)] q o.2)) := by
  unfold zX9_undo_s0
  have f_1 : 0 ≤ Int32.toInt (q.1 10 2) ∧ Int32.toInt (q.1 10 2) ≤ 16 := rg_10_2 hT
  refine dOk_lt (A := 0) (B := Int32.toInt (q.1 10 2)) (by decide) rfl (fun c_2 => ?_) (fun c_3 => ?_)
  · refine dOk_L (fun q_4 eq_4 => ?_)
    try have t_5 : Int32.toInt (q.1 10 2 - 1) = Int32.toInt (q.1 10 2) - 1 := ti_sub rfl (by decide) (by omega) (by omega)
    have hTq_4 : TC q_4 := by rw [eq_4]; exact st_10_2 hT (show (0 : Int) ≤ Int32.toInt (q.1 10 2 - 1) by omega) (show Int32.toInt (q.1 10 2 - 1) ≤ (16 : Int) by omega)
    have hFq_4 : cFr [3, 4, 48] [(0, 18), (2, 2), (2, 3), (2, 4), (10, 2)] q q_4 := by rw [eq_4]; exact (cFr.rf (q := q)).f (by decide)
    have f_6 : 0 ≤ Int32.toInt (q_4.1 10 2) ∧ Int32.toInt (q_4.1 10 2) ≤ 16 := rg_10_2 hTq_4
    have w_7 : Int32.toInt (q_4.1 10 2) = Int32.toInt (q.1 10 2 - 1) := by rw [eq_4, cui_e]
    refine dOk_G (dg_ok (show 0 ≤ Int32.toInt (q_4.1 10 2) by omega) (show Int32.toInt (q_4.1 10 2) < ((16 : Nat) : Int) by omega)) ?_
    have n_8 : ((Int32.toNatClampNeg (q_4.1 10 2) : Nat) : Int) = Int32.toInt (q_4.1 10 2) := cl_eq (by omega)
    refine dOk_L (fun v_9 ev_9 => ?_)
    have f_10 : 0 ≤ Int64.toInt v_9 := by rw [ev_9]; exact (hTq_4.2.2.2.1 _).1
    refine dOk_V (ok_X8_unpack_s2 q_4 (v_9) hTq_4 (show 0 ≤ Int64.toInt (v_9) by omega)) (fun q_11 h_12 => ?_)
    replace h_12 : (TC q_11) ∧ (cFr [3, 4] [(2, 2), (2, 3), (2, 4)] q_4 q_11) := h_12
    obtain ⟨i_13, i_14⟩ := h_12
    have hFq_11 : cFr [3, 4, 48] [(0, 18), (2, 2), (2, 3), (2, 4), (10, 2)] q q_11 := hFq_4.t i_14 (by decide) (by decide)
    have f_15 : 0 ≤ Int32.toInt (q_11.1 10 2) ∧ Int32.toInt (q_11.1 10 2) ≤ 16 := rg_10_2 i_13
    have w_16 : Int32.toInt (q_11.1 10 2) = Int32.toInt (q_4.1 10 2) := by rw [i_14.1 10 2 (by decide) (by decide)]
    refine dOk_G (dg_ok (show 0 ≤ Int32.toInt (q_11.1 10 2) by omega) (show Int32.toInt (q_11.1 10 2) < ((16 : Nat) : Int) by omega)) ?_
    have n_17 : ((Int32.toNatClampNeg (q_11.1 10 2) : Nat) : Int) = Int32.toInt (q_11.1 10 2) := cl_eq (by omega)
    refine dOk_L (fun v_18 ev_18 => ?_)
    refine dOk_B (ok_X9_accept_s0 q_11 v_18 i_13) (fun r_19 q_20 h_21 => ?_)
    replace h_21 : (TC q_20) ∧ (cFr [] [(0, 18)] q_11 q_20) ∧ (Int32.toInt r_19 = Int32.toInt v_18) := h_21
    obtain ⟨i_22, i_23, i_24⟩ := h_21
    have hFq_20 : cFr [3, 4, 48] [(0, 18), (2, 2), (2, 3), (2, 4), (10, 2)] q q_20 := hFq_11.t i_23 (by decide) (by decide)
    exact dOk_some (show (TC q_20) ∧ (cFr [3, 4, 48] [(0, 18), (2, 2), (2, 3), (2, 4), (10, 2)] q q_20) from ⟨i_22, hFq_20⟩)
  · refine dOk_B (ok_X9_refuse_s0 q (-3) hT) (fun r_25 q_26 h_27 => ?_)
    replace h_27 : (TC q_26) ∧ (cFr [48] [(0, 18)] q q_26) ∧ (Int32.toInt r_25 = (-3 : Int)) := h_27
    obtain ⟨i_28, i_29, i_30⟩ := h_27
    have hFq_26 : cFr [3, 4, 48] [(0, 18), (2, 2), (2, 3), (2, 4), (10, 2)] q q_26 := (cFr.rf (q := q)).t i_29 (by decide) (by decide)
    exact dOk_some (show (TC q_26) ∧ (cFr [3, 4, 48] [(0, 18), (2, 2), (2, 3), (2, 4), (10, 2)] q q_26) from ⟨i_28, hFq_26⟩)

set_option maxHeartbeats 4000000 in
set_option maxRecDepth 100000 in
theorem ok_X9_count_s0 (q : dK) (p1 : Int32) (hT : TC q) : dOk (zX9_count_s0 q p1) (fun (o : Int32 × dK) => (o.2 = q)) := by
  unfold zX9_count_s0
  refine dOk_eq (A := Int32.toInt p1) (B := 0) rfl (by decide) (fun c_1z c_1 => ?_) (fun c_2z c_2 => ?_)
  · have f_4 : 0 ≤ Int32.toInt (q.1 2 2) ∧ Int32.toInt (q.1 2 2) ≤ 6 := rg_2_2 hT
    exact dOk_some (show (q = q) from rfl)
  · refine dOk_eq (A := Int32.toInt p1) (B := 1) rfl (by decide) (fun c_5z c_5 => ?_) (fun c_6z c_6 => ?_)
    · refine dOk_B (ok_X8_onHeads_s2 q hT) (fun r_8 q_9 h_10 => ?_)
      replace h_10 : (q_9 = q) := h_10
      have i_11 := h_10
      subst q_9
      exact dOk_some (show (q = q) from rfl)
    · refine dOk_eq (A := Int32.toInt p1) (B := 2) rfl (by decide) (fun c_12z c_12 => ?_) (fun c_13z c_13 => ?_)
      · have f_15 : 0 ≤ Int32.toInt (q.1 2 3) ∧ Int32.toInt (q.1 2 3) ≤ 16383 := rg_2_3 hT
        exact dOk_some (show (q = q) from rfl)
      · refine dOk_eq (A := Int32.toInt p1) (B := 3) rfl (by decide) (fun c_16z c_16 => ?_) (fun c_17z c_17 => ?_)
        · have f_19 : 0 ≤ Int32.toInt (q.1 1 6) ∧ Int32.toInt (q.1 1 6) ≤ 6 := rg_1_6 hT
          exact dOk_some (show (q = q) from rfl)
        · refine dOk_eq (A := Int32.toInt p1) (B := 4) rfl (by decide) (fun c_20z c_20 => ?_) (fun c_21z c_21 => ?_)
          · have f_23 : 0 ≤ Int32.toInt (q.1 1 8) ∧ Int32.toInt (q.1 1 8) ≤ 6 := rg_1_8 hT
            exact dOk_some (show (q = q) from rfl)
          · refine dOk_eq (A := Int32.toInt p1) (B := 5) rfl (by decide) (fun c_24z c_24 => ?_) (fun c_25z c_25 => ?_)
            · have f_27 : 0 ≤ Int32.toInt (q.1 10 2) ∧ Int32.toInt (q.1 10 2) ≤ 16 := rg_10_2 hT
              exact dOk_some (show (q = q) from rfl)
            · refine dOk_eq (A := Int32.toInt p1) (B := 6) rfl (by decide) (fun c_28z c_28 => ?_) (fun c_29z c_29 => ?_)
              · have f_31 : 0 ≤ Int32.toInt (q.1 0 12) ∧ Int32.toInt (q.1 0 12) ≤ 400 := rg_0_12 hT
                exact dOk_some (show (q = q) from rfl)
              · refine dOk_eq (A := Int32.toInt p1) (B := 7) rfl (by decide) (fun c_32z c_32 => ?_) (fun c_33z c_33 => ?_)
                · exact dOk_some (show (q = q) from rfl)
                · refine dOk_eq (A := Int32.toInt p1) (B := 8) rfl (by decide) (fun c_35z c_35 => ?_) (fun c_36z c_36 => ?_)
                  · exact dOk_some (show (q = q) from rfl)
                  · refine dOk_eq (A := Int32.toInt p1) (B := 9) rfl (by decide) (fun c_38z c_38 => ?_) (fun c_39z c_39 => ?_)
                    · exact dOk_some (show (q = q) from rfl)
                    · refine dOk_eq (A := Int32.toInt p1) (B := 10) rfl (by decide) (fun c_41z c_41 => ?_) (fun c_42z c_42 => ?_)
                      · exact dOk_some (show (q = q) from rfl)
                      · refine dOk_eq (A := Int32.toInt p1) (B := 11) rfl (by decide) (fun c_44z c_44 => ?_) (fun c_45z c_45 => ?_)
                        · exact dOk_some (show (q = q) from rfl)
                        · refine dOk_eq (A := Int32.toInt p1) (B := 12) rfl (by decide) (fun c_47z c_47 => ?_) (fun c_48z c_48 => ?_)
                          · exact dOk_some (show (q = q) from rfl)
                          · refine dOk_eq (A := Int32.toInt p1) (B := 13) rfl (by decide) (fun c_50z c_50 => ?_) (fun c_51z c_51 => ?_)
                            · try have t_53 : Int32.toInt (p1 - 13) = Int32.toInt p1 - 13 := ti_sub rfl (by decide) (by omega) (by omega)
                              refine dOk_B (ok_X6_term_s1 q (p1 - 13) hT) (fun r_54 q_55 h_56 => ?_)
                              replace h_56 : (q_55 = q) := h_56
                              have i_57 := h_56
                              subst q_55
                              exact dOk_some (show (q = q) from rfl)
                            · refine dOk_eq (A := Int32.toInt p1) (B := 14) rfl (by decide) (fun c_58z c_58 => ?_) (fun c_59z c_59 => ?_)
                              · try have t_61 : Int32.toInt (p1 - 13) = Int32.toInt p1 - 13 := ti_sub rfl (by decide) (by omega) (by omega)
                                refine dOk_B (ok_X6_term_s1 q (p1 - 13) hT) (fun r_62 q_63 h_64 => ?_)
                                replace h_64 : (q_63 = q) := h_64
                                have i_65 := h_64
                                subst q_63
                                exact dOk_some (show (q = q) from rfl)
                              · refine dOk_eq (A := Int32.toInt p1) (B := 15) rfl (by decide) (fun c_66z c_66 => ?_) (fun c_67z c_67 => ?_)
                                · try have t_69 : Int32.toInt (p1 - 13) = Int32.toInt p1 - 13 := ti_sub rfl (by decide) (by omega) (by omega)
                                  refine dOk_B (ok_X6_term_s1 q (p1 - 13) hT) (fun r_70 q_71 h_72 => ?_)
                                  replace h_72 : (q_71 = q) := h_72
                                  have i_73 := h_72
                                  subst q_71
                                  exact dOk_some (show (q = q) from rfl)
                                · refine dOk_eq (A := Int32.toInt p1) (B := 16) rfl (by decide) (fun c_74z c_74 => ?_) (fun c_75z c_75 => ?_)
                                  · try have t_77 : Int32.toInt (p1 - 13) = Int32.toInt p1 - 13 := ti_sub rfl (by decide) (by omega) (by omega)
                                    refine dOk_B (ok_X6_term_s1 q (p1 - 13) hT) (fun r_78 q_79 h_80 => ?_)
                                    replace h_80 : (q_79 = q) := h_80
                                    have i_81 := h_80
                                    subst q_79
                                    exact dOk_some (show (q = q) from rfl)
                                  · refine dOk_eq (A := Int32.toInt p1) (B := 17) rfl (by decide) (fun c_82z c_82 => ?_) (fun c_83z c_83 => ?_)
                                    · have f_85 : 0 ≤ Int32.toInt (q.1 2 2) ∧ Int32.toInt (q.1 2 2) ≤ 6 := rg_2_2 hT
                                      try have t_86 := ti_shlP (s := q.1 2 2) (by omega) (by omega)
                                      try have t_87 := ti_shl5 (x := 1) (s := q.1 2 2) (by decide) (by decide) (by omega) (by omega)
                                      try have t_88 := ti_shl6 (x := 1) (s := q.1 2 2) (by decide) (by decide) (by omega) (by omega)
                                      try have t_89 : Int32.toInt (1 <<< ((q.1 2 2 : Int32) &&& 31) - 1) = Int32.toInt (1 <<< ((q.1 2 2 : Int32) &&& 31)) - 1 := ti_sub rfl (by decide) (by omega) (by omega)
                                      refine dOk_B (ok_X8_rises_s2 q (1 <<< ((q.1 2 2 : Int32) &&& 31) - 1) (q.1 1 3) hT) (fun r_90 q_91 h_92 => ?_)
                                      replace h_92 : (q_91 = q) ∧ ((Int32.toInt r_90 = 0 ∨ Int32.toInt r_90 = 1)) := h_92
                                      obtain ⟨i_93, i_94⟩ := h_92
                                      subst q_91
                                      refine dOk_V (ok_X9_bit r_90) (fun r_95 h_96 => ?_)
                                      replace h_96 : ((Int32.toInt r_95 = 0 ∨ Int32.toInt r_95 = 1)) := h_96
                                      have i_97 := h_96
                                      exact dOk_some (show (q = q) from rfl)
                                    · exact dOk_some (show (q = q) from rfl)

set_option maxHeartbeats 4000000 in
set_option maxRecDepth 100000 in
theorem ok_X9_drawn_s0 (q : dK) (p1 : Int32) (p2 : Int32) (hT : TC q) : dOk (zX9_drawn_s0 q p1 p2) (fun (o : Int32 × dK) => (o.2 = q)) := by
  unfold zX9_drawn_s0
  refine dOk_B (ok_X8_tell_s15 q p1 p2 hT) (fun r_1 q_2 h_3 => ?_)
  replace h_3 : (q_2 = q) ∧ (-1 ≤ Int32.toInt r_1 ∧ Int32.toInt r_1 ≤ 7) := h_3
  obtain ⟨i_4, i_5⟩ := h_3
  subst q_2
  exact dOk_some (show (q = q) from rfl)
