set_option maxHeartbeats 4000000 in
set_option maxRecDepth 100000 in
theorem ok_X6_copyFrom_s1_s56 (q : dK) (hT : TC q) : dOk (zX6_copyFrom_s1_s56 q) (fun (o : dK) => (TC o) ∧ (cFr [3, 4, 5, 6, 7] [(1, 1), (1, 2), (1, 3), (1, 6), (1, 8), (1, 9), (2, 2), (2, 3), (2, 4)] q o) ∧ (Int32.toInt (o.1 1 6) = Int32.toInt (q.1 56 6)) ∧ (Int32.toInt (o.1 1 1) = Int32.toInt (q.1 56 1))) := by
  unfold zX6_copyFrom_s1_s56
  refine dOk_B (ok_X8_pack_s57 q hT) (fun r_1 q_2 h_3 => ?_)
  replace h_3 : (q_2 = q) ∧ (0 ≤ Int64.toInt r_1) := h_3
  obtain ⟨i_4, i_5⟩ := h_3
  subst q_2
  refine dOk_V (ok_X8_unpack_s2 q (r_1) hT (show 0 ≤ Int64.toInt (r_1) by omega)) (fun q_6 h_7 => ?_)
  replace h_7 : (TC q_6) ∧ (cFr [3, 4] [(2, 2), (2, 3), (2, 4)] q q_6) := h_7
  obtain ⟨i_8, i_9⟩ := h_7
  have hFq_6 : cFr [3, 4, 5, 6, 7] [(1, 1), (1, 2), (1, 3), (1, 6), (1, 8), (1, 9), (2, 2), (2, 3), (2, 4)] q q_6 := (cFr.rf (q := q)).t i_9 (by decide) (by decide)
  refine dOk_L (fun q_10 eq_10 => ?_)
  have f_11 : 0 ≤ Int32.toInt (q_6.1 56 1) ∧ Int32.toInt (q_6.1 56 1) ≤ 10 := rg_56_1 i_8
  have f_12 : 0 ≤ Int32.toInt (q.1 56 1) ∧ Int32.toInt (q.1 56 1) ≤ 10 := rg_56_1 hT
  have w_13 : Int32.toInt (q_6.1 56 1) = Int32.toInt (q.1 56 1) := by rw [i_9.1 56 1 (by decide) (by decide)]
  have hTq_10 : TC q_10 := by rw [eq_10]; exact st_1_1 i_8 (show (0 : Int) ≤ Int32.toInt (q_6.1 56 1) by omega) (show Int32.toInt (q_6.1 56 1) ≤ (10 : Int) by omega)
  have hFq_10 : cFr [3, 4, 5, 6, 7] [(1, 1), (1, 2), (1, 3), (1, 6), (1, 8), (1, 9), (2, 2), (2, 3), (2, 4)] q q_10 := by rw [eq_10]; exact hFq_6.f (by decide)
  refine dOk_L (fun q_14 eq_14 => ?_)
  have w_15 : Int32.toInt (q_6.1 56 2) = Int32.toInt (q.1 56 2) := by rw [i_9.1 56 2 (by decide) (by decide)]
  have w_16 : Int32.toInt (q_10.1 56 2) = Int32.toInt (q_6.1 56 2) := by rw [eq_10, cui_o (by decide)]
  have hTq_14 : TC q_14 := by rw [eq_14]; exact sa_1_2 hTq_10
  have hFq_14 : cFr [3, 4, 5, 6, 7] [(1, 1), (1, 2), (1, 3), (1, 6), (1, 8), (1, 9), (2, 2), (2, 3), (2, 4)] q q_14 := by rw [eq_14]; exact hFq_10.f (by decide)
  refine dOk_L (fun q_17 eq_17 => ?_)
  have w_18 : Int32.toInt (q_6.1 56 3) = Int32.toInt (q.1 56 3) := by rw [i_9.1 56 3 (by decide) (by decide)]
  have w_19 : Int32.toInt (q_10.1 56 3) = Int32.toInt (q_6.1 56 3) := by rw [eq_10, cui_o (by decide)]
  have w_20 : Int32.toInt (q_14.1 56 3) = Int32.toInt (q_10.1 56 3) := by rw [eq_14, cui_o (by decide)]
  have hTq_17 : TC q_17 := by rw [eq_17]; exact sa_1_3 hTq_14
  have hFq_17 : cFr [3, 4, 5, 6, 7] [(1, 1), (1, 2), (1, 3), (1, 6), (1, 8), (1, 9), (2, 2), (2, 3), (2, 4)] q q_17 := by rw [eq_17]; exact hFq_14.f (by decide)
  refine dOk_L (fun q_21 eq_21 => ?_)
  have f_22 : 0 ≤ Int32.toInt (q_17.1 56 6) ∧ Int32.toInt (q_17.1 56 6) ≤ 6 := rg_56_6 hTq_17
  have f_23 : 0 ≤ Int32.toInt (q_14.1 56 6) ∧ Int32.toInt (q_14.1 56 6) ≤ 6 := rg_56_6 hTq_14
  have f_24 : 0 ≤ Int32.toInt (q_10.1 56 6) ∧ Int32.toInt (q_10.1 56 6) ≤ 6 := rg_56_6 hTq_10
  have f_25 : 0 ≤ Int32.toInt (q_6.1 56 6) ∧ Int32.toInt (q_6.1 56 6) ≤ 6 := rg_56_6 i_8
  have f_26 : 0 ≤ Int32.toInt (q.1 56 6) ∧ Int32.toInt (q.1 56 6) ≤ 6 := rg_56_6 hT
  have w_27 : Int32.toInt (q_6.1 56 6) = Int32.toInt (q.1 56 6) := by rw [i_9.1 56 6 (by decide) (by decide)]
  have w_28 : Int32.toInt (q_10.1 56 6) = Int32.toInt (q_6.1 56 6) := by rw [eq_10, cui_o (by decide)]
  have w_29 : Int32.toInt (q_14.1 56 6) = Int32.toInt (q_10.1 56 6) := by rw [eq_14, cui_o (by decide)]
  have w_30 : Int32.toInt (q_17.1 56 6) = Int32.toInt (q_14.1 56 6) := by rw [eq_17, cui_o (by decide)]
  have hTq_21 : TC q_21 := by rw [eq_21]; exact st_1_6 hTq_17 (show (0 : Int) ≤ Int32.toInt (q_17.1 56 6) by omega) (show Int32.toInt (q_17.1 56 6) ≤ (6 : Int) by omega)
  have hFq_21 : cFr [3, 4, 5, 6, 7] [(1, 1), (1, 2), (1, 3), (1, 6), (1, 8), (1, 9), (2, 2), (2, 3), (2, 4)] q q_21 := by rw [eq_21]; exact hFq_17.f (by decide)
  unfold zX6_copyFrom_s1_s56_48
  refine dFix_ok (fun (a : dK × Int32) => (TC a.1) ∧ (cFr [5, 6] [] q_21 a.1) ∧ (0 ≤ Int32.toInt a.2) ∧ (Int32.toInt a.2 ≤ 6)) (fun (a : dK × Int32) => (6 - Int32.toInt a.2).toNat) ?_ _ ?_ _ (dF_gt ?_)
  · intro a ha k_32 hk_31
    obtain ⟨q_33, x2_34⟩ := a
    replace ha : (TC q_33) ∧ (cFr [5, 6] [] q_21 q_33) ∧ (0 ≤ Int32.toInt x2_34) ∧ (Int32.toInt x2_34 ≤ 6) := ha
    obtain ⟨a_35, a_36, a_37, a_38⟩ := ha
    show dOk (zX6_copyFrom_s1_s56_48b  (fun q x2 => k_32 (q, x2)) q_33 x2_34) _
    unfold zX6_copyFrom_s1_s56_48b
    have hFq_33 : cFr [3, 4, 5, 6, 7] [(1, 1), (1, 2), (1, 3), (1, 6), (1, 8), (1, 9), (2, 2), (2, 3), (2, 4)] q q_33 := hFq_21.t a_36 (by decide) (by decide)
    refine dOk_le (A := 6) (B := Int32.toInt x2_34) (by decide) rfl (fun c_39 => ?_) (fun c_40 => ?_)
    · refine dOk_L (fun q_41 eq_41 => ?_)
      have f_42 : 0 ≤ Int32.toInt (q_33.1 56 8) ∧ Int32.toInt (q_33.1 56 8) ≤ 6 := rg_56_8 a_35
      have f_43 : 0 ≤ Int32.toInt (q_21.1 56 8) ∧ Int32.toInt (q_21.1 56 8) ≤ 6 := rg_56_8 hTq_21
      have f_44 : 0 ≤ Int32.toInt (q_17.1 56 8) ∧ Int32.toInt (q_17.1 56 8) ≤ 6 := rg_56_8 hTq_17
      have f_45 : 0 ≤ Int32.toInt (q_14.1 56 8) ∧ Int32.toInt (q_14.1 56 8) ≤ 6 := rg_56_8 hTq_14
      have f_46 : 0 ≤ Int32.toInt (q_10.1 56 8) ∧ Int32.toInt (q_10.1 56 8) ≤ 6 := rg_56_8 hTq_10
      have f_47 : 0 ≤ Int32.toInt (q_6.1 56 8) ∧ Int32.toInt (q_6.1 56 8) ≤ 6 := rg_56_8 i_8
      have f_48 : 0 ≤ Int32.toInt (q.1 56 8) ∧ Int32.toInt (q.1 56 8) ≤ 6 := rg_56_8 hT
      have w_49 : Int32.toInt (q_6.1 56 8) = Int32.toInt (q.1 56 8) := by rw [i_9.1 56 8 (by decide) (by decide)]
      have w_50 : Int32.toInt (q_10.1 56 8) = Int32.toInt (q_6.1 56 8) := by rw [eq_10, cui_o (by decide)]
      have w_51 : Int32.toInt (q_14.1 56 8) = Int32.toInt (q_10.1 56 8) := by rw [eq_14, cui_o (by decide)]
      have w_52 : Int32.toInt (q_17.1 56 8) = Int32.toInt (q_14.1 56 8) := by rw [eq_17, cui_o (by decide)]
      have w_53 : Int32.toInt (q_21.1 56 8) = Int32.toInt (q_17.1 56 8) := by rw [eq_21, cui_o (by decide)]
      have w_54 : Int32.toInt (q_33.1 56 8) = Int32.toInt (q_21.1 56 8) := by rw [a_36.1 56 8 (by decide) (by decide)]
      have hTq_41 : TC q_41 := by rw [eq_41]; exact st_1_8 a_35 (show (0 : Int) ≤ Int32.toInt (q_33.1 56 8) by omega) (show Int32.toInt (q_33.1 56 8) ≤ (6 : Int) by omega)
      have hFq_41 : cFr [3, 4, 5, 6, 7] [(1, 1), (1, 2), (1, 3), (1, 6), (1, 8), (1, 9), (2, 2), (2, 3), (2, 4)] q q_41 := by rw [eq_41]; exact hFq_33.f (by decide)
      unfold zX6_copyFrom_s1_s56_94
      refine dFix_ok (fun (a : dK × Int32) => (TC a.1) ∧ (cFr [7] [] q_41 a.1) ∧ (0 ≤ Int32.toInt a.2) ∧ (Int32.toInt a.2 ≤ 6)) (fun (a : dK × Int32) => (6 - Int32.toInt a.2).toNat) ?_ _ ?_ _ (dF_gt ?_)
      · intro a ha k_56 hk_55
        obtain ⟨q_57, x2_58⟩ := a
        replace ha : (TC q_57) ∧ (cFr [7] [] q_41 q_57) ∧ (0 ≤ Int32.toInt x2_58) ∧ (Int32.toInt x2_58 ≤ 6) := ha
        obtain ⟨a_59, a_60, a_61, a_62⟩ := ha
        show dOk (zX6_copyFrom_s1_s56_94b  (fun q x2 => k_56 (q, x2)) q_57 x2_58) _
        unfold zX6_copyFrom_s1_s56_94b
        have hFq_57 : cFr [3, 4, 5, 6, 7] [(1, 1), (1, 2), (1, 3), (1, 6), (1, 8), (1, 9), (2, 2), (2, 3), (2, 4)] q q_57 := hFq_41.t a_60 (by decide) (by decide)
        refine dOk_le (A := 6) (B := Int32.toInt x2_58) (by decide) rfl (fun c_63 => ?_) (fun c_64 => ?_)
        · refine dOk_L (fun q_65 eq_65 => ?_)
          have w_66 : Int32.toInt (q_6.1 56 9) = Int32.toInt (q.1 56 9) := by rw [i_9.1 56 9 (by decide) (by decide)]
          have w_67 : Int32.toInt (q_10.1 56 9) = Int32.toInt (q_6.1 56 9) := by rw [eq_10, cui_o (by decide)]
          have w_68 : Int32.toInt (q_14.1 56 9) = Int32.toInt (q_10.1 56 9) := by rw [eq_14, cui_o (by decide)]
          have w_69 : Int32.toInt (q_17.1 56 9) = Int32.toInt (q_14.1 56 9) := by rw [eq_17, cui_o (by decide)]
          have w_70 : Int32.toInt (q_21.1 56 9) = Int32.toInt (q_17.1 56 9) := by rw [eq_21, cui_o (by decide)]
          have w_71 : Int32.toInt (q_33.1 56 9) = Int32.toInt (q_21.1 56 9) := by rw [a_36.1 56 9 (by decide) (by decide)]
          have w_72 : Int32.toInt (q_41.1 56 9) = Int32.toInt (q_33.1 56 9) := by rw [eq_41, cui_o (by decide)]
          have w_73 : Int32.toInt (q_57.1 56 9) = Int32.toInt (q_41.1 56 9) := by rw [a_60.1 56 9 (by decide) (by decide)]
          have hTq_65 : TC q_65 := by rw [eq_65]; exact sa_1_9 a_59
          have hFq_65 : cFr [3, 4, 5, 6, 7] [(1, 1), (1, 2), (1, 3), (1, 6), (1, 8), (1, 9), (2, 2), (2, 3), (2, 4)] q q_65 := by rw [eq_65]; exact hFq_57.f (by decide)
          have f_74 : 0 ≤ Int32.toInt (q_65.1 1 6) ∧ Int32.toInt (q_65.1 1 6) ≤ 6 := rg_1_6 hTq_65
          have f_75 : 0 ≤ Int32.toInt (q_57.1 1 6) ∧ Int32.toInt (q_57.1 1 6) ≤ 6 := rg_1_6 a_59
          have f_76 : 0 ≤ Int32.toInt (q_41.1 1 6) ∧ Int32.toInt (q_41.1 1 6) ≤ 6 := rg_1_6 hTq_41
          have f_77 : 0 ≤ Int32.toInt (q_33.1 1 6) ∧ Int32.toInt (q_33.1 1 6) ≤ 6 := rg_1_6 a_35
          have f_78 : 0 ≤ Int32.toInt (q_21.1 1 6) ∧ Int32.toInt (q_21.1 1 6) ≤ 6 := rg_1_6 hTq_21
          have w_79 : Int32.toInt (q_21.1 1 6) = Int32.toInt (q_17.1 56 6) := by rw [eq_21, cui_e]
          have w_80 : Int32.toInt (q_33.1 1 6) = Int32.toInt (q_21.1 1 6) := by rw [a_36.1 1 6 (by decide) (by decide)]
          have w_81 : Int32.toInt (q_41.1 1 6) = Int32.toInt (q_33.1 1 6) := by rw [eq_41, cui_n (by decide)]
          have w_82 : Int32.toInt (q_57.1 1 6) = Int32.toInt (q_41.1 1 6) := by rw [a_60.1 1 6 (by decide) (by decide)]
          have w_83 : Int32.toInt (q_65.1 1 6) = Int32.toInt (q_57.1 1 6) := by rw [eq_65, cui_n (by decide)]
          have f_84 : 0 ≤ Int32.toInt (q_65.1 1 1) ∧ Int32.toInt (q_65.1 1 1) ≤ 10 := rg_1_1 hTq_65
          have f_85 : 0 ≤ Int32.toInt (q_57.1 1 1) ∧ Int32.toInt (q_57.1 1 1) ≤ 10 := rg_1_1 a_59
          have f_86 : 0 ≤ Int32.toInt (q_41.1 1 1) ∧ Int32.toInt (q_41.1 1 1) ≤ 10 := rg_1_1 hTq_41
          have f_87 : 0 ≤ Int32.toInt (q_33.1 1 1) ∧ Int32.toInt (q_33.1 1 1) ≤ 10 := rg_1_1 a_35
          have f_88 : 0 ≤ Int32.toInt (q_21.1 1 1) ∧ Int32.toInt (q_21.1 1 1) ≤ 10 := rg_1_1 hTq_21
          have f_89 : 0 ≤ Int32.toInt (q_17.1 1 1) ∧ Int32.toInt (q_17.1 1 1) ≤ 10 := rg_1_1 hTq_17
          have f_90 : 0 ≤ Int32.toInt (q_14.1 1 1) ∧ Int32.toInt (q_14.1 1 1) ≤ 10 := rg_1_1 hTq_14
          have f_91 : 0 ≤ Int32.toInt (q_10.1 1 1) ∧ Int32.toInt (q_10.1 1 1) ≤ 10 := rg_1_1 hTq_10
          have w_92 : Int32.toInt (q_10.1 1 1) = Int32.toInt (q_6.1 56 1) := by rw [eq_10, cui_e]
          have w_93 : Int32.toInt (q_14.1 1 1) = Int32.toInt (q_10.1 1 1) := by rw [eq_14, cui_n (by decide)]
          have w_94 : Int32.toInt (q_17.1 1 1) = Int32.toInt (q_14.1 1 1) := by rw [eq_17, cui_n (by decide)]
          have w_95 : Int32.toInt (q_21.1 1 1) = Int32.toInt (q_17.1 1 1) := by rw [eq_21, cui_n (by decide)]
          have w_96 : Int32.toInt (q_33.1 1 1) = Int32.toInt (q_21.1 1 1) := by rw [a_36.1 1 1 (by decide) (by decide)]
          have w_97 : Int32.toInt (q_41.1 1 1) = Int32.toInt (q_33.1 1 1) := by rw [eq_41, cui_n (by decide)]
          have w_98 : Int32.toInt (q_57.1 1 1) = Int32.toInt (q_41.1 1 1) := by rw [a_60.1 1 1 (by decide) (by decide)]
          have w_99 : Int32.toInt (q_65.1 1 1) = Int32.toInt (q_57.1 1 1) := by rw [eq_65, cui_n (by decide)]
          exact dOk_some (show (TC q_65) ∧ (cFr [3, 4, 5, 6, 7] [(1, 1), (1, 2), (1, 3), (1, 6), (1, 8), (1, 9), (2, 2), (2, 3), (2, 4)] q q_65) ∧ (Int32.toInt (q_65.1 1 6) = Int32.toInt (q.1 56 6)) ∧ (Int32.toInt (q_65.1 1 1) = Int32.toInt (q.1 56 1)) from ⟨hTq_65, hFq_65, by omega, by omega⟩)
        · refine dOk_G (dg_ok (show 0 ≤ Int32.toInt x2_58 by omega) (show Int32.toInt x2_58 < ((6 : Nat) : Int) by omega)) ?_
          have n_100 : ((Int32.toNatClampNeg x2_58 : Nat) : Int) = Int32.toInt x2_58 := cl_eq (by omega)
          refine dOk_L (fun v_101 ev_101 => ?_)
          have f_102 : 0 ≤ Int32.toInt v_101 ∧ Int32.toInt v_101 ≤ 2147483647 := by rw [ev_101]; exact rg_62 a_59 _
          have f_103 : Int32.toInt v_101 ≤ (q_57.2.2.length : Int) := by rw [ev_101]; exact (a_59.2.1.2 _).2.2.1
          refine dOk_G (dg_ok (show 0 ≤ Int32.toInt x2_58 by omega) (show Int32.toInt x2_58 < ((6 : Nat) : Int) by omega)) ?_
          refine dOk_eq (A := Int32.toInt v_101) (B := 0) rfl (by decide) (fun c_104z c_104 => ?_) (fun c_105z c_105 => ?_)
          · refine dOk_L (fun q_107 eq_107 => ?_)
            have n_108 : q_6.2.2.length = q.2.2.length := (congrArg List.length i_9.2)
            have n_109 : q_10.2.2.length = q_6.2.2.length := (by rw [eq_10]; rfl)
            have n_110 : q_14.2.2.length = q_10.2.2.length := (by rw [eq_14]; rfl)
            have n_111 : q_17.2.2.length = q_14.2.2.length := (by rw [eq_17]; rfl)
            have n_112 : q_21.2.2.length = q_17.2.2.length := (by rw [eq_21]; rfl)
            have n_113 : q_33.2.2.length = q_21.2.2.length := (congrArg List.length a_36.2)
            have n_114 : q_41.2.2.length = q_33.2.2.length := (by rw [eq_41]; rfl)
            have n_115 : q_57.2.2.length = q_41.2.2.length := (congrArg List.length a_60.2)
            have hTq_107 : TC q_107 := by rw [eq_107]; exact tc_law a_59 (by omega) (show 0 ≤ (0 : Int) by omega) (show (0 : Int) ≤ (q_57.2.2.length : Int) by omega)
            have hFq_107 : cFr [3, 4, 5, 6, 7] [(1, 1), (1, 2), (1, 3), (1, 6), (1, 8), (1, 9), (2, 2), (2, 3), (2, 4)] q q_107 := by rw [eq_107]; exact hFq_57.i (by decide)
            try have t_116 : Int32.toInt (x2_58 + 1) = Int32.toInt x2_58 + 1 := ti_add rfl (by decide) (by omega) (by omega)
            exact hk_55 (q_107, (x2_58 + 1)) (show (TC q_107) ∧ (cFr [7] [] q_41 q_107) ∧ (0 ≤ Int32.toInt (x2_58 + 1)) ∧ (Int32.toInt (x2_58 + 1) ≤ 6) from ⟨hTq_107, (by rw [eq_107]; exact (((cFr.rf : cFr [7] [] q_41 q_41).t a_60 (by decide) (by decide)) : cFr [7] [] q_41 q_57).i (by decide)), by omega, by omega⟩) (show (6 - Int32.toInt (x2_58 + 1)).toNat < (6 - Int32.toInt x2_58).toNat by omega)
          · have n_117 : q_6.2.2.length = q.2.2.length := (congrArg List.length i_9.2)
            have n_118 : q_10.2.2.length = q_6.2.2.length := (by rw [eq_10]; rfl)
            have n_119 : q_14.2.2.length = q_10.2.2.length := (by rw [eq_14]; rfl)
            have n_120 : q_17.2.2.length = q_14.2.2.length := (by rw [eq_17]; rfl)
            have n_121 : q_21.2.2.length = q_17.2.2.length := (by rw [eq_21]; rfl)
            have n_122 : q_33.2.2.length = q_21.2.2.length := (congrArg List.length a_36.2)
            have n_123 : q_41.2.2.length = q_33.2.2.length := (by rw [eq_41]; rfl)
            have n_124 : q_57.2.2.length = q_41.2.2.length := (congrArg List.length a_60.2)
            have g_125 : dlg q_57 v_101 = true := tc_dlg a_59 (show ¬ Int32.toInt v_101 = 0 by omega) (show 0 ≤ Int32.toInt v_101 by omega) (show Int32.toInt v_101 ≤ (q_57.2.2.length : Int) by omega)
            refine dOk_G g_125 ?_
            refine dOk_L (fun q_126 eq_126 => ?_)
            have hTq_126 : TC q_126 := by rw [eq_126]; exact tc_law a_59 (by omega) (show 0 ≤ Int32.toInt v_101 by omega) (show Int32.toInt v_101 ≤ (q_57.2.2.length : Int) by omega)
            have hFq_126 : cFr [3, 4, 5, 6, 7] [(1, 1), (1, 2), (1, 3), (1, 6), (1, 8), (1, 9), (2, 2), (2, 3), (2, 4)] q q_126 := by rw [eq_126]; exact hFq_57.i (by decide)
            try have t_127 : Int32.toInt (x2_58 + 1) = Int32.toInt x2_58 + 1 := ti_add rfl (by decide) (by omega) (by omega)
            exact hk_55 (q_126, (x2_58 + 1)) (show (TC q_126) ∧ (cFr [7] [] q_41 q_126) ∧ (0 ≤ Int32.toInt (x2_58 + 1)) ∧ (Int32.toInt (x2_58 + 1) ≤ 6) from ⟨hTq_126, (by rw [eq_126]; exact (((cFr.rf : cFr [7] [] q_41 q_41).t a_60 (by decide) (by decide)) : cFr [7] [] q_41 q_57).i (by decide)), by omega, by omega⟩) (show (6 - Int32.toInt (x2_58 + 1)).toNat < (6 - Int32.toInt x2_58).toNat by omega)
      · exact (show (TC q_41) ∧ (cFr [7] [] q_41 q_41) ∧ (0 ≤ (0 : Int)) ∧ ((0 : Int) ≤ 6) from ⟨hTq_41, cFr.rf, by omega, by omega⟩)
      · show (6 - (0 : Int)).toNat < 1000000000000
        omega
    · refine dOk_G (dg_ok (show 0 ≤ Int32.toInt x2_34 by omega) (show Int32.toInt x2_34 < ((6 : Nat) : Int) by omega)) ?_
      have n_128 : ((Int32.toNatClampNeg x2_34 : Nat) : Int) = Int32.toInt x2_34 := cl_eq (by omega)
      refine dOk_L (fun v_129 ev_129 => ?_)
      refine dOk_G (dg_ok (show 0 ≤ Int32.toInt x2_34 by omega) (show Int32.toInt x2_34 < ((6 : Nat) : Int) by omega)) ?_
      refine dOk_L (fun q_130 eq_130 => ?_)
      have hTq_130 : TC q_130 := by rw [eq_130]; exact sa_5 a_35
      have hFq_130 : cFr [3, 4, 5, 6, 7] [(1, 1), (1, 2), (1, 3), (1, 6), (1, 8), (1, 9), (2, 2), (2, 3), (2, 4)] q q_130 := by rw [eq_130]; exact hFq_33.i (by decide)
      refine dOk_G (dg_ok (show 0 ≤ Int32.toInt x2_34 by omega) (show Int32.toInt x2_34 < ((6 : Nat) : Int) by omega)) ?_
      refine dOk_L (fun v_131 ev_131 => ?_)
      refine dOk_G (dg_ok (show 0 ≤ Int32.toInt x2_34 by omega) (show Int32.toInt x2_34 < ((6 : Nat) : Int) by omega)) ?_
      refine dOk_L (fun q_132 eq_132 => ?_)
      have hTq_132 : TC q_132 := by rw [eq_132]; exact sa_6 hTq_130
      have hFq_132 : cFr [3, 4, 5, 6, 7] [(1, 1), (1, 2), (1, 3), (1, 6), (1, 8), (1, 9), (2, 2), (2, 3), (2, 4)] q q_132 := by rw [eq_132]; exact hFq_130.i (by decide)
      try have t_133 : Int32.toInt (x2_34 + 1) = Int32.toInt x2_34 + 1 := ti_add rfl (by decide) (by omega) (by omega)
      exact hk_31 (q_132, (x2_34 + 1)) (show (TC q_132) ∧ (cFr [5, 6] [] q_21 q_132) ∧ (0 ≤ Int32.toInt (x2_34 + 1)) ∧ (Int32.toInt (x2_34 + 1) ≤ 6) from ⟨hTq_132, (by rw [eq_132]; exact ((by rw [eq_130]; exact (((cFr.rf : cFr [5, 6] [] q_21 q_21).t a_36 (by decide) (by decide)) : cFr [5, 6] [] q_21 q_33).i (by decide)) : cFr [5, 6] [] q_21 q_130).i (by decide)), by omega, by omega⟩) (show (6 - Int32.toInt (x2_34 + 1)).toNat < (6 - Int32.toInt x2_34).toNat by omega)
  · exact (show (TC q_21) ∧ (cFr [5, 6] [] q_21 q_21) ∧ (0 ≤ (0 : Int)) ∧ ((0 : Int) ≤ 6) from ⟨hTq_21, cFr.rf, by omega, by omega⟩)
  · show (6 - (0 : Int)).toNat < 1000000000000
    omega

set_option maxHeartbeats 4000000 in
set_option maxRecDepth 100000 in
theorem ok_X9_image_s0 (q : dK) (p1 : Int32) (hT : TC q) : dOk (zX9_image_s0 q p1) (fun (o : Int32 × dK) => (TC o.2) ∧ (cFr [9, 48, 51, 52, 53, 54, 55, 58, 59, 60, 61, 62] [(0, 18), (49, 1), (49, 2), (49, 3), (49, 6), (49, 8), (49, 9), (50, 2), (50, 3), (50, 4), (56, 1), (56, 2), (56, 3), (56, 6), (56, 8), (56, 9), (57, 2), (57, 3), (57, 4)] q o.2)) := by
  unfold zX9_image_s0
  refine dOk_V (ok_X9_isImage p1) (fun r_1 h_2 => ?_)
  replace h_2 : ((Int32.toInt r_1 = 1 ∧ 0 ≤ Int32.toInt p1 ∧ Int32.toInt p1 ≤ 1) ∨ (Int32.toInt r_1 = 0)) := h_2
  have i_3 := h_2
  refine dOk_eq (A := Int32.toInt r_1) (B := 0) rfl (by decide) (fun c_4z c_4 => ?_) (fun c_5z c_5 => ?_)
  · refine dOk_B (ok_X9_refuse_s0 q (-1) hT) (fun r_7 q_8 h_9 => ?_)
    replace h_9 : (TC q_8) ∧ (cFr [48] [(0, 18)] q q_8) ∧ (Int32.toInt r_7 = (-1 : Int)) := h_9
    obtain ⟨i_10, i_11, i_12⟩ := h_9
    have hFq_8 : cFr [9, 48, 51, 52, 53, 54, 55, 58, 59, 60, 61, 62] [(0, 18), (49, 1), (49, 2), (49, 3), (49, 6), (49, 8), (49, 9), (50, 2), (50, 3), (50, 4), (56, 1), (56, 2), (56, 3), (56, 6), (56, 8), (56, 9), (57, 2), (57, 3), (57, 4)] q q_8 := (cFr.rf (q := q)).t i_11 (by decide) (by decide)
    exact dOk_some (show (TC q_8) ∧ (cFr [9, 48, 51, 52, 53, 54, 55, 58, 59, 60, 61, 62] [(0, 18), (49, 1), (49, 2), (49, 3), (49, 6), (49, 8), (49, 9), (50, 2), (50, 3), (50, 4), (56, 1), (56, 2), (56, 3), (56, 6), (56, 8), (56, 9), (57, 2), (57, 3), (57, 4)] q q_8) from ⟨i_10, hFq_8⟩)
  · refine dOk_G (dg_ok (show 0 ≤ Int32.toInt p1 by omega) (show Int32.toInt p1 < ((2 : Nat) : Int) by omega)) ?_
    have n_13 : ((Int32.toNatClampNeg p1 : Nat) : Int) = Int32.toInt p1 := cl_eq (by omega)
    refine dOk_eq (A := Int32.toInt p1) (B := 0) rfl (by decide) (fun c_14z c_14 => ?_) (fun c_15z c_15 => ?_)
    · refine dOk_V (ok_X6_copyFrom_s49_s1 q hT) (fun q_17 h_18 => ?_)
      replace h_18 : (TC q_17) ∧ (cFr [51, 52, 53, 54, 55] [(49, 1), (49, 2), (49, 3), (49, 6), (49, 8), (49, 9), (50, 2), (50, 3), (50, 4)] q q_17) ∧ (Int32.toInt (q_17.1 49 6) = Int32.toInt (q.1 1 6)) ∧ (Int32.toInt (q_17.1 49 1) = Int32.toInt (q.1 1 1)) := h_18
      obtain ⟨i_19, i_20, i_21, i_22⟩ := h_18
      have hFq_17 : cFr [9, 48, 51, 52, 53, 54, 55, 58, 59, 60, 61, 62] [(0, 18), (49, 1), (49, 2), (49, 3), (49, 6), (49, 8), (49, 9), (50, 2), (50, 3), (50, 4), (56, 1), (56, 2), (56, 3), (56, 6), (56, 8), (56, 9), (57, 2), (57, 3), (57, 4)] q q_17 := (cFr.rf (q := q)).t i_20 (by decide) (by decide)
      have f_23 : 0 ≤ Int32.toInt (q_17.1 49 6) ∧ Int32.toInt (q_17.1 49 6) ≤ 6 := rg_49_6 i_19
      have f_24 : 0 ≤ Int32.toInt (q.1 1 6) ∧ Int32.toInt (q.1 1 6) ≤ 6 := rg_1_6 hT
      have f_25 : 0 ≤ Int32.toInt (q_17.1 49 1) ∧ Int32.toInt (q_17.1 49 1) ≤ 10 := rg_49_1 i_19
      have f_26 : 0 ≤ Int32.toInt (q.1 1 1) ∧ Int32.toInt (q.1 1 1) ≤ 10 := rg_1_1 hT
      refine dOk_G (dg_ok (show 0 ≤ Int32.toInt p1 by omega) (show Int32.toInt p1 < ((2 : Nat) : Int) by omega)) ?_
      refine dOk_L (fun q_27 eq_27 => ?_)
      have hTq_27 : TC q_27 := by rw [eq_27]; exact sa_9 i_19
      have hFq_27 : cFr [9, 48, 51, 52, 53, 54, 55, 58, 59, 60, 61, 62] [(0, 18), (49, 1), (49, 2), (49, 3), (49, 6), (49, 8), (49, 9), (50, 2), (50, 3), (50, 4), (56, 1), (56, 2), (56, 3), (56, 6), (56, 8), (56, 9), (57, 2), (57, 3), (57, 4)] q q_27 := by rw [eq_27]; exact hFq_17.i (by decide)
      refine dOk_B (ok_X9_accept_s0 q_27 0 hTq_27) (fun r_28 q_29 h_30 => ?_)
      replace h_30 : (TC q_29) ∧ (cFr [] [(0, 18)] q_27 q_29) ∧ (Int32.toInt r_28 = (0 : Int)) := h_30
      obtain ⟨i_31, i_32, i_33⟩ := h_30
      have hFq_29 : cFr [9, 48, 51, 52, 53, 54, 55, 58, 59, 60, 61, 62] [(0, 18), (49, 1), (49, 2), (49, 3), (49, 6), (49, 8), (49, 9), (50, 2), (50, 3), (50, 4), (56, 1), (56, 2), (56, 3), (56, 6), (56, 8), (56, 9), (57, 2), (57, 3), (57, 4)] q q_29 := hFq_27.t i_32 (by decide) (by decide)
      exact dOk_some (show (TC q_29) ∧ (cFr [9, 48, 51, 52, 53, 54, 55, 58, 59, 60, 61, 62] [(0, 18), (49, 1), (49, 2), (49, 3), (49, 6), (49, 8), (49, 9), (50, 2), (50, 3), (50, 4), (56, 1), (56, 2), (56, 3), (56, 6), (56, 8), (56, 9), (57, 2), (57, 3), (57, 4)] q q_29) from ⟨i_31, hFq_29⟩)
    · refine dOk_G (decide_eq_true (Int32.toInt_inj.mp (show Int32.toInt p1 = (1 : Int) by rw [show (1 : Int) = (1 : Int) by decide]; omega))) ?_
      refine dOk_V (ok_X6_copyFrom_s56_s1 q hT) (fun q_34 h_35 => ?_)
      replace h_35 : (TC q_34) ∧ (cFr [58, 59, 60, 61, 62] [(56, 1), (56, 2), (56, 3), (56, 6), (56, 8), (56, 9), (57, 2), (57, 3), (57, 4)] q q_34) ∧ (Int32.toInt (q_34.1 56 6) = Int32.toInt (q.1 1 6)) ∧ (Int32.toInt (q_34.1 56 1) = Int32.toInt (q.1 1 1)) := h_35
      obtain ⟨i_36, i_37, i_38, i_39⟩ := h_35
      have hFq_34 : cFr [9, 48, 51, 52, 53, 54, 55, 58, 59, 60, 61, 62] [(0, 18), (49, 1), (49, 2), (49, 3), (49, 6), (49, 8), (49, 9), (50, 2), (50, 3), (50, 4), (56, 1), (56, 2), (56, 3), (56, 6), (56, 8), (56, 9), (57, 2), (57, 3), (57, 4)] q q_34 := (cFr.rf (q := q)).t i_37 (by decide) (by decide)
      have f_40 : 0 ≤ Int32.toInt (q_34.1 56 6) ∧ Int32.toInt (q_34.1 56 6) ≤ 6 := rg_56_6 i_36
      have f_41 : 0 ≤ Int32.toInt (q.1 1 6) ∧ Int32.toInt (q.1 1 6) ≤ 6 := rg_1_6 hT
      have f_42 : 0 ≤ Int32.toInt (q_34.1 56 1) ∧ Int32.toInt (q_34.1 56 1) ≤ 10 := rg_56_1 i_36
      have f_43 : 0 ≤ Int32.toInt (q.1 1 1) ∧ Int32.toInt (q.1 1 1) ≤ 10 := rg_1_1 hT
      refine dOk_G (dg_ok (show 0 ≤ Int32.toInt p1 by omega) (show Int32.toInt p1 < ((2 : Nat) : Int) by omega)) ?_
      refine dOk_L (fun q_44 eq_44 => ?_)
      have hTq_44 : TC q_44 := by rw [eq_44]; exact sa_9 i_36
      have hFq_44 : cFr [9, 48, 51, 52, 53, 54, 55, 58, 59, 60, 61, 62] [(0, 18), (49, 1), (49, 2), (49, 3), (49, 6), (49, 8), (49, 9), (50, 2), (50, 3), (50, 4), (56, 1), (56, 2), (56, 3), (56, 6), (56, 8), (56, 9), (57, 2), (57, 3), (57, 4)] q q_44 := by rw [eq_44]; exact hFq_34.i (by decide)
      refine dOk_B (ok_X9_accept_s0 q_44 0 hTq_44) (fun r_45 q_46 h_47 => ?_)
      replace h_47 : (TC q_46) ∧ (cFr [] [(0, 18)] q_44 q_46) ∧ (Int32.toInt r_45 = (0 : Int)) := h_47
      obtain ⟨i_48, i_49, i_50⟩ := h_47
      have hFq_46 : cFr [9, 48, 51, 52, 53, 54, 55, 58, 59, 60, 61, 62] [(0, 18), (49, 1), (49, 2), (49, 3), (49, 6), (49, 8), (49, 9), (50, 2), (50, 3), (50, 4), (56, 1), (56, 2), (56, 3), (56, 6), (56, 8), (56, 9), (57, 2), (57, 3), (57, 4)] q q_46 := hFq_44.t i_49 (by decide) (by decide)
      exact dOk_some (show (TC q_46) ∧ (cFr [9, 48, 51, 52, 53, 54, 55, 58, 59, 60, 61, 62] [(0, 18), (49, 1), (49, 2), (49, 3), (49, 6), (49, 8), (49, 9), (50, 2), (50, 3), (50, 4), (56, 1), (56, 2), (56, 3), (56, 6), (56, 8), (56, 9), (57, 2), (57, 3), (57, 4)] q q_46) from ⟨i_48, hFq_46⟩)

set_option maxHeartbeats 4000000 in
set_option maxRecDepth 100000 in
theorem ok_X9_back_s0 (q : dK) (p1 : Int32) (hT : TC q) : dOk (zX9_back_s0 q p1) (fun (o : Int32 × dK) => (TC o.2) ∧ (cFr [3, 4, 5, 6, 7, 48] [(0, 18), (1, 1), (1, 2), (1, 3), (1, 6), (1, 8), (1, 9), (2, 2), (2, 3), (2, 4), (10, 2)] q o.2)) := by
  unfold zX9_back_s0
  refine dOk_V (ok_X9_isImage p1) (fun r_1 h_2 => ?_)
  replace h_2 : ((Int32.toInt r_1 = 1 ∧ 0 ≤ Int32.toInt p1 ∧ Int32.toInt p1 ≤ 1) ∨ (Int32.toInt r_1 = 0)) := h_2
  have i_3 := h_2
  refine dOk_eq (A := Int32.toInt r_1) (B := 0) rfl (by decide) (fun c_4z c_4 => ?_) (fun c_5z c_5 => ?_)
  · refine dOk_B (ok_X9_refuse_s0 q (-1) hT) (fun r_7 q_8 h_9 => ?_)
    replace h_9 : (TC q_8) ∧ (cFr [48] [(0, 18)] q q_8) ∧ (Int32.toInt r_7 = (-1 : Int)) := h_9
    obtain ⟨i_10, i_11, i_12⟩ := h_9
    have hFq_8 : cFr [3, 4, 5, 6, 7, 48] [(0, 18), (1, 1), (1, 2), (1, 3), (1, 6), (1, 8), (1, 9), (2, 2), (2, 3), (2, 4), (10, 2)] q q_8 := (cFr.rf (q := q)).t i_11 (by decide) (by decide)
    exact dOk_some (show (TC q_8) ∧ (cFr [3, 4, 5, 6, 7, 48] [(0, 18), (1, 1), (1, 2), (1, 3), (1, 6), (1, 8), (1, 9), (2, 2), (2, 3), (2, 4), (10, 2)] q q_8) from ⟨i_10, hFq_8⟩)
  · refine dOk_G (dg_ok (show 0 ≤ Int32.toInt p1 by omega) (show Int32.toInt p1 < ((2 : Nat) : Int) by omega)) ?_
    have n_13 : ((Int32.toNatClampNeg p1 : Nat) : Int) = Int32.toInt p1 := cl_eq (by omega)
    refine dOk_L (fun v_14 ev_14 => ?_)
    refine dOk_eq (A := Int32.toInt v_14) (B := 0) rfl (by decide) (fun c_15z c_15 => ?_) (fun c_16z c_16 => ?_)
    · refine dOk_B (ok_X9_refuse_s0 q (-2) hT) (fun r_18 q_19 h_20 => ?_)
      replace h_20 : (TC q_19) ∧ (cFr [48] [(0, 18)] q q_19) ∧ (Int32.toInt r_18 = (-2 : Int)) := h_20
      obtain ⟨i_21, i_22, i_23⟩ := h_20
      have hFq_19 : cFr [3, 4, 5, 6, 7, 48] [(0, 18), (1, 1), (1, 2), (1, 3), (1, 6), (1, 8), (1, 9), (2, 2), (2, 3), (2, 4), (10, 2)] q q_19 := (cFr.rf (q := q)).t i_22 (by decide) (by decide)
      exact dOk_some (show (TC q_19) ∧ (cFr [3, 4, 5, 6, 7, 48] [(0, 18), (1, 1), (1, 2), (1, 3), (1, 6), (1, 8), (1, 9), (2, 2), (2, 3), (2, 4), (10, 2)] q q_19) from ⟨i_21, hFq_19⟩)
    · refine dOk_G (dg_ok (show 0 ≤ Int32.toInt p1 by omega) (show Int32.toInt p1 < ((2 : Nat) : Int) by omega)) ?_
      refine dOk_eq (A := Int32.toInt p1) (B := 0) rfl (by decide) (fun c_24z c_24 => ?_) (fun c_25z c_25 => ?_)
      · refine dOk_V (ok_X6_copyFrom_s1_s49 q hT) (fun q_27 h_28 => ?_)
        replace h_28 : (TC q_27) ∧ (cFr [3, 4, 5, 6, 7] [(1, 1), (1, 2), (1, 3), (1, 6), (1, 8), (1, 9), (2, 2), (2, 3), (2, 4)] q q_27) ∧ (Int32.toInt (q_27.1 1 6) = Int32.toInt (q.1 49 6)) ∧ (Int32.toInt (q_27.1 1 1) = Int32.toInt (q.1 49 1)) := h_28
        obtain ⟨i_29, i_30, i_31, i_32⟩ := h_28
        have hFq_27 : cFr [3, 4, 5, 6, 7, 48] [(0, 18), (1, 1), (1, 2), (1, 3), (1, 6), (1, 8), (1, 9), (2, 2), (2, 3), (2, 4), (10, 2)] q q_27 := (cFr.rf (q := q)).t i_30 (by decide) (by decide)
        have f_33 : 0 ≤ Int32.toInt (q_27.1 1 6) ∧ Int32.toInt (q_27.1 1 6) ≤ 6 := rg_1_6 i_29
        have f_34 : 0 ≤ Int32.toInt (q.1 49 6) ∧ Int32.toInt (q.1 49 6) ≤ 6 := rg_49_6 hT
        have f_35 : 0 ≤ Int32.toInt (q_27.1 1 1) ∧ Int32.toInt (q_27.1 1 1) ≤ 10 := rg_1_1 i_29
        have f_36 : 0 ≤ Int32.toInt (q.1 49 1) ∧ Int32.toInt (q.1 49 1) ≤ 10 := rg_49_1 hT
        refine dOk_V (ok_X0_clear_s10 q_27 i_29) (fun q_37 h_38 => ?_)
        replace h_38 : (TC q_37) ∧ (cFr [] [(10, 2)] q_27 q_37) := h_38
        obtain ⟨i_39, i_40⟩ := h_38
        have hFq_37 : cFr [3, 4, 5, 6, 7, 48] [(0, 18), (1, 1), (1, 2), (1, 3), (1, 6), (1, 8), (1, 9), (2, 2), (2, 3), (2, 4), (10, 2)] q q_37 := hFq_27.t i_40 (by decide) (by decide)
        refine dOk_B (ok_X9_accept_s0 q_37 0 i_39) (fun r_41 q_42 h_43 => ?_)
        replace h_43 : (TC q_42) ∧ (cFr [] [(0, 18)] q_37 q_42) ∧ (Int32.toInt r_41 = (0 : Int)) := h_43
        obtain ⟨i_44, i_45, i_46⟩ := h_43
        have hFq_42 : cFr [3, 4, 5, 6, 7, 48] [(0, 18), (1, 1), (1, 2), (1, 3), (1, 6), (1, 8), (1, 9), (2, 2), (2, 3), (2, 4), (10, 2)] q q_42 := hFq_37.t i_45 (by decide) (by decide)
        exact dOk_some (show (TC q_42) ∧ (cFr [3, 4, 5, 6, 7, 48] [(0, 18), (1, 1), (1, 2), (1, 3), (1, 6), (1, 8), (1, 9), (2, 2), (2, 3), (2, 4), (10, 2)] q q_42) from ⟨i_44, hFq_42⟩)
      · refine dOk_G (decide_eq_true (Int32.toInt_inj.mp (show Int32.toInt p1 = (1 : Int) by rw [show (1 : Int) = (1 : Int) by decide]; omega))) ?_
        refine dOk_V (ok_X6_copyFrom_s1_s56 q hT) (fun q_47 h_48 => ?_)
        replace h_48 : (TC q_47) ∧ (cFr [3, 4, 5, 6, 7] [(1, 1), (1, 2), (1, 3), (1, 6), (1, 8), (1, 9), (2, 2), (2, 3), (2, 4)] q q_47) ∧ (Int32.toInt (q_47.1 1 6) = Int32.toInt (q.1 56 6)) ∧ (Int32.toInt (q_47.1 1 1) = Int32.toInt (q.1 56 1)) := h_48
        obtain ⟨i_49, i_50, i_51, i_52⟩ := h_48
        have hFq_47 : cFr [3, 4, 5, 6, 7, 48] [(0, 18), (1, 1), (1, 2), (1, 3), (1, 6), (1, 8), (1, 9), (2, 2), (2, 3), (2, 4), (10, 2)] q q_47 := (cFr.rf (q := q)).t i_50 (by decide) (by decide)
        have f_53 : 0 ≤ Int32.toInt (q_47.1 1 6) ∧ Int32.toInt (q_47.1 1 6) ≤ 6 := rg_1_6 i_49
        have f_54 : 0 ≤ Int32.toInt (q.1 56 6) ∧ Int32.toInt (q.1 56 6) ≤ 6 := rg_56_6 hT
        have f_55 : 0 ≤ Int32.toInt (q_47.1 1 1) ∧ Int32.toInt (q_47.1 1 1) ≤ 10 := rg_1_1 i_49
        have f_56 : 0 ≤ Int32.toInt (q.1 56 1) ∧ Int32.toInt (q.1 56 1) ≤ 10 := rg_56_1 hT
        refine dOk_V (ok_X0_clear_s10 q_47 i_49) (fun q_57 h_58 => ?_)
        replace h_58 : (TC q_57) ∧ (cFr [] [(10, 2)] q_47 q_57) := h_58
        obtain ⟨i_59, i_60⟩ := h_58
        have hFq_57 : cFr [3, 4, 5, 6, 7, 48] [(0, 18), (1, 1), (1, 2), (1, 3), (1, 6), (1, 8), (1, 9), (2, 2), (2, 3), (2, 4), (10, 2)] q q_57 := hFq_47.t i_60 (by decide) (by decide)
        refine dOk_B (ok_X9_accept_s0 q_57 0 i_59) (fun r_61 q_62 h_63 => ?_)
        replace h_63 : (TC q_62) ∧ (cFr [] [(0, 18)] q_57 q_62) ∧ (Int32.toInt r_61 = (0 : Int)) := h_63
        obtain ⟨i_64, i_65, i_66⟩ := h_63
        have hFq_62 : cFr [3, 4, 5, 6, 7, 48] [(0, 18), (1, 1), (1, 2), (1, 3), (1, 6), (1, 8), (1, 9), (2, 2), (2, 3), (2, 4), (10, 2)] q q_62 := hFq_57.t i_65 (by decide) (by decide)
        exact dOk_some (show (TC q_62) ∧ (cFr [3, 4, 5, 6, 7, 48] [(0, 18), (1, 1), (1, 2), (1, 3), (1, 6), (1, 8), (1, 9), (2, 2), (2, 3), (2, 4), (10, 2)] q q_62) from ⟨i_64, hFq_62⟩)

set_option maxHeartbeats 4000000 in
set_option maxRecDepth 100000 in
theorem ok_X9_undo_s0 (q : dK) (hT : TC q) : dOk (zX9_undo_s0 q) (fun (o : Int32 × dK) => (TC o.2) ∧ (cFr [3, 4, 48] [(0, 18), (2, 2), (2, 3), (2, 4), (10, 2)] q o.2)) := by
  unfold zX9_undo_s0
  have f_1 : 0 ≤ Int32.toInt (q.1 10 2) ∧ Int32.toInt (q.1 10 2) ≤ 16 := rg_10_2 hT
  refine dOk_lt (A := 0) (B := Int32.toInt (q.1 10 2)) (by decide) rfl (fun c_2 => ?_) (fun c_3 => ?_)
  · refine dOk_L (fun q_4 eq_4 => ?_)
    try have t_5 : Int32.toInt (q.1 10 2 - 1) = Int32.toInt (q.1 10 2) - 1 := ti_sub rfl (by decide) (by omega) (by omega)
    have hTq_4 : TC q_4 := by rw [eq_4]; exact st_10_2 hT (show (0 : Int) ≤ Int32.toInt (q.1 10 2 - 1) by omega) (show Int32.toInt (q.1 10 2 - 1) ≤ (16 : Int) by omega)
    have hFq_4 : cFr [3, 4, 48] [(0, 18), (2, 2), (2, 3), (2, 4), (10, 2)] q q_4 := by rw [eq_4]; exact (cFr.rf (q := q)).f (by decide)
    have f_6 : 0 ≤ Int32.toInt (q_4.1 10 2) ∧ Int32.toInt (q_4.1 10 2) ≤ 16 := rg_10_2 hTq_4
    have w_7 : Int32.toInt (q_4.1 10 2) = Int32.toInt (q.1 10 2 - 1) := by rw [eq_4, cui_e]
    refine dOk_G (dg_ok (show 0 ≤ Int32.toInt (q_4.1 10 2) by omega) (show Int32.toInt (q_4.1 10 2) < ((16 : Nat) : Int) by omega)) ?_
    have n_8 : ((Int32.toNatClampNeg (q_4.1 10 2) : Nat) : Int) = Int32.toInt (q_4.1 10 2) := cl_eq (by omega)
    refine dOk_L (fun v_9 ev_9 => ?_)
    have f_10 : 0 ≤ Int64.toInt v_9 := by rw [ev_9]; exact (hTq_4.2.2.2.1 _).1
    refine dOk_V (ok_X8_unpack_s2 q_4 (v_9) hTq_4 (show 0 ≤ Int64.toInt (v_9) by omega)) (fun q_11 h_12 => ?_)
    replace h_12 : (TC q_11) ∧ (cFr [3, 4] [(2, 2), (2, 3), (2, 4)] q_4 q_11) := h_12
    obtain ⟨i_13, i_14⟩ := h_12
    have hFq_11 : cFr [3, 4, 48] [(0, 18), (2, 2), (2, 3), (2, 4), (10, 2)] q q_11 := hFq_4.t i_14 (by decide) (by decide)
    have f_15 : 0 ≤ Int32.toInt (q_11.1 10 2) ∧ Int32.toInt (q_11.1 10 2) ≤ 16 := rg_10_2 i_13
    have w_16 : Int32.toInt (q_11.1 10 2) = Int32.toInt (q_4.1 10 2) := by rw [i_14.1 10 2 (by decide) (by decide)]
    refine dOk_G (dg_ok (show 0 ≤ Int32.toInt (q_11.1 10 2) by omega) (show Int32.toInt (q_11.1 10 2) < ((16 : Nat) : Int) by omega)) ?_
    have n_17 : ((Int32.toNatClampNeg (q_11.1 10 2) : Nat) : Int) = Int32.toInt (q_11.1 10 2) := cl_eq (by omega)
    refine dOk_L (fun v_18 ev_18 => ?_)
    refine dOk_B (ok_X9_accept_s0 q_11 v_18 i_13) (fun r_19 q_20 h_21 => ?_)
    replace h_21 : (TC q_20) ∧ (cFr [] [(0, 18)] q_11 q_20) ∧ (Int32.toInt r_19 = Int32.toInt v_18) := h_21
    obtain ⟨i_22, i_23, i_24⟩ := h_21
    have hFq_20 : cFr [3, 4, 48] [(0, 18), (2, 2), (2, 3), (2, 4), (10, 2)] q q_20 := hFq_11.t i_23 (by decide) (by decide)
    exact dOk_some (show (TC q_20) ∧ (cFr [3, 4, 48] [(0, 18), (2, 2), (2, 3), (2, 4), (10, 2)] q q_20) from ⟨i_22, hFq_20⟩)
  · refine dOk_B (ok_X9_refuse_s0 q (-3) hT) (fun r_25 q_26 h_27 => ?_)
    replace h_27 : (TC q_26) ∧ (cFr [48] [(0, 18)] q q_26) ∧ (Int32.toInt r_25 = (-3 : Int)) := h_27
    obtain ⟨i_28, i_29, i_30⟩ := h_27
    have hFq_26 : cFr [3, 4, 48] [(0, 18), (2, 2), (2, 3), (2, 4), (10, 2)] q q_26 := (cFr.rf (q := q)).t i_29 (by decide) (by decide)
    exact dOk_some (show (TC q_26) ∧ (cFr [3, 4, 48] [(0, 18), (2, 2), (2, 3), (2, 4), (10, 2)] q q_26) from ⟨i_28, hFq_26⟩)
