set_option maxHeartbeats 4000000 in
set_option maxRecDepth 100000 in
theorem ok_X6_copyFrom_s56_s1 (q : dK) (hT : TC q) : dOk (zX6_copyFrom_s56_s1 q) (fun (o : dK) => (TC o) ∧ (cFr [58, 59, 60, 61, 62] [(56, 1), (56, 2), (56, 3), (56, 6), (56, 8), (56, 9), (57, 2), (57, 3), (57, 4)] q o) ∧ (Int32.toInt (o.1 56 6) = Int32.toInt (q.1 1 6)) ∧ (Int32.toInt (o.1 56 1) = Int32.toInt (q.1 1 1))) := by
  unfold zX6_copyFrom_s56_s1
  refine dOk_B (ok_X8_pack_s2 q hT) (fun r_1 q_2 h_3 => ?_)
  replace h_3 : (q_2 = q) ∧ (0 ≤ Int64.toInt r_1) := h_3
  obtain ⟨i_4, i_5⟩ := h_3
  subst q_2
  refine dOk_V (ok_X8_unpack_s57 q (r_1) hT (show 0 ≤ Int64.toInt (r_1) by omega)) (fun q_6 h_7 => ?_)
  replace h_7 : (TC q_6) ∧ (cFr [58, 59] [(57, 2), (57, 3), (57, 4)] q q_6) := h_7
  obtain ⟨i_8, i_9⟩ := h_7
  have hFq_6 : cFr [58, 59, 60, 61, 62] [(56, 1), (56, 2), (56, 3), (56, 6), (56, 8), (56, 9), (57, 2), (57, 3), (57, 4)] q q_6 := (cFr.rf (q := q)).t i_9 (by decide) (by decide)
  refine dOk_L (fun q_10 eq_10 => ?_)
  have f_11 : 0 ≤ Int32.toInt (q_6.1 1 1) ∧ Int32.toInt (q_6.1 1 1) ≤ 10 := rg_1_1 i_8
  have f_12 : 0 ≤ Int32.toInt (q.1 1 1) ∧ Int32.toInt (q.1 1 1) ≤ 10 := rg_1_1 hT
  have w_13 : Int32.toInt (q_6.1 1 1) = Int32.toInt (q.1 1 1) := by rw [i_9.1 1 1 (by decide) (by decide)]
  have hTq_10 : TC q_10 := by rw [eq_10]; exact st_56_1 i_8 (show (0 : Int) ≤ Int32.toInt (q_6.1 1 1) by omega) (show Int32.toInt (q_6.1 1 1) ≤ (10 : Int) by omega)
  have hFq_10 : cFr [58, 59, 60, 61, 62] [(56, 1), (56, 2), (56, 3), (56, 6), (56, 8), (56, 9), (57, 2), (57, 3), (57, 4)] q q_10 := by rw [eq_10]; exact hFq_6.f (by decide)
  refine dOk_L (fun q_14 eq_14 => ?_)
  have w_15 : Int32.toInt (q_6.1 1 2) = Int32.toInt (q.1 1 2) := by rw [i_9.1 1 2 (by decide) (by decide)]
  have w_16 : Int32.toInt (q_10.1 1 2) = Int32.toInt (q_6.1 1 2) := by rw [eq_10, cui_o (by decide)]
  have hTq_14 : TC q_14 := by rw [eq_14]; exact sa_56_2 hTq_10
  have hFq_14 : cFr [58, 59, 60, 61, 62] [(56, 1), (56, 2), (56, 3), (56, 6), (56, 8), (56, 9), (57, 2), (57, 3), (57, 4)] q q_14 := by rw [eq_14]; exact hFq_10.f (by decide)
  refine dOk_L (fun q_17 eq_17 => ?_)
  have w_18 : Int32.toInt (q_6.1 1 3) = Int32.toInt (q.1 1 3) := by rw [i_9.1 1 3 (by decide) (by decide)]
  have w_19 : Int32.toInt (q_10.1 1 3) = Int32.toInt (q_6.1 1 3) := by rw [eq_10, cui_o (by decide)]
  have w_20 : Int32.toInt (q_14.1 1 3) = Int32.toInt (q_10.1 1 3) := by rw [eq_14, cui_o (by decide)]
  have hTq_17 : TC q_17 := by rw [eq_17]; exact sa_56_3 hTq_14
  have hFq_17 : cFr [58, 59, 60, 61, 62] [(56, 1), (56, 2), (56, 3), (56, 6), (56, 8), (56, 9), (57, 2), (57, 3), (57, 4)] q q_17 := by rw [eq_17]; exact hFq_14.f (by decide)
  refine dOk_L (fun q_21 eq_21 => ?_)
  have f_22 : 0 ≤ Int32.toInt (q_17.1 1 6) ∧ Int32.toInt (q_17.1 1 6) ≤ 6 := rg_1_6 hTq_17
  have f_23 : 0 ≤ Int32.toInt (q_14.1 1 6) ∧ Int32.toInt (q_14.1 1 6) ≤ 6 := rg_1_6 hTq_14
  have f_24 : 0 ≤ Int32.toInt (q_10.1 1 6) ∧ Int32.toInt (q_10.1 1 6) ≤ 6 := rg_1_6 hTq_10
  have f_25 : 0 ≤ Int32.toInt (q_6.1 1 6) ∧ Int32.toInt (q_6.1 1 6) ≤ 6 := rg_1_6 i_8
  have f_26 : 0 ≤ Int32.toInt (q.1 1 6) ∧ Int32.toInt (q.1 1 6) ≤ 6 := rg_1_6 hT
  have w_27 : Int32.toInt (q_6.1 1 6) = Int32.toInt (q.1 1 6) := by rw [i_9.1 1 6 (by decide) (by decide)]
  have w_28 : Int32.toInt (q_10.1 1 6) = Int32.toInt (q_6.1 1 6) := by rw [eq_10, cui_o (by decide)]
  have w_29 : Int32.toInt (q_14.1 1 6) = Int32.toInt (q_10.1 1 6) := by rw [eq_14, cui_o (by decide)]
  have w_30 : Int32.toInt (q_17.1 1 6) = Int32.toInt (q_14.1 1 6) := by rw [eq_17, cui_o (by decide)]
  have hTq_21 : TC q_21 := by rw [eq_21]; exact st_56_6 hTq_17 (show (0 : Int) ≤ Int32.toInt (q_17.1 1 6) by omega) (show Int32.toInt (q_17.1 1 6) ≤ (6 : Int) by omega)
  have hFq_21 : cFr [58, 59, 60, 61, 62] [(56, 1), (56, 2), (56, 3), (56, 6), (56, 8), (56, 9), (57, 2), (57, 3), (57, 4)] q q_21 := by rw [eq_21]; exact hFq_17.f (by decide)
  unfold zX6_copyFrom_s56_s1_48
  refine dFix_ok (fun (a : dK × Int32) => (TC a.1) ∧ (cFr [60, 61] [] q_21 a.1) ∧ (0 ≤ Int32.toInt a.2) ∧ (Int32.toInt a.2 ≤ 6)) (fun (a : dK × Int32) => (6 - Int32.toInt a.2).toNat) ?_ _ ?_ _ (dF_gt ?_)
  · intro a ha k_32 hk_31
    obtain ⟨q_33, x2_34⟩ := a
    replace ha : (TC q_33) ∧ (cFr [60, 61] [] q_21 q_33) ∧ (0 ≤ Int32.toInt x2_34) ∧ (Int32.toInt x2_34 ≤ 6) := ha
    obtain ⟨a_35, a_36, a_37, a_38⟩ := ha
    show dOk (zX6_copyFrom_s56_s1_48b  (fun q x2 => k_32 (q, x2)) q_33 x2_34) _
    unfold zX6_copyFrom_s56_s1_48b
    have hFq_33 : cFr [58, 59, 60, 61, 62] [(56, 1), (56, 2), (56, 3), (56, 6), (56, 8), (56, 9), (57, 2), (57, 3), (57, 4)] q q_33 := hFq_21.t a_36 (by decide) (by decide)
    refine dOk_le (A := 6) (B := Int32.toInt x2_34) (by decide) rfl (fun c_39 => ?_) (fun c_40 => ?_)
    · refine dOk_L (fun q_41 eq_41 => ?_)
      have f_42 : 0 ≤ Int32.toInt (q_33.1 1 8) ∧ Int32.toInt (q_33.1 1 8) ≤ 6 := rg_1_8 a_35
      have f_43 : 0 ≤ Int32.toInt (q_21.1 1 8) ∧ Int32.toInt (q_21.1 1 8) ≤ 6 := rg_1_8 hTq_21
      have f_44 : 0 ≤ Int32.toInt (q_17.1 1 8) ∧ Int32.toInt (q_17.1 1 8) ≤ 6 := rg_1_8 hTq_17
      have f_45 : 0 ≤ Int32.toInt (q_14.1 1 8) ∧ Int32.toInt (q_14.1 1 8) ≤ 6 := rg_1_8 hTq_14
      have f_46 : 0 ≤ Int32.toInt (q_10.1 1 8) ∧ Int32.toInt (q_10.1 1 8) ≤ 6 := rg_1_8 hTq_10
      have f_47 : 0 ≤ Int32.toInt (q_6.1 1 8) ∧ Int32.toInt (q_6.1 1 8) ≤ 6 := rg_1_8 i_8
      have f_48 : 0 ≤ Int32.toInt (q.1 1 8) ∧ Int32.toInt (q.1 1 8) ≤ 6 := rg_1_8 hT
      have w_49 : Int32.toInt (q_6.1 1 8) = Int32.toInt (q.1 1 8) := by rw [i_9.1 1 8 (by decide) (by decide)]
      have w_50 : Int32.toInt (q_10.1 1 8) = Int32.toInt (q_6.1 1 8) := by rw [eq_10, cui_o (by decide)]
      have w_51 : Int32.toInt (q_14.1 1 8) = Int32.toInt (q_10.1 1 8) := by rw [eq_14, cui_o (by decide)]
      have w_52 : Int32.toInt (q_17.1 1 8) = Int32.toInt (q_14.1 1 8) := by rw [eq_17, cui_o (by decide)]
      have w_53 : Int32.toInt (q_21.1 1 8) = Int32.toInt (q_17.1 1 8) := by rw [eq_21, cui_o (by decide)]
      have w_54 : Int32.toInt (q_33.1 1 8) = Int32.toInt (q_21.1 1 8) := by rw [a_36.1 1 8 (by decide) (by decide)]
      have hTq_41 : TC q_41 := by rw [eq_41]; exact st_56_8 a_35 (show (0 : Int) ≤ Int32.toInt (q_33.1 1 8) by omega) (show Int32.toInt (q_33.1 1 8) ≤ (6 : Int) by omega)
      have hFq_41 : cFr [58, 59, 60, 61, 62] [(56, 1), (56, 2), (56, 3), (56, 6), (56, 8), (56, 9), (57, 2), (57, 3), (57, 4)] q q_41 := by rw [eq_41]; exact hFq_33.f (by decide)
      unfold zX6_copyFrom_s56_s1_94
      refine dFix_ok (fun (a : dK × Int32) => (TC a.1) ∧ (cFr [62] [] q_41 a.1) ∧ (0 ≤ Int32.toInt a.2) ∧ (Int32.toInt a.2 ≤ 6)) (fun (a : dK × Int32) => (6 - Int32.toInt a.2).toNat) ?_ _ ?_ _ (dF_gt ?_)
      · intro a ha k_56 hk_55
        obtain ⟨q_57, x2_58⟩ := a
        replace ha : (TC q_57) ∧ (cFr [62] [] q_41 q_57) ∧ (0 ≤ Int32.toInt x2_58) ∧ (Int32.toInt x2_58 ≤ 6) := ha
        obtain ⟨a_59, a_60, a_61, a_62⟩ := ha
        show dOk (zX6_copyFrom_s56_s1_94b  (fun q x2 => k_56 (q, x2)) q_57 x2_58) _
        unfold zX6_copyFrom_s56_s1_94b
        have hFq_57 : cFr [58, 59, 60, 61, 62] [(56, 1), (56, 2), (56, 3), (56, 6), (56, 8), (56, 9), (57, 2), (57, 3), (57, 4)] q q_57 := hFq_41.t a_60 (by decide) (by decide)
        refine dOk_le (A := 6) (B := Int32.toInt x2_58) (by decide) rfl (fun c_63 => ?_) (fun c_64 => ?_)
        · refine dOk_L (fun q_65 eq_65 => ?_)
          have w_66 : Int32.toInt (q_6.1 1 9) = Int32.toInt (q.1 1 9) := by rw [i_9.1 1 9 (by decide) (by decide)]
          have w_67 : Int32.toInt (q_10.1 1 9) = Int32.toInt (q_6.1 1 9) := by rw [eq_10, cui_o (by decide)]
          have w_68 : Int32.toInt (q_14.1 1 9) = Int32.toInt (q_10.1 1 9) := by rw [eq_14, cui_o (by decide)]
          have w_69 : Int32.toInt (q_17.1 1 9) = Int32.toInt (q_14.1 1 9) := by rw [eq_17, cui_o (by decide)]
          have w_70 : Int32.toInt (q_21.1 1 9) = Int32.toInt (q_17.1 1 9) := by rw [eq_21, cui_o (by decide)]
          have w_71 : Int32.toInt (q_33.1 1 9) = Int32.toInt (q_21.1 1 9) := by rw [a_36.1 1 9 (by decide) (by decide)]
          have w_72 : Int32.toInt (q_41.1 1 9) = Int32.toInt (q_33.1 1 9) := by rw [eq_41, cui_o (by decide)]
          have w_73 : Int32.toInt (q_57.1 1 9) = Int32.toInt (q_41.1 1 9) := by rw [a_60.1 1 9 (by decide) (by decide)]
          have hTq_65 : TC q_65 := by rw [eq_65]; exact sa_56_9 a_59
          have hFq_65 : cFr [58, 59, 60, 61, 62] [(56, 1), (56, 2), (56, 3), (56, 6), (56, 8), (56, 9), (57, 2), (57, 3), (57, 4)] q q_65 := by rw [eq_65]; exact hFq_57.f (by decide)
          have f_74 : 0 ≤ Int32.toInt (q_65.1 56 6) ∧ Int32.toInt (q_65.1 56 6) ≤ 6 := rg_56_6 hTq_65
          have f_75 : 0 ≤ Int32.toInt (q_57.1 56 6) ∧ Int32.toInt (q_57.1 56 6) ≤ 6 := rg_56_6 a_59
          have f_76 : 0 ≤ Int32.toInt (q_41.1 56 6) ∧ Int32.toInt (q_41.1 56 6) ≤ 6 := rg_56_6 hTq_41
          have f_77 : 0 ≤ Int32.toInt (q_33.1 56 6) ∧ Int32.toInt (q_33.1 56 6) ≤ 6 := rg_56_6 a_35
          have f_78 : 0 ≤ Int32.toInt (q_21.1 56 6) ∧ Int32.toInt (q_21.1 56 6) ≤ 6 := rg_56_6 hTq_21
          have w_79 : Int32.toInt (q_21.1 56 6) = Int32.toInt (q_17.1 1 6) := by rw [eq_21, cui_e]
          have w_80 : Int32.toInt (q_33.1 56 6) = Int32.toInt (q_21.1 56 6) := by rw [a_36.1 56 6 (by decide) (by decide)]
          have w_81 : Int32.toInt (q_41.1 56 6) = Int32.toInt (q_33.1 56 6) := by rw [eq_41, cui_n (by decide)]
          have w_82 : Int32.toInt (q_57.1 56 6) = Int32.toInt (q_41.1 56 6) := by rw [a_60.1 56 6 (by decide) (by decide)]
          have w_83 : Int32.toInt (q_65.1 56 6) = Int32.toInt (q_57.1 56 6) := by rw [eq_65, cui_n (by decide)]
          have f_84 : 0 ≤ Int32.toInt (q_65.1 56 1) ∧ Int32.toInt (q_65.1 56 1) ≤ 10 := rg_56_1 hTq_65
          have f_85 : 0 ≤ Int32.toInt (q_57.1 56 1) ∧ Int32.toInt (q_57.1 56 1) ≤ 10 := rg_56_1 a_59
          have f_86 : 0 ≤ Int32.toInt (q_41.1 56 1) ∧ Int32.toInt (q_41.1 56 1) ≤ 10 := rg_56_1 hTq_41
          have f_87 : 0 ≤ Int32.toInt (q_33.1 56 1) ∧ Int32.toInt (q_33.1 56 1) ≤ 10 := rg_56_1 a_35
          have f_88 : 0 ≤ Int32.toInt (q_21.1 56 1) ∧ Int32.toInt (q_21.1 56 1) ≤ 10 := rg_56_1 hTq_21
          have f_89 : 0 ≤ Int32.toInt (q_17.1 56 1) ∧ Int32.toInt (q_17.1 56 1) ≤ 10 := rg_56_1 hTq_17
          have f_90 : 0 ≤ Int32.toInt (q_14.1 56 1) ∧ Int32.toInt (q_14.1 56 1) ≤ 10 := rg_56_1 hTq_14
          have f_91 : 0 ≤ Int32.toInt (q_10.1 56 1) ∧ Int32.toInt (q_10.1 56 1) ≤ 10 := rg_56_1 hTq_10
          have w_92 : Int32.toInt (q_10.1 56 1) = Int32.toInt (q_6.1 1 1) := by rw [eq_10, cui_e]
          have w_93 : Int32.toInt (q_14.1 56 1) = Int32.toInt (q_10.1 56 1) := by rw [eq_14, cui_n (by decide)]
          have w_94 : Int32.toInt (q_17.1 56 1) = Int32.toInt (q_14.1 56 1) := by rw [eq_17, cui_n (by decide)]
          have w_95 : Int32.toInt (q_21.1 56 1) = Int32.toInt (q_17.1 56 1) := by rw [eq_21, cui_n (by decide)]
          have w_96 : Int32.toInt (q_33.1 56 1) = Int32.toInt (q_21.1 56 1) := by rw [a_36.1 56 1 (by decide) (by decide)]
          have w_97 : Int32.toInt (q_41.1 56 1) = Int32.toInt (q_33.1 56 1) := by rw [eq_41, cui_n (by decide)]
          have w_98 : Int32.toInt (q_57.1 56 1) = Int32.toInt (q_41.1 56 1) := by rw [a_60.1 56 1 (by decide) (by decide)]
          have w_99 : Int32.toInt (q_65.1 56 1) = Int32.toInt (q_57.1 56 1) := by rw [eq_65, cui_n (by decide)]
          exact dOk_some (show (TC q_65) ∧ (cFr [58, 59, 60, 61, 62] [(56, 1), (56, 2), (56, 3), (56, 6), (56, 8), (56, 9), (57, 2), (57, 3), (57, 4)] q q_65) ∧ (Int32.toInt (q_65.1 56 6) = Int32.toInt (q.1 1 6)) ∧ (Int32.toInt (q_65.1 56 1) = Int32.toInt (q.1 1 1)) from ⟨hTq_65, hFq_65, by omega, by omega⟩)
        · refine dOk_G (dg_ok (show 0 ≤ Int32.toInt x2_58 by omega) (show Int32.toInt x2_58 < ((6 : Nat) : Int) by omega)) ?_
          have n_100 : ((Int32.toNatClampNeg x2_58 : Nat) : Int) = Int32.toInt x2_58 := cl_eq (by omega)
          refine dOk_L (fun v_101 ev_101 => ?_)
          have f_102 : 0 ≤ Int32.toInt v_101 ∧ Int32.toInt v_101 ≤ 2147483647 := by rw [ev_101]; exact rg_7 a_59 _
          have f_103 : Int32.toInt v_101 ≤ (q_57.2.2.length : Int) := by rw [ev_101]; exact (a_59.2.1.2 _).1
          refine dOk_G (dg_ok (show 0 ≤ Int32.toInt x2_58 by omega) (show Int32.toInt x2_58 < ((6 : Nat) : Int) by omega)) ?_
          refine dOk_eq (A := Int32.toInt v_101) (B := 0) rfl (by decide) (fun c_104z c_104 => ?_) (fun c_105z c_105 => ?_)
          · refine dOk_L (fun q_107 eq_107 => ?_)
            have n_108 : q_6.2.2.length = q.2.2.length := (congrArg List.length i_9.2)
            have n_109 : q_10.2.2.length = q_6.2.2.length := (by rw [eq_10]; rfl)
            have n_110 : q_14.2.2.length = q_10.2.2.length := (by rw [eq_14]; rfl)
            have n_111 : q_17.2.2.length = q_14.2.2.length := (by rw [eq_17]; rfl)
            have n_112 : q_21.2.2.length = q_17.2.2.length := (by rw [eq_21]; rfl)
            have n_113 : q_33.2.2.length = q_21.2.2.length := (congrArg List.length a_36.2)
            have n_114 : q_41.2.2.length = q_33.2.2.length := (by rw [eq_41]; rfl)
            have n_115 : q_57.2.2.length = q_41.2.2.length := (congrArg List.length a_60.2)
            have hTq_107 : TC q_107 := by rw [eq_107]; exact tc_law a_59 (by omega) (show 0 ≤ (0 : Int) by omega) (show (0 : Int) ≤ (q_57.2.2.length : Int) by omega)
            have hFq_107 : cFr [58, 59, 60, 61, 62] [(56, 1), (56, 2), (56, 3), (56, 6), (56, 8), (56, 9), (57, 2), (57, 3), (57, 4)] q q_107 := by rw [eq_107]; exact hFq_57.i (by decide)
            try have t_116 : Int32.toInt (x2_58 + 1) = Int32.toInt x2_58 + 1 := ti_add rfl (by decide) (by omega) (by omega)
            exact hk_55 (q_107, (x2_58 + 1)) (show (TC q_107) ∧ (cFr [62] [] q_41 q_107) ∧ (0 ≤ Int32.toInt (x2_58 + 1)) ∧ (Int32.toInt (x2_58 + 1) ≤ 6) from ⟨hTq_107, (by rw [eq_107]; exact (((cFr.rf : cFr [62] [] q_41 q_41).t a_60 (by decide) (by decide)) : cFr [62] [] q_41 q_57).i (by decide)), by omega, by omega⟩) (show (6 - Int32.toInt (x2_58 + 1)).toNat < (6 - Int32.toInt x2_58).toNat by omega)
          · have n_117 : q_6.2.2.length = q.2.2.length := (congrArg List.length i_9.2)
            have n_118 : q_10.2.2.length = q_6.2.2.length := (by rw [eq_10]; rfl)
            have n_119 : q_14.2.2.length = q_10.2.2.length := (by rw [eq_14]; rfl)
            have n_120 : q_17.2.2.length = q_14.2.2.length := (by rw [eq_17]; rfl)
            have n_121 : q_21.2.2.length = q_17.2.2.length := (by rw [eq_21]; rfl)
            have n_122 : q_33.2.2.length = q_21.2.2.length := (congrArg List.length a_36.2)
            have n_123 : q_41.2.2.length = q_33.2.2.length := (by rw [eq_41]; rfl)
            have n_124 : q_57.2.2.length = q_41.2.2.length := (congrArg List.length a_60.2)
            have g_125 : dlg q_57 v_101 = true := tc_dlg a_59 (show ¬ Int32.toInt v_101 = 0 by omega) (show 0 ≤ Int32.toInt v_101 by omega) (show Int32.toInt v_101 ≤ (q_57.2.2.length : Int) by omega)
            refine dOk_G g_125 ?_
            refine dOk_L (fun q_126 eq_126 => ?_)
            have hTq_126 : TC q_126 := by rw [eq_126]; exact tc_law a_59 (by omega) (show 0 ≤ Int32.toInt v_101 by omega) (show Int32.toInt v_101 ≤ (q_57.2.2.length : Int) by omega)
            have hFq_126 : cFr [58, 59, 60, 61, 62] [(56, 1), (56, 2), (56, 3), (56, 6), (56, 8), (56, 9), (57, 2), (57, 3), (57, 4)] q q_126 := by rw [eq_126]; exact hFq_57.i (by decide)
            try have t_127 : Int32.toInt (x2_58 + 1) = Int32.toInt x2_58 + 1 := ti_add rfl (by decide) (by omega) (by omega)
            exact hk_55 (q_126, (x2_58 + 1)) (show (TC q_126) ∧ (cFr [62] [] q_41 q_126) ∧ (0 ≤ Int32.toInt (x2_58 + 1)) ∧ (Int32.toInt (x2_58 + 1) ≤ 6) from ⟨hTq_126, (by rw [eq_126]; exact (((cFr.rf : cFr [62] [] q_41 q_41).t a_60 (by decide) (by decide)) : cFr [62] [] q_41 q_57).i (by decide)), by omega, by omega⟩) (show (6 - Int32.toInt (x2_58 + 1)).toNat < (6 - Int32.toInt x2_58).toNat by omega)
      · exact (show (TC q_41) ∧ (cFr [62] [] q_41 q_41) ∧ (0 ≤ (0 : Int)) ∧ ((0 : Int) ≤ 6) from ⟨hTq_41, cFr.rf, by omega, by omega⟩)
      · show (6 - (0 : Int)).toNat < 1000000000000
        omega
    · refine dOk_G (dg_ok (show 0 ≤ Int32.toInt x2_34 by omega) (show Int32.toInt x2_34 < ((6 : Nat) : Int) by omega)) ?_
      have n_128 : ((Int32.toNatClampNeg x2_34 : Nat) : Int) = Int32.toInt x2_34 := cl_eq (by omega)
      refine dOk_L (fun v_129 ev_129 => ?_)
      refine dOk_G (dg_ok (show 0 ≤ Int32.toInt x2_34 by omega) (show Int32.toInt x2_34 < ((6 : Nat) : Int) by omega)) ?_
      refine dOk_L (fun q_130 eq_130 => ?_)
      have hTq_130 : TC q_130 := by rw [eq_130]; exact sa_60 a_35
      have hFq_130 : cFr [58, 59, 60, 61, 62] [(56, 1), (56, 2), (56, 3), (56, 6), (56, 8), (56, 9), (57, 2), (57, 3), (57, 4)] q q_130 := by rw [eq_130]; exact hFq_33.i (by decide)
      refine dOk_G (dg_ok (show 0 ≤ Int32.toInt x2_34 by omega) (show Int32.toInt x2_34 < ((6 : Nat) : Int) by omega)) ?_
      refine dOk_L (fun v_131 ev_131 => ?_)
      refine dOk_G (dg_ok (show 0 ≤ Int32.toInt x2_34 by omega) (show Int32.toInt x2_34 < ((6 : Nat) : Int) by omega)) ?_
      refine dOk_L (fun q_132 eq_132 => ?_)
      have hTq_132 : TC q_132 := by rw [eq_132]; exact sa_61 hTq_130
      have hFq_132 : cFr [58, 59, 60, 61, 62] [(56, 1), (56, 2), (56, 3), (56, 6), (56, 8), (56, 9), (57, 2), (57, 3), (57, 4)] q q_132 := by rw [eq_132]; exact hFq_130.i (by decide)
      try have t_133 : Int32.toInt (x2_34 + 1) = Int32.toInt x2_34 + 1 := ti_add rfl (by decide) (by omega) (by omega)
      exact hk_31 (q_132, (x2_34 + 1)) (show (TC q_132) ∧ (cFr [60, 61] [] q_21 q_132) ∧ (0 ≤ Int32.toInt (x2_34 + 1)) ∧ (Int32.toInt (x2_34 + 1) ≤ 6) from ⟨hTq_132, (by rw [eq_132]; exact ((by rw [eq_130]; exact (((cFr.rf : cFr [60, 61] [] q_21 q_21).t a_36 (by decide) (by decide)) : cFr [60, 61] [] q_21 q_33).i (by decide)) : cFr [60, 61] [] q_21 q_130).i (by decide)), by omega, by omega⟩) (show (6 - Int32.toInt (x2_34 + 1)).toNat < (6 - Int32.toInt x2_34).toNat by omega)
  · exact (show (TC q_21) ∧ (cFr [60, 61] [] q_21 q_21) ∧ (0 ≤ (0 : Int)) ∧ ((0 : Int) ≤ 6) from ⟨hTq_21, cFr.rf, by omega, by omega⟩)
  · show (6 - (0 : Int)).toNat < 1000000000000
    omega

set_option maxHeartbeats 4000000 in
set_option maxRecDepth 100000 in
theorem ok_X6_copyFrom_s1_s49 (q : dK) (hT : TC q) : dOk (zX6_copyFrom_s1_s49 q) (fun (o : dK) => (TC o) ∧ (cFr [3, 4, 5, 6, 7] [(1, 1), (1, 2), (1, 3), (1, 6), (1, 8), (1, 9), (2, 2), (2, 3), (2, 4)] q o) ∧ (Int32.toInt (o.1 1 6) = Int32.toInt (q.1 49 6)) ∧ (Int32.toInt (o.1 1 1) = Int32.toInt (q.1 49 1))) := by
  unfold zX6_copyFrom_s1_s49
  refine dOk_B (ok_X8_pack_s50 q hT) (fun r_1 q_2 h_3 => ?_)
  replace h_3 : (q_2 = q) ∧ (0 ≤ Int64.toInt r_1) := h_3
  obtain ⟨i_4, i_5⟩ := h_3
  subst q_2
  refine dOk_V (ok_X8_unpack_s2 q (r_1) hT (show 0 ≤ Int64.toInt (r_1) by omega)) (fun q_6 h_7 => ?_)
  replace h_7 : (TC q_6) ∧ (cFr [3, 4] [(2, 2), (2, 3), (2, 4)] q q_6) := h_7
  obtain ⟨i_8, i_9⟩ := h_7
  have hFq_6 : cFr [3, 4, 5, 6, 7] [(1, 1), (1, 2), (1, 3), (1, 6), (1, 8), (1, 9), (2, 2), (2, 3), (2, 4)] q q_6 := (cFr.rf (q := q)).t i_9 (by decide) (by decide)
  refine dOk_L (fun q_10 eq_10 => ?_)
  have f_11 : 0 ≤ Int32.toInt (q_6.1 49 1) ∧ Int32.toInt (q_6.1 49 1) ≤ 10 := rg_49_1 i_8
  have f_12 : 0 ≤ Int32.toInt (q.1 49 1) ∧ Int32.toInt (q.1 49 1) ≤ 10 := rg_49_1 hT
  have w_13 : Int32.toInt (q_6.1 49 1) = Int32.toInt (q.1 49 1) := by rw [i_9.1 49 1 (by decide) (by decide)]
  have hTq_10 : TC q_10 := by rw [eq_10]; exact st_1_1 i_8 (show (0 : Int) ≤ Int32.toInt (q_6.1 49 1) by omega) (show Int32.toInt (q_6.1 49 1) ≤ (10 : Int) by omega)
  have hFq_10 : cFr [3, 4, 5, 6, 7] [(1, 1), (1, 2), (1, 3), (1, 6), (1, 8), (1, 9), (2, 2), (2, 3), (2, 4)] q q_10 := by rw [eq_10]; exact hFq_6.f (by decide)
  refine dOk_L (fun q_14 eq_14 => ?_)
  have w_15 : Int32.toInt (q_6.1 49 2) = Int32.toInt (q.1 49 2) := by rw [i_9.1 49 2 (by decide) (by decide)]
  have w_16 : Int32.toInt (q_10.1 49 2) = Int32.toInt (q_6.1 49 2) := by rw [eq_10, cui_o (by decide)]
  have hTq_14 : TC q_14 := by rw [eq_14]; exact sa_1_2 hTq_10
  have hFq_14 : cFr [3, 4, 5, 6, 7] [(1, 1), (1, 2), (1, 3), (1, 6), (1, 8), (1, 9), (2, 2), (2, 3), (2, 4)] q q_14 := by rw [eq_14]; exact hFq_10.f (by decide)
  refine dOk_L (fun q_17 eq_17 => ?_)
  have w_18 : Int32.toInt (q_6.1 49 3) = Int32.toInt (q.1 49 3) := by rw [i_9.1 49 3 (by decide) (by decide)]
  have w_19 : Int32.toInt (q_10.1 49 3) = Int32.toInt (q_6.1 49 3) := by rw [eq_10, cui_o (by decide)]
  have w_20 : Int32.toInt (q_14.1 49 3) = Int32.toInt (q_10.1 49 3) := by rw [eq_14, cui_o (by decide)]
  have hTq_17 : TC q_17 := by rw [eq_17]; exact sa_1_3 hTq_14
  have hFq_17 : cFr [3, 4, 5, 6, 7] [(1, 1), (1, 2), (1, 3), (1, 6), (1, 8), (1, 9), (2, 2), (2, 3), (2, 4)] q q_17 := by rw [eq_17]; exact hFq_14.f (by decide)
  refine dOk_L (fun q_21 eq_21 => ?_)
  have f_22 : 0 ≤ Int32.toInt (q_17.1 49 6) ∧ Int32.toInt (q_17.1 49 6) ≤ 6 := rg_49_6 hTq_17
  have f_23 : 0 ≤ Int32.toInt (q_14.1 49 6) ∧ Int32.toInt (q_14.1 49 6) ≤ 6 := rg_49_6 hTq_14
  have f_24 : 0 ≤ Int32.toInt (q_10.1 49 6) ∧ Int32.toInt (q_10.1 49 6) ≤ 6 := rg_49_6 hTq_10
  have f_25 : 0 ≤ Int32.toInt (q_6.1 49 6) ∧ Int32.toInt (q_6.1 49 6) ≤ 6 := rg_49_6 i_8
  have f_26 : 0 ≤ Int32.toInt (q.1 49 6) ∧ Int32.toInt (q.1 49 6) ≤ 6 := rg_49_6 hT
  have w_27 : Int32.toInt (q_6.1 49 6) = Int32.toInt (q.1 49 6) := by rw [i_9.1 49 6 (by decide) (by decide)]
  have w_28 : Int32.toInt (q_10.1 49 6) = Int32.toInt (q_6.1 49 6) := by rw [eq_10, cui_o (by decide)]
  have w_29 : Int32.toInt (q_14.1 49 6) = Int32.toInt (q_10.1 49 6) := by rw [eq_14, cui_o (by decide)]
  have w_30 : Int32.toInt (q_17.1 49 6) = Int32.toInt (q_14.1 49 6) := by rw [eq_17, cui_o (by decide)]
  have hTq_21 : TC q_21 := by rw [eq_21]; exact st_1_6 hTq_17 (show (0 : Int) ≤ Int32.toInt (q_17.1 49 6) by omega) (show Int32.toInt (q_17.1 49 6) ≤ (6 : Int) by omega)
  have hFq_21 : cFr [3, 4, 5, 6, 7] [(1, 1), (1, 2), (1, 3), (1, 6), (1, 8), (1, 9), (2, 2), (2, 3), (2, 4)] q q_21 := by rw [eq_21]; exact hFq_17.f (by decide)
  unfold zX6_copyFrom_s1_s49_48
  refine dFix_ok (fun (a : dK × Int32) => (TC a.1) ∧ (cFr [5, 6] [] q_21 a.1) ∧ (0 ≤ Int32.toInt a.2) ∧ (Int32.toInt a.2 ≤ 6)) (fun (a : dK × Int32) => (6 - Int32.toInt a.2).toNat) ?_ _ ?_ _ (dF_gt ?_)
  · intro a ha k_32 hk_31
    obtain ⟨q_33, x2_34⟩ := a
    replace ha : (TC q_33) ∧ (cFr [5, 6] [] q_21 q_33) ∧ (0 ≤ Int32.toInt x2_34) ∧ (Int32.toInt x2_34 ≤ 6) := ha
    obtain ⟨a_35, a_36, a_37, a_38⟩ := ha
    show dOk (zX6_copyFrom_s1_s49_48b  (fun q x2 => k_32 (q, x2)) q_33 x2_34) _
    unfold zX6_copyFrom_s1_s49_48b
    have hFq_33 : cFr [3, 4, 5, 6, 7] [(1, 1), (1, 2), (1, 3), (1, 6), (1, 8), (1, 9), (2, 2), (2, 3), (2, 4)] q q_33 := hFq_21.t a_36 (by decide) (by decide)
    refine dOk_le (A := 6) (B := Int32.toInt x2_34) (by decide) rfl (fun c_39 => ?_) (fun c_40 => ?_)
    · refine dOk_L (fun q_41 eq_41 => ?_)
      have f_42 : 0 ≤ Int32.toInt (q_33.1 49 8) ∧ Int32.toInt (q_33.1 49 8) ≤ 6 := rg_49_8 a_35
      have f_43 : 0 ≤ Int32.toInt (q_21.1 49 8) ∧ Int32.toInt (q_21.1 49 8) ≤ 6 := rg_49_8 hTq_21
      have f_44 : 0 ≤ Int32.toInt (q_17.1 49 8) ∧ Int32.toInt (q_17.1 49 8) ≤ 6 := rg_49_8 hTq_17
      have f_45 : 0 ≤ Int32.toInt (q_14.1 49 8) ∧ Int32.toInt (q_14.1 49 8) ≤ 6 := rg_49_8 hTq_14
      have f_46 : 0 ≤ Int32.toInt (q_10.1 49 8) ∧ Int32.toInt (q_10.1 49 8) ≤ 6 := rg_49_8 hTq_10
      have f_47 : 0 ≤ Int32.toInt (q_6.1 49 8) ∧ Int32.toInt (q_6.1 49 8) ≤ 6 := rg_49_8 i_8
      have f_48 : 0 ≤ Int32.toInt (q.1 49 8) ∧ Int32.toInt (q.1 49 8) ≤ 6 := rg_49_8 hT
      have w_49 : Int32.toInt (q_6.1 49 8) = Int32.toInt (q.1 49 8) := by rw [i_9.1 49 8 (by decide) (by decide)]
      have w_50 : Int32.toInt (q_10.1 49 8) = Int32.toInt (q_6.1 49 8) := by rw [eq_10, cui_o (by decide)]
      have w_51 : Int32.toInt (q_14.1 49 8) = Int32.toInt (q_10.1 49 8) := by rw [eq_14, cui_o (by decide)]
      have w_52 : Int32.toInt (q_17.1 49 8) = Int32.toInt (q_14.1 49 8) := by rw [eq_17, cui_o (by decide)]
      have w_53 : Int32.toInt (q_21.1 49 8) = Int32.toInt (q_17.1 49 8) := by rw [eq_21, cui_o (by decide)]
      have w_54 : Int32.toInt (q_33.1 49 8) = Int32.toInt (q_21.1 49 8) := by rw [a_36.1 49 8 (by decide) (by decide)]
      have hTq_41 : TC q_41 := by rw [eq_41]; exact st_1_8 a_35 (show (0 : Int) ≤ Int32.toInt (q_33.1 49 8) by omega) (show Int32.toInt (q_33.1 49 8) ≤ (6 : Int) by omega)
      have hFq_41 : cFr [3, 4, 5, 6, 7] [(1, 1), (1, 2), (1, 3), (1, 6), (1, 8), (1, 9), (2, 2), (2, 3), (2, 4)] q q_41 := by rw [eq_41]; exact hFq_33.f (by decide)
      unfold zX6_copyFrom_s1_s49_94
      refine dFix_ok (fun (a : dK × Int32) => (TC a.1) ∧ (cFr [7] [] q_41 a.1) ∧ (0 ≤ Int32.toInt a.2) ∧ (Int32.toInt a.2 ≤ 6)) (fun (a : dK × Int32) => (6 - Int32.toInt a.2).toNat) ?_ _ ?_ _ (dF_gt ?_)
      · intro a ha k_56 hk_55
        obtain ⟨q_57, x2_58⟩ := a
        replace ha : (TC q_57) ∧ (cFr [7] [] q_41 q_57) ∧ (0 ≤ Int32.toInt x2_58) ∧ (Int32.toInt x2_58 ≤ 6) := ha
        obtain ⟨a_59, a_60, a_61, a_62⟩ := ha
        show dOk (zX6_copyFrom_s1_s49_94b  (fun q x2 => k_56 (q, x2)) q_57 x2_58) _
        unfold zX6_copyFrom_s1_s49_94b
        have hFq_57 : cFr [3, 4, 5, 6, 7] [(1, 1), (1, 2), (1, 3), (1, 6), (1, 8), (1, 9), (2, 2), (2, 3), (2, 4)] q q_57 := hFq_41.t a_60 (by decide) (by decide)
        refine dOk_le (A := 6) (B := Int32.toInt x2_58) (by decide) rfl (fun c_63 => ?_) (fun c_64 => ?_)
        · refine dOk_L (fun q_65 eq_65 => ?_)
          have w_66 : Int32.toInt (q_6.1 49 9) = Int32.toInt (q.1 49 9) := by rw [i_9.1 49 9 (by decide) (by decide)]
          have w_67 : Int32.toInt (q_10.1 49 9) = Int32.toInt (q_6.1 49 9) := by rw [eq_10, cui_o (by decide)]
          have w_68 : Int32.toInt (q_14.1 49 9) = Int32.toInt (q_10.1 49 9) := by rw [eq_14, cui_o (by decide)]
          have w_69 : Int32.toInt (q_17.1 49 9) = Int32.toInt (q_14.1 49 9) := by rw [eq_17, cui_o (by decide)]
          have w_70 : Int32.toInt (q_21.1 49 9) = Int32.toInt (q_17.1 49 9) := by rw [eq_21, cui_o (by decide)]
          have w_71 : Int32.toInt (q_33.1 49 9) = Int32.toInt (q_21.1 49 9) := by rw [a_36.1 49 9 (by decide) (by decide)]
          have w_72 : Int32.toInt (q_41.1 49 9) = Int32.toInt (q_33.1 49 9) := by rw [eq_41, cui_o (by decide)]
          have w_73 : Int32.toInt (q_57.1 49 9) = Int32.toInt (q_41.1 49 9) := by rw [a_60.1 49 9 (by decide) (by decide)]
          have hTq_65 : TC q_65 := by rw [eq_65]; exact sa_1_9 a_59
          have hFq_65 : cFr [3, 4, 5, 6, 7] [(1, 1), (1, 2), (1, 3), (1, 6), (1, 8), (1, 9), (2, 2), (2, 3), (2, 4)] q q_65 := by rw [eq_65]; exact hFq_57.f (by decide)
          have f_74 : 0 ≤ Int32.toInt (q_65.1 1 6) ∧ Int32.toInt (q_65.1 1 6) ≤ 6 := rg_1_6 hTq_65
          have f_75 : 0 ≤ Int32.toInt (q_57.1 1 6) ∧ Int32.toInt (q_57.1 1 6) ≤ 6 := rg_1_6 a_59
          have f_76 : 0 ≤ Int32.toInt (q_41.1 1 6) ∧ Int32.toInt (q_41.1 1 6) ≤ 6 := rg_1_6 hTq_41
          have f_77 : 0 ≤ Int32.toInt (q_33.1 1 6) ∧ Int32.toInt (q_33.1 1 6) ≤ 6 := rg_1_6 a_35
          have f_78 : 0 ≤ Int32.toInt (q_21.1 1 6) ∧ Int32.toInt (q_21.1 1 6) ≤ 6 := rg_1_6 hTq_21
          have w_79 : Int32.toInt (q_21.1 1 6) = Int32.toInt (q_17.1 49 6) := by rw [eq_21, cui_e]
          have w_80 : Int32.toInt (q_33.1 1 6) = Int32.toInt (q_21.1 1 6) := by rw [a_36.1 1 6 (by decide) (by decide)]
          have w_81 : Int32.toInt (q_41.1 1 6) = Int32.toInt (q_33.1 1 6) := by rw [eq_41, cui_n (by decide)]
          have w_82 : Int32.toInt (q_57.1 1 6) = Int32.toInt (q_41.1 1 6) := by rw [a_60.1 1 6 (by decide) (by decide)]
          have w_83 : Int32.toInt (q_65.1 1 6) = Int32.toInt (q_57.1 1 6) := by rw [eq_65, cui_n (by decide)]
          have f_84 : 0 ≤ Int32.toInt (q_65.1 1 1) ∧ Int32.toInt (q_65.1 1 1) ≤ 10 := rg_1_1 hTq_65
          have f_85 : 0 ≤ Int32.toInt (q_57.1 1 1) ∧ Int32.toInt (q_57.1 1 1) ≤ 10 := rg_1_1 a_59
          have f_86 : 0 ≤ Int32.toInt (q_41.1 1 1) ∧ Int32.toInt (q_41.1 1 1) ≤ 10 := rg_1_1 hTq_41
          have f_87 : 0 ≤ Int32.toInt (q_33.1 1 1) ∧ Int32.toInt (q_33.1 1 1) ≤ 10 := rg_1_1 a_35
          have f_88 : 0 ≤ Int32.toInt (q_21.1 1 1) ∧ Int32.toInt (q_21.1 1 1) ≤ 10 := rg_1_1 hTq_21
          have f_89 : 0 ≤ Int32.toInt (q_17.1 1 1) ∧ Int32.toInt (q_17.1 1 1) ≤ 10 := rg_1_1 hTq_17
          have f_90 : 0 ≤ Int32.toInt (q_14.1 1 1) ∧ Int32.toInt (q_14.1 1 1) ≤ 10 := rg_1_1 hTq_14
          have f_91 : 0 ≤ Int32.toInt (q_10.1 1 1) ∧ Int32.toInt (q_10.1 1 1) ≤ 10 := rg_1_1 hTq_10
          have w_92 : Int32.toInt (q_10.1 1 1) = Int32.toInt (q_6.1 49 1) := by rw [eq_10, cui_e]
          have w_93 : Int32.toInt (q_14.1 1 1) = Int32.toInt (q_10.1 1 1) := by rw [eq_14, cui_n (by decide)]
          have w_94 : Int32.toInt (q_17.1 1 1) = Int32.toInt (q_14.1 1 1) := by rw [eq_17, cui_n (by decide)]
          have w_95 : Int32.toInt (q_21.1 1 1) = Int32.toInt (q_17.1 1 1) := by rw [eq_21, cui_n (by decide)]
          have w_96 : Int32.toInt (q_33.1 1 1) = Int32.toInt (q_21.1 1 1) := by rw [a_36.1 1 1 (by decide) (by decide)]
          have w_97 : Int32.toInt (q_41.1 1 1) = Int32.toInt (q_33.1 1 1) := by rw [eq_41, cui_n (by decide)]
          have w_98 : Int32.toInt (q_57.1 1 1) = Int32.toInt (q_41.1 1 1) := by rw [a_60.1 1 1 (by decide) (by decide)]
          have w_99 : Int32.toInt (q_65.1 1 1) = Int32.toInt (q_57.1 1 1) := by rw [eq_65, cui_n (by decide)]
          exact dOk_some (show (TC q_65) ∧ (cFr [3, 4, 5, 6, 7] [(1, 1), (1, 2), (1, 3), (1, 6), (1, 8), (1, 9), (2, 2), (2, 3), (2, 4)] q q_65) ∧ (Int32.toInt (q_65.1 1 6) = Int32.toInt (q.1 49 6)) ∧ (Int32.toInt (q_65.1 1 1) = Int32.toInt (q.1 49 1)) from ⟨hTq_65, hFq_65, by omega, by omega⟩)
        · refine dOk_G (dg_ok (show 0 ≤ Int32.toInt x2_58 by omega) (show Int32.toInt x2_58 < ((6 : Nat) : Int) by omega)) ?_
          have n_100 : ((Int32.toNatClampNeg x2_58 : Nat) : Int) = Int32.toInt x2_58 := cl_eq (by omega)
          refine dOk_L (fun v_101 ev_101 => ?_)
          have f_102 : 0 ≤ Int32.toInt v_101 ∧ Int32.toInt v_101 ≤ 2147483647 := by rw [ev_101]; exact rg_55 a_59 _
          have f_103 : Int32.toInt v_101 ≤ (q_57.2.2.length : Int) := by rw [ev_101]; exact (a_59.2.1.2 _).2.1
          refine dOk_G (dg_ok (show 0 ≤ Int32.toInt x2_58 by omega) (show Int32.toInt x2_58 < ((6 : Nat) : Int) by omega)) ?_
          refine dOk_eq (A := Int32.toInt v_101) (B := 0) rfl (by decide) (fun c_104z c_104 => ?_) (fun c_105z c_105 => ?_)
          · refine dOk_L (fun q_107 eq_107 => ?_)
            have n_108 : q_6.2.2.length = q.2.2.length := (congrArg List.length i_9.2)
            have n_109 : q_10.2.2.length = q_6.2.2.length := (by rw [eq_10]; rfl)
            have n_110 : q_14.2.2.length = q_10.2.2.length := (by rw [eq_14]; rfl)
            have n_111 : q_17.2.2.length = q_14.2.2.length := (by rw [eq_17]; rfl)
            have n_112 : q_21.2.2.length = q_17.2.2.length := (by rw [eq_21]; rfl)
            have n_113 : q_33.2.2.length = q_21.2.2.length := (congrArg List.length a_36.2)
            have n_114 : q_41.2.2.length = q_33.2.2.length := (by rw [eq_41]; rfl)
            have n_115 : q_57.2.2.length = q_41.2.2.length := (congrArg List.length a_60.2)
            have hTq_107 : TC q_107 := by rw [eq_107]; exact tc_law a_59 (by omega) (show 0 ≤ (0 : Int) by omega) (show (0 : Int) ≤ (q_57.2.2.length : Int) by omega)
            have hFq_107 : cFr [3, 4, 5, 6, 7] [(1, 1), (1, 2), (1, 3), (1, 6), (1, 8), (1, 9), (2, 2), (2, 3), (2, 4)] q q_107 := by rw [eq_107]; exact hFq_57.i (by decide)
            try have t_116 : Int32.toInt (x2_58 + 1) = Int32.toInt x2_58 + 1 := ti_add rfl (by decide) (by omega) (by omega)
            exact hk_55 (q_107, (x2_58 + 1)) (show (TC q_107) ∧ (cFr [7] [] q_41 q_107) ∧ (0 ≤ Int32.toInt (x2_58 + 1)) ∧ (Int32.toInt (x2_58 + 1) ≤ 6) from ⟨hTq_107, (by rw [eq_107]; exact (((cFr.rf : cFr [7] [] q_41 q_41).t a_60 (by decide) (by decide)) : cFr [7] [] q_41 q_57).i (by decide)), by omega, by omega⟩) (show (6 - Int32.toInt (x2_58 + 1)).toNat < (6 - Int32.toInt x2_58).toNat by omega)
          · have n_117 : q_6.2.2.length = q.2.2.length := (congrArg List.length i_9.2)
            have n_118 : q_10.2.2.length = q_6.2.2.length := (by rw [eq_10]; rfl)
            have n_119 : q_14.2.2.length = q_10.2.2.length := (by rw [eq_14]; rfl)
            have n_120 : q_17.2.2.length = q_14.2.2.length := (by rw [eq_17]; rfl)
            have n_121 : q_21.2.2.length = q_17.2.2.length := (by rw [eq_21]; rfl)
            have n_122 : q_33.2.2.length = q_21.2.2.length := (congrArg List.length a_36.2)
            have n_123 : q_41.2.2.length = q_33.2.2.length := (by rw [eq_41]; rfl)
            have n_124 : q_57.2.2.length = q_41.2.2.length := (congrArg List.length a_60.2)
            have g_125 : dlg q_57 v_101 = true := tc_dlg a_59 (show ¬ Int32.toInt v_101 = 0 by omega) (show 0 ≤ Int32.toInt v_101 by omega) (show Int32.toInt v_101 ≤ (q_57.2.2.length : Int) by omega)
            refine dOk_G g_125 ?_
            refine dOk_L (fun q_126 eq_126 => ?_)
            have hTq_126 : TC q_126 := by rw [eq_126]; exact tc_law a_59 (by omega) (show 0 ≤ Int32.toInt v_101 by omega) (show Int32.toInt v_101 ≤ (q_57.2.2.length : Int) by omega)
            have hFq_126 : cFr [3, 4, 5, 6, 7] [(1, 1), (1, 2), (1, 3), (1, 6), (1, 8), (1, 9), (2, 2), (2, 3), (2, 4)] q q_126 := by rw [eq_126]; exact hFq_57.i (by decide)
            try have t_127 : Int32.toInt (x2_58 + 1) = Int32.toInt x2_58 + 1 := ti_add rfl (by decide) (by omega) (by omega)
            exact hk_55 (q_126, (x2_58 + 1)) (show (TC q_126) ∧ (cFr [7] [] q_41 q_126) ∧ (0 ≤ Int32.toInt (x2_58 + 1)) ∧ (Int32.toInt (x2_58 + 1) ≤ 6) from ⟨hTq_126, (by rw [eq_126]; exact (((cFr.rf : cFr [7] [] q_41 q_41).t a_60 (by decide) (by decide)) : cFr [7] [] q_41 q_57).i (by decide)), by omega, by omega⟩) (show (6 - Int32.toInt (x2_58 + 1)).toNat < (6 - Int32.toInt x2_58).toNat by omega)
      · exact (show (TC q_41) ∧ (cFr [7] [] q_41 q_41) ∧ (0 ≤ (0 : Int)) ∧ ((0 : Int) ≤ 6) from ⟨hTq_41, cFr.rf, by omega, by omega⟩)
      · show (6 - (0 : Int)).toNat < 1000000000000
        omega
    · refine dOk_G (dg_ok (show 0 ≤ Int32.toInt x2_34 by omega) (show Int32.toInt x2_34 < ((6 : Nat) : Int) by omega)) ?_
      have n_128 : ((Int32.toNatClampNeg x2_34 : Nat) : Int) = Int32.toInt x2_34 := cl_eq (by omega)
      refine dOk_L (fun v_129 ev_129 => ?_)
      refine dOk_G (dg_ok (show 0 ≤ Int32.toInt x2_34 by omega) (show Int32.toInt x2_34 < ((6 : Nat) : Int) by omega)) ?_
      refine dOk_L (fun q_130 eq_130 => ?_)
      have hTq_130 : TC q_130 := by rw [eq_130]; exact sa_5 a_35
      have hFq_130 : cFr [3, 4, 5, 6, 7] [(1, 1), (1, 2), (1, 3), (1, 6), (1, 8), (1, 9), (2, 2), (2, 3), (2, 4)] q q_130 := by rw [eq_130]; exact hFq_33.i (by decide)
      refine dOk_G (dg_ok (show 0 ≤ Int32.toInt x2_34 by omega) (show Int32.toInt x2_34 < ((6 : Nat) : Int) by omega)) ?_
      refine dOk_L (fun v_131 ev_131 => ?_)
      refine dOk_G (dg_ok (show 0 ≤ Int32.toInt x2_34 by omega) (show Int32.toInt x2_34 < ((6 : Nat) : Int) by omega)) ?_
      refine dOk_L (fun q_132 eq_132 => ?_)
      have hTq_132 : TC q_132 := by rw [eq_132]; exact sa_6 hTq_130
      have hFq_132 : cFr [3, 4, 5, 6, 7] [(1, 1), (1, 2), (1, 3), (1, 6), (1, 8), (1, 9), (2, 2), (2, 3), (2, 4)] q q_132 := by rw [eq_132]; exact hFq_130.i (by decide)
      try have t_133 : Int32.toInt (x2_34 + 1) = Int32.toInt x2_34 + 1 := ti_add rfl (by decide) (by omega) (by omega)
      exact hk_31 (q_132, (x2_34 + 1)) (show (TC q_132) ∧ (cFr [5, 6] [] q_21 q_132) ∧ (0 ≤ Int32.toInt (x2_34 + 1)) ∧ (Int32.toInt (x2_34 + 1) ≤ 6) from ⟨hTq_132, (by rw [eq_132]; exact ((by rw [eq_130]; exact (((cFr.rf : cFr [5, 6] [] q_21 q_21).t a_36 (by decide) (by decide)) : cFr [5, 6] [] q_21 q_33).i (by decide)) : cFr [5, 6] [] q_21 q_130).i (by decide)), by omega, by omega⟩) (show (6 - Int32.toInt (x2_34 + 1)).toNat < (6 - Int32.toInt x2_34).toNat by omega)
  · exact (show (TC q_21) ∧ (cFr [5, 6] [] q_21 q_21) ∧ (0 ≤ (0 : Int)) ∧ ((0 : Int) ≤ 6) from ⟨hTq_21, cFr.rf, by omega, by omega⟩)
  · show (6 - (0 : Int)).toNat < 1000000000000
    omega
